def A_X5_swear_r (M : MS) (st : Nat) (x y : Int32) : Int32 := (if (m_isP (M.2.1 0) x) = true then (if (m_in y.toInt64 1 12) = true then o_putsR (o_setI M 2 0) st (48 + 8 * x.toNatClampNeg + 1) else 0) else (if (m_in y.toInt64 1 12) = true then 0 else 0))
def A_X5_swear_s0 (M : MS) (st : Nat) (x y : Int32) : MS := (if (m_isP (M.2.1 0) x) = true then (if (m_in y.toInt64 1 12) = true then (o_puts (o_setI M 2 0) st (48 + 8 * x.toNatClampNeg + 1) y) else o_setI M 2 2) else (if (m_in y.toInt64 1 12) = true then o_setI M 2 1 else o_setI M 2 1))
set_option maxHeartbeats 1000000 in
set_option maxRecDepth 100000 in
theorem c_X5_swear (l : Launch) (D : va_G) (q : Nat → Nat) (cI cJ : ClassId) (M : MS) (x y : Int32) (st : Nat) (hst : M.1 0 = nI st) (hst4 : st ≤ 4) (n : Nat) (hn : M.2.1 0 7 = lN n) (hn6 : n ≤ 6) : kI l yX5_swear wsX5_swear ({ frames := 2, cells := 0, slots := 0, locals := 46 } : Room) D [(cI, .int), (cJ, .long)] [.ref (q 0), .int x, .int y] (moW q cI cJ M) (A_X5_swear_r M st x y) (moW q cI cJ (A_X5_swear_s0 M st x y)) := by
  refine kBody.met (cc := cX5_swear) (maxL := 3) (ret := (some .int)) (by decide) rfl (Nat.le_of_ble_eq_true rfl) ?_
  intro p9 e9 s9 m9 below meth c9 A9 ls hx hb hr hml hts hown hlk hK hP hD hA hl
  have hown : s9.vm.findClass RX5 = some m9.cls := hown
  have inX5 : ∀ w ∈ wsX50, w ∈ wsX5_swear := fun w h => List.mem_cons_of_mem _ (List.mem_append_right _ (h))
  have hS : va_S A9 s9.heap s9.heap [] := va_S.rf
  have hl : lv_has ls 3 [(0, .ref (q 0)), (1, .int x), (2, .int y)] := hl
  refine lv_aload_n hx hb dX5_swear_0 rfl (lv_at hl 0 rfl) ?_
  refine lv_aload_n hx hb dX5_swear_1 rfl (lv_at hl 0 rfl) ?_
  refine lv_iload_n hx hb dX5_swear_2 rfl (lv_at hl 1 rfl) ?_
  refine k_calli (a := []) (z := []) (wc := moW q cI cJ M) (wc' := moW q cI cJ M) (w' := moW q cI cJ M) (va_runV (As := [.int x]) (rest := [.ref (q 0)]) ⟨hx, hb, hml, hown, hts⟩ (c_X5_isPump l D q cI cJ M x _) (cwV 1 hts gX5_swear_X5_isPump rfl rfl rfl (by decide +kernel) ⟨Nat.le_of_ble_eq_true rfl, Nat.le_of_ble_eq_true rfl⟩) ⟨kB_blind, va_recv hK hP (ci := 5) (q0 := 0) rfl rfl, k_pre (a := []) (z := []) (k_w0 _) hK hP hD⟩ rfl rfl hl.1 rfl (lv_room (Nat.le_of_ble_eq_true rfl)) dX5_swear_3 ⟨Nat.zero_le _, Nat.zero_le _⟩) (k_w0 _) (k_w0 _) (moW_ad _ _ _ _ _) hP hD hS hA (fun H locs hP hD hS => ?_)
  refine lv_if_ne (tgt := 13) hx hb dX5_swear_6 (by decide) (fun c_6_0 => ?_) (fun c_6_0 => ?_)
  · have c_6_0 : (m_isP (M.2.1 0) x) = true := bi_n.mp c_6_0
    obtain ⟨hp1, hp9⟩ := m_isPn c_6_0 hn hn6
    refine lv_iconst (v := 0) hx hb dX5_swear_13 (by decide) ?_
    refine lv_iload_n hx hb dX5_swear_14 rfl (lv_at hl 2 rfl) ?_
    refine lv_i2l hx hb dX5_swear_15 rfl ?_
    refine lv_lconst (v := 1) hx hb dX5_swear_16 (by decide) ?_
    refine lv_ldc2 (v := 12) hx hb hown (hts (.constantLong RX5 78 (12)) (List.mem_of_getElem? (i := 1) rfl)) dX5_swear_17 ?_
    refine k_calli (a := []) (z := moW q cI cJ M) (wc := []) (wc' := []) (w' := moW q cI cJ M) (va_runS (As := [.long y.toInt64, .long 1, .long 12]) (rest := [.int 0, .ref (q 0)]) ⟨hx, hb, hml, hown, hts⟩ (c_X5_in l D cI cJ y.toInt64 1 12 _) (cwS 3 hts gX5_swear_X5_in rfl rfl rfl (by decide +kernel) ⟨Nat.le_of_ble_eq_true rfl, Nat.le_of_ble_eq_true rfl⟩) ⟨kB_blind, k_pre (a := []) (z := moW q cI cJ M) rfl hK hP hD⟩ rfl rfl hl.1 rfl (lv_room (Nat.le_of_ble_eq_true rfl)) dX5_swear_20 ⟨Nat.zero_le _, Nat.zero_le _⟩) rfl rfl rfl hP hD hS hA (fun H locs hP hD hS => ?_)
    refine lv_if_ne (tgt := 30) hx hb dX5_swear_23 (by decide) (fun c_23_1 => ?_) (fun c_23_1 => ?_)
    · have c_23_1 : (m_in y.toInt64 1 12) = true := bi_n.mp c_23_1
      refine lv_iconst (v := 0) hx hb dX5_swear_30 (by decide) ?_
      refine k_calli (a := []) (z := []) (wc := moW q cI cJ M) (wc' := moW q cI cJ (o_setI M 2 0)) (w' := moW q cI cJ (o_setI M 2 0)) (va_runV (As := [.int 0, .int 0]) (rest := []) ⟨hx, hb, hml, hown, hts⟩ (c_X5_goes00 l D q cI cJ M _) (cwV 2 hts gX5_swear_X5_goes rfl rfl rfl (by decide +kernel) ⟨Nat.le_of_ble_eq_true rfl, Nat.le_of_ble_eq_true rfl⟩) ⟨kB_blind, va_recv hK hP (ci := 5) (q0 := 0) rfl rfl, k_pre (a := []) (z := []) (k_w0 _) hK hP hD⟩ rfl rfl hl.1 rfl (lv_room (Nat.le_of_ble_eq_true rfl)) dX5_swear_31 ⟨Nat.zero_le _, Nat.zero_le _⟩) (k_w0 _) (k_w0 _) (moW_ad _ _ _ _ _) hP hD hS hA (fun H locs hP hD hS => ?_)
      refine lv_if_eq (tgt := 50) hx hb dX5_swear_34 (by decide) (fun h => absurd h (by decide)) (fun _ => ?_)
      refine lv_aload_n hx hb dX5_swear_37 rfl (lv_at hl 0 rfl) ?_
      refine lv_iload_n hx hb dX5_swear_38 rfl (lv_at hl 1 rfl) ?_
      refine lv_iconst (v := 1) hx hb dX5_swear_39 (by decide) ?_
      refine k_calli (a := []) (z := moW q cI cJ (o_setI M 2 0)) (wc := []) (wc' := []) (w' := moW q cI cJ (o_setI M 2 0)) (va_runS (As := [.int x, .int 1]) (rest := [.ref (q 0)]) ⟨hx, hb, hml, hown, hts⟩ (c_X5_p l D cI cJ x 1 _) (cwS 2 hts gX5_swear_X5_p rfl rfl rfl (by decide +kernel) ⟨Nat.le_of_ble_eq_true rfl, Nat.le_of_ble_eq_true rfl⟩) ⟨kB_blind, k_pre (a := []) (z := moW q cI cJ (o_setI M 2 0)) rfl hK hP hD⟩ rfl rfl hl.1 rfl (lv_room (Nat.le_of_ble_eq_true rfl)) dX5_swear_40 ⟨Nat.zero_le _, Nat.zero_le _⟩) rfl rfl rfl hP hD hS hA (fun H locs hP hD hS => ?_)
      rw [show 48 + 8 * x + 1 = nI (48 + 8 * x.toNatClampNeg + 1) from (by rw [← k_p, hp9]; rfl)]
      refine lv_iload_n hx hb dX5_swear_43 rfl (lv_at hl 2 rfl) ?_
      refine k_calli (a := []) (z := []) (wc := moW q cI cJ (o_setI M 2 0)) (wc' := moW q cI cJ (o_puts (o_setI M 2 0) st (48 + 8 * x.toNatClampNeg + 1) y)) (w' := moW q cI cJ (o_puts (o_setI M 2 0) st (48 + 8 * x.toNatClampNeg + 1) y)) (va_runV (As := [.int (nI (48 + 8 * x.toNatClampNeg + 1)), .int y]) (rest := []) ⟨hx, hb, hml, hown, hts⟩ (c_X5_puts l D q cI cJ (o_setI M 2 0) (48 + 8 * x.toNatClampNeg + 1) y (by omega) st hst hst4 _) (cwV 2 hts gX5_swear_X5_puts rfl rfl rfl (by decide +kernel) ⟨Nat.le_of_ble_eq_true rfl, Nat.le_of_ble_eq_true rfl⟩) ⟨kB_blind, va_recv hK hP (ci := 5) (q0 := 0) rfl rfl, k_pre (a := []) (z := []) (k_w0 _) hK hP hD⟩ rfl rfl hl.1 rfl (lv_room (Nat.le_of_ble_eq_true rfl)) dX5_swear_44 ⟨Nat.zero_le _, Nat.zero_le _⟩) (k_w0 _) (k_w0 _) (moW_ad _ _ _ _ _) hP hD hS hA (fun H locs hP hD hS => ?_)
      obtain ⟨T_4, hT_4⟩ : ∃ T9, T9 = o_puts (o_setI M 2 0) st (48 + 8 * x.toNatClampNeg + 1) y := ⟨_, rfl⟩
      rw [← hT_4] at hP hD
      refine lv_goto (tgt := 51) hx hb dX5_swear_47 (by decide) ?_
      exact k_iret hx hb hr hlk hP hS dX5_swear_51 rfl (by rw [A_X5_swear_r, if_pos c_6_0, if_pos c_23_1]) (k_P (congrArg (fun T9 => moW q cI cJ T9) (show T_4 = (A_X5_swear_s0 M st x y) from by rw [hT_4, A_X5_swear_s0, if_pos c_6_0, if_pos c_23_1])))
    · have c_23_1 : (m_in y.toInt64 1 12) = false := bi_0.mp c_23_1
      refine lv_iconst (v := 1) hx hb dX5_swear_26 (by decide) ?_
      refine lv_goto (tgt := 31) hx hb dX5_swear_27 (by decide) ?_
      refine k_calli (a := []) (z := []) (wc := moW q cI cJ M) (wc' := moW q cI cJ (o_setI M 2 2)) (w' := moW q cI cJ (o_setI M 2 2)) (va_runV (As := [.int 0, .int 1]) (rest := []) ⟨hx, hb, hml, hown, hts⟩ (c_X5_goes01 l D q cI cJ M _) (cwV 2 hts gX5_swear_X5_goes rfl rfl rfl (by decide +kernel) ⟨Nat.le_of_ble_eq_true rfl, Nat.le_of_ble_eq_true rfl⟩) ⟨kB_blind, va_recv hK hP (ci := 5) (q0 := 0) rfl rfl, k_pre (a := []) (z := []) (k_w0 _) hK hP hD⟩ rfl rfl hl.1 rfl (lv_room (Nat.le_of_ble_eq_true rfl)) dX5_swear_31 ⟨Nat.zero_le _, Nat.zero_le _⟩) (k_w0 _) (k_w0 _) (moW_ad _ _ _ _ _) hP hD hS hA (fun H locs hP hD hS => ?_)
      refine lv_if_eq (tgt := 50) hx hb dX5_swear_34 (by decide) (fun _ => ?_) (fun h => absurd h (by decide))
      refine lv_iconst (v := 0) hx hb dX5_swear_50 (by decide) ?_
      exact k_iret hx hb hr hlk hP hS dX5_swear_51 rfl (by rw [A_X5_swear_r, if_pos c_6_0, if_neg (bi_nt c_23_1)]) (k_P (congrArg (fun T9 => moW q cI cJ T9) (show (o_setI M 2 2) = (A_X5_swear_s0 M st x y) from by rw [A_X5_swear_s0, if_pos c_6_0, if_neg (bi_nt c_23_1)])))
  · have c_6_0 : (m_isP (M.2.1 0) x) = false := bi_0.mp c_6_0
    refine lv_iconst (v := 1) hx hb dX5_swear_9 (by decide) ?_
    refine lv_goto (tgt := 14) hx hb dX5_swear_10 (by decide) ?_
    refine lv_iload_n hx hb dX5_swear_14 rfl (lv_at hl 2 rfl) ?_
    refine lv_i2l hx hb dX5_swear_15 rfl ?_
    refine lv_lconst (v := 1) hx hb dX5_swear_16 (by decide) ?_
    refine lv_ldc2 (v := 12) hx hb hown (hts (.constantLong RX5 78 (12)) (List.mem_of_getElem? (i := 1) rfl)) dX5_swear_17 ?_
    refine k_calli (a := []) (z := moW q cI cJ M) (wc := []) (wc' := []) (w' := moW q cI cJ M) (va_runS (As := [.long y.toInt64, .long 1, .long 12]) (rest := [.int 1, .ref (q 0)]) ⟨hx, hb, hml, hown, hts⟩ (c_X5_in l D cI cJ y.toInt64 1 12 _) (cwS 3 hts gX5_swear_X5_in rfl rfl rfl (by decide +kernel) ⟨Nat.le_of_ble_eq_true rfl, Nat.le_of_ble_eq_true rfl⟩) ⟨kB_blind, k_pre (a := []) (z := moW q cI cJ M) rfl hK hP hD⟩ rfl rfl hl.1 rfl (lv_room (Nat.le_of_ble_eq_true rfl)) dX5_swear_20 ⟨Nat.zero_le _, Nat.zero_le _⟩) rfl rfl rfl hP hD hS hA (fun H locs hP hD hS => ?_)
    refine lv_if_ne (tgt := 30) hx hb dX5_swear_23 (by decide) (fun c_23_5 => ?_) (fun c_23_5 => ?_)
    · have c_23_5 : (m_in y.toInt64 1 12) = true := bi_n.mp c_23_5
      refine lv_iconst (v := 0) hx hb dX5_swear_30 (by decide) ?_
      refine k_calli (a := []) (z := []) (wc := moW q cI cJ M) (wc' := moW q cI cJ (o_setI M 2 1)) (w' := moW q cI cJ (o_setI M 2 1)) (va_runV (As := [.int 1, .int 0]) (rest := []) ⟨hx, hb, hml, hown, hts⟩ (c_X5_goes1 l D q cI cJ M 0 _) (cwV 2 hts gX5_swear_X5_goes rfl rfl rfl (by decide +kernel) ⟨Nat.le_of_ble_eq_true rfl, Nat.le_of_ble_eq_true rfl⟩) ⟨kB_blind, va_recv hK hP (ci := 5) (q0 := 0) rfl rfl, k_pre (a := []) (z := []) (k_w0 _) hK hP hD⟩ rfl rfl hl.1 rfl (lv_room (Nat.le_of_ble_eq_true rfl)) dX5_swear_31 ⟨Nat.zero_le _, Nat.zero_le _⟩) (k_w0 _) (k_w0 _) (moW_ad _ _ _ _ _) hP hD hS hA (fun H locs hP hD hS => ?_)
      refine lv_if_eq (tgt := 50) hx hb dX5_swear_34 (by decide) (fun _ => ?_) (fun h => absurd h (by decide))
      refine lv_iconst (v := 0) hx hb dX5_swear_50 (by decide) ?_
      exact k_iret hx hb hr hlk hP hS dX5_swear_51 rfl (by rw [A_X5_swear_r, if_neg (bi_nt c_6_0), if_pos c_23_5]) (k_P (congrArg (fun T9 => moW q cI cJ T9) (show (o_setI M 2 1) = (A_X5_swear_s0 M st x y) from by rw [A_X5_swear_s0, if_neg (bi_nt c_6_0), if_pos c_23_5])))
    · have c_23_5 : (m_in y.toInt64 1 12) = false := bi_0.mp c_23_5
      refine lv_iconst (v := 1) hx hb dX5_swear_26 (by decide) ?_
      refine lv_goto (tgt := 31) hx hb dX5_swear_27 (by decide) ?_
      refine k_calli (a := []) (z := []) (wc := moW q cI cJ M) (wc' := moW q cI cJ (o_setI M 2 1)) (w' := moW q cI cJ (o_setI M 2 1)) (va_runV (As := [.int 1, .int 1]) (rest := []) ⟨hx, hb, hml, hown, hts⟩ (c_X5_goes1 l D q cI cJ M 1 _) (cwV 2 hts gX5_swear_X5_goes rfl rfl rfl (by decide +kernel) ⟨Nat.le_of_ble_eq_true rfl, Nat.le_of_ble_eq_true rfl⟩) ⟨kB_blind, va_recv hK hP (ci := 5) (q0 := 0) rfl rfl, k_pre (a := []) (z := []) (k_w0 _) hK hP hD⟩ rfl rfl hl.1 rfl (lv_room (Nat.le_of_ble_eq_true rfl)) dX5_swear_31 ⟨Nat.zero_le _, Nat.zero_le _⟩) (k_w0 _) (k_w0 _) (moW_ad _ _ _ _ _) hP hD hS hA (fun H locs hP hD hS => ?_)
      refine lv_if_eq (tgt := 50) hx hb dX5_swear_34 (by decide) (fun _ => ?_) (fun h => absurd h (by decide))
      refine lv_iconst (v := 0) hx hb dX5_swear_50 (by decide) ?_
      exact k_iret hx hb hr hlk hP hS dX5_swear_51 rfl (by rw [A_X5_swear_r, if_neg (bi_nt c_6_0), if_neg (bi_nt c_23_5)]) (k_P (congrArg (fun T9 => moW q cI cJ T9) (show (o_setI M 2 1) = (A_X5_swear_s0 M st x y) from by rw [A_X5_swear_s0, if_neg (bi_nt c_6_0), if_neg (bi_nt c_23_5)])))

def A_X5_service_r (M : MS) (st : Nat) (x y : Int32) : Int32 := (if (m_isP (M.2.1 0) x) = true then (if ((M.2.1 0) (48 + 8 * x.toNatClampNeg + 2)) = 2 then (if y = 0 then 0 else (if (o_putsR (o_setI M 2 0) st (48 + 8 * x.toNatClampNeg + 2)) = 1 then 1 else 0)) else (if y = 1 then 0 else (if y = 0 then (if (o_putsR (o_setI M 2 0) st (48 + 8 * x.toNatClampNeg + 2)) = 1 then 1 else 0) else (if (o_putsR (o_setI M 2 0) st (48 + 8 * x.toNatClampNeg + 2)) = 1 then 1 else 0)))) else 0)
def A_X5_service_s0 (M : MS) (st : Nat) (x y : Int32) : MS := (if (m_isP (M.2.1 0) x) = true then (if ((M.2.1 0) (48 + 8 * x.toNatClampNeg + 2)) = 2 then (if y = 0 then o_setI M 2 2 else (if (o_putsR (o_setI M 2 0) st (48 + 8 * x.toNatClampNeg + 2)) = 1 then (o_puts (o_setI M 2 0) st (48 + 8 * x.toNatClampNeg + 2) 0) else (o_puts (o_setI M 2 0) st (48 + 8 * x.toNatClampNeg + 2) 0))) else (if y = 1 then o_setI M 2 2 else (if y = 0 then (if (o_putsR (o_setI M 2 0) st (48 + 8 * x.toNatClampNeg + 2)) = 1 then (o_puts (o_setI M 2 0) st (48 + 8 * x.toNatClampNeg + 2) 2) else (o_puts (o_setI M 2 0) st (48 + 8 * x.toNatClampNeg + 2) 2)) else (if (o_putsR (o_setI M 2 0) st (48 + 8 * x.toNatClampNeg + 2)) = 1 then (o_puts (o_setI M 2 0) st (48 + 8 * x.toNatClampNeg + 2) 0) else (o_puts (o_setI M 2 0) st (48 + 8 * x.toNatClampNeg + 2) 0))))) else o_setI M 2 1)
set_option maxHeartbeats 1000000 in
set_option maxRecDepth 100000 in
theorem c_X5_service (l : Launch) (D : va_G) (q : Nat → Nat) (cI cJ : ClassId) (M : MS) (x y : Int32) (st : Nat) (hst : M.1 0 = nI st) (hst4 : st ≤ 4) (n : Nat) (hn : M.2.1 0 7 = lN n) (hn6 : n ≤ 6) : kI l yX5_service wsX5_service ({ frames := 2, cells := 0, slots := 0, locals := 46 } : Room) D [(cI, .int), (cJ, .long)] [.ref (q 0), .int x, .int y] (moW q cI cJ M) (A_X5_service_r M st x y) (moW q cI cJ (A_X5_service_s0 M st x y)) := by
  refine kBody.met (cc := cX5_service) (maxL := 4) (ret := (some .boolean)) (by decide) rfl (Nat.le_of_ble_eq_true rfl) ?_
  intro p9 e9 s9 m9 below meth c9 A9 ls hx hb hr hml hts hown hlk hK hP hD hA hl
  have hown : s9.vm.findClass RX5 = some m9.cls := hown
  have inX5 : ∀ w ∈ wsX50, w ∈ wsX5_service := fun w h => List.mem_cons_of_mem _ (List.mem_append_right _ (h))
  have hS : va_S A9 s9.heap s9.heap [] := va_S.rf
  have hl : lv_has ls 4 [(0, .ref (q 0)), (1, .int x), (2, .int y)] := hl
  refine lv_aload_n hx hb dX5_service_0 rfl (lv_at hl 0 rfl) ?_
  refine lv_iload_n hx hb dX5_service_1 rfl (lv_at hl 1 rfl) ?_
  refine k_calli (a := []) (z := []) (wc := moW q cI cJ M) (wc' := moW q cI cJ M) (w' := moW q cI cJ M) (va_runV (As := [.int x]) (rest := []) ⟨hx, hb, hml, hown, hts⟩ (c_X5_isPump l D q cI cJ M x _) (cwV 1 hts gX5_service_X5_isPump rfl rfl rfl (by decide +kernel) ⟨Nat.le_of_ble_eq_true rfl, Nat.le_of_ble_eq_true rfl⟩) ⟨kB_blind, va_recv hK hP (ci := 5) (q0 := 0) rfl rfl, k_pre (a := []) (z := []) (k_w0 _) hK hP hD⟩ rfl rfl hl.1 rfl (lv_room (Nat.le_of_ble_eq_true rfl)) dX5_service_2 ⟨Nat.zero_le _, Nat.zero_le _⟩) (k_w0 _) (k_w0 _) (moW_ad _ _ _ _ _) hP hD hS hA (fun H locs hP hD hS => ?_)
  refine lv_istore_n (lv' := [(3, .int (bi (m_isP (M.2.1 0) x))), (0, .ref (q 0)), (1, .int x), (2, .int y)]) hx hb dX5_service_5 rfl hl (by decide) rfl (fun ls hl => ?_)
  refine lv_aload_n hx hb dX5_service_6 rfl (lv_at hl 1 rfl) ?_
  refine lv_iload_n hx hb dX5_service_7 rfl (lv_at hl 0 rfl) ?_
  refine lv_if_ne (tgt := 15) hx hb dX5_service_8 (by decide) (fun c_8_0 => ?_) (fun c_8_0 => ?_)
  · have c_8_0 : (m_isP (M.2.1 0) x) = true := bi_n.mp c_8_0
    obtain ⟨hp1, hp9⟩ := m_isPn c_8_0 hn hn6
    refine lv_iconst (v := 0) hx hb dX5_service_15 (by decide) ?_
    refine lv_iload_n hx hb dX5_service_16 rfl (lv_at hl 0 rfl) ?_
    refine lv_if_eq (tgt := 50) hx hb dX5_service_17 (by decide) (fun c_17_1 => ?_) (fun c_17_1 => ?_)
    · have c_17_1 : (m_isP (M.2.1 0) x) = false := bi_0.mp c_17_1
      exact absurd (c_8_0.symm.trans c_17_1) (by decide)
    · have c_17_1 : (m_isP (M.2.1 0) x) = true := bi_n.mp c_17_1
      refine lv_iload_n hx hb dX5_service_20 rfl (lv_at hl 3 rfl) ?_
      refine lv_aload_n hx hb dX5_service_21 rfl (lv_at hl 1 rfl) ?_
      refine va_get (D := D) (ci := 5) (v := .ref (q 1)) (C := RX5) (T := TX5) (N := 14) hx hb hts inX5 hown hK hP 0 rfl rfl 0 (by decide) (hts (.fieldLink RX5 7 "PumpOathsModel" "now" "[J") (List.mem_of_getElem? (i := 1) rfl)) (fun _ h9 => h9) rfl dX5_service_22 ?_
      refine lv_iload_n hx hb dX5_service_25 rfl (lv_at hl 2 rfl) ?_
      refine lv_iconst (v := 2) hx hb dX5_service_26 (by decide) ?_
      refine k_calli (a := []) (z := moW q cI cJ M) (wc := []) (wc' := []) (w' := moW q cI cJ M) (va_runS (As := [.int x, .int 2]) (rest := [.ref (q 1), .int y, .int 0, .ref (q 0)]) ⟨hx, hb, hml, hown, hts⟩ (c_X5_p l D cI cJ x 2 _) (cwS 2 hts gX5_service_X5_p rfl rfl rfl (by decide +kernel) ⟨Nat.le_of_ble_eq_true rfl, Nat.le_of_ble_eq_true rfl⟩) ⟨kB_blind, k_pre (a := []) (z := moW q cI cJ M) rfl hK hP hD⟩ rfl rfl hl.1 rfl (lv_room (Nat.le_of_ble_eq_true rfl)) dX5_service_27 ⟨Nat.zero_le _, Nat.zero_le _⟩) rfl rfl rfl hP hD hS hA (fun H locs hP hD hS => ?_)
      rw [show 48 + 8 * x + 2 = nI (48 + 8 * x.toNatClampNeg + 2) from (by rw [← k_p, hp9]; rfl)]
      refine va_lald (f := M.2.1 0) hx hb hK hP 1 1 rfl rfl (k_in (k := 48 + 8 * x.toNatClampNeg + 2) rfl (by omega) (by decide)) dX5_service_30 ?_
      rw [show (nI (48 + 8 * x.toNatClampNeg + 2) : Int32).toNatClampNeg = 48 + 8 * x.toNatClampNeg + 2 from nI_clamp (by omega)]
      refine lv_ldc2 (v := 2) hx hb hown (hts (.constantLong RX5 89 (2)) (List.mem_of_getElem? (i := 2) rfl)) dX5_service_31 ?_
      refine W.lcmp hx hb dX5_service_34 ?_
      refine lv_if_eq (tgt := 42) hx hb dX5_service_35 (by decide) (fun c_35_2 => ?_) (fun c_35_2 => ?_)
      · have c_35_2 : ((M.2.1 0) (48 + 8 * x.toNatClampNeg + 2)) = 2 := (lg_cmp_eq ((M.2.1 0) (48 + 8 * x.toNatClampNeg + 2)) 2).mp c_35_2
        refine lv_iconst (v := 0) hx hb dX5_service_42 (by decide) ?_
        refine lv_icmp_ne (tgt := 50) hx hb dX5_service_43 (by decide) (fun c_43_3 => ?_) (fun c_43_3 => ?_)
        · have c_43_3 : ¬ y = 0 := c_43_3
          refine lv_iconst (v := 0) hx hb dX5_service_50 (by decide) ?_
          refine k_calli (a := []) (z := []) (wc := moW q cI cJ M) (wc' := moW q cI cJ (o_setI M 2 0)) (w' := moW q cI cJ (o_setI M 2 0)) (va_runV (As := [.int 0, .int 0]) (rest := []) ⟨hx, hb, hml, hown, hts⟩ (c_X5_goes00 l D q cI cJ M _) (cwV 2 hts gX5_service_X5_goes rfl rfl rfl (by decide +kernel) ⟨Nat.le_of_ble_eq_true rfl, Nat.le_of_ble_eq_true rfl⟩) ⟨kB_blind, va_recv hK hP (ci := 5) (q0 := 0) rfl rfl, k_pre (a := []) (z := []) (k_w0 _) hK hP hD⟩ rfl rfl hl.1 rfl (lv_room (Nat.le_of_ble_eq_true rfl)) dX5_service_51 ⟨Nat.zero_le _, Nat.zero_le _⟩) (k_w0 _) (k_w0 _) (moW_ad _ _ _ _ _) hP hD hS hA (fun H locs hP hD hS => ?_)
          refine lv_if_ne (tgt := 59) hx hb dX5_service_54 (by decide) (fun _ => ?_) (fun h => absurd h (by decide))
          refine lv_aload_n hx hb dX5_service_59 rfl (lv_at hl 1 rfl) ?_
          refine lv_iload_n hx hb dX5_service_60 rfl (lv_at hl 2 rfl) ?_
          refine lv_iconst (v := 2) hx hb dX5_service_61 (by decide) ?_
          refine k_calli (a := []) (z := moW q cI cJ (o_setI M 2 0)) (wc := []) (wc' := []) (w' := moW q cI cJ (o_setI M 2 0)) (va_runS (As := [.int x, .int 2]) (rest := [.ref (q 0)]) ⟨hx, hb, hml, hown, hts⟩ (c_X5_p l D cI cJ x 2 _) (cwS 2 hts gX5_service_X5_p rfl rfl rfl (by decide +kernel) ⟨Nat.le_of_ble_eq_true rfl, Nat.le_of_ble_eq_true rfl⟩) ⟨kB_blind, k_pre (a := []) (z := moW q cI cJ (o_setI M 2 0)) rfl hK hP hD⟩ rfl rfl hl.1 rfl (lv_room (Nat.le_of_ble_eq_true rfl)) dX5_service_62 ⟨Nat.zero_le _, Nat.zero_le _⟩) rfl rfl rfl hP hD hS hA (fun H locs hP hD hS => ?_)
          rw [show 48 + 8 * x + 2 = nI (48 + 8 * x.toNatClampNeg + 2) from (by rw [← k_p, hp9]; rfl)]
          refine lv_iload_n hx hb dX5_service_65 rfl (lv_at hl 3 rfl) ?_
          refine lv_if_eq (tgt := 73) hx hb dX5_service_66 (by decide) (fun c_66_5 => ?_) (fun c_66_5 => ?_)
          · have c_66_5 : y = 0 := c_66_5
            exact absurd c_66_5 c_43_3
          · have c_66_5 : ¬ y = 0 := c_66_5
            refine lv_iconst (v := 0) hx hb dX5_service_69 (by decide) ?_
            refine lv_goto (tgt := 74) hx hb dX5_service_70 (by decide) ?_
            refine k_calli (a := []) (z := []) (wc := moW q cI cJ (o_setI M 2 0)) (wc' := moW q cI cJ (o_puts (o_setI M 2 0) st (48 + 8 * x.toNatClampNeg + 2) 0)) (w' := moW q cI cJ (o_puts (o_setI M 2 0) st (48 + 8 * x.toNatClampNeg + 2) 0)) (va_runV (As := [.int (nI (48 + 8 * x.toNatClampNeg + 2)), .int 0]) (rest := []) ⟨hx, hb, hml, hown, hts⟩ (c_X5_puts l D q cI cJ (o_setI M 2 0) (48 + 8 * x.toNatClampNeg + 2) 0 (by omega) st hst hst4 _) (cwV 2 hts gX5_service_X5_puts rfl rfl rfl (by decide +kernel) ⟨Nat.le_of_ble_eq_true rfl, Nat.le_of_ble_eq_true rfl⟩) ⟨kB_blind, va_recv hK hP (ci := 5) (q0 := 0) rfl rfl, k_pre (a := []) (z := []) (k_w0 _) hK hP hD⟩ rfl rfl hl.1 rfl (lv_room (Nat.le_of_ble_eq_true rfl)) dX5_service_74 ⟨Nat.zero_le _, Nat.zero_le _⟩) (k_w0 _) (k_w0 _) (moW_ad _ _ _ _ _) hP hD hS hA (fun H locs hP hD hS => ?_)
            obtain ⟨T_7, hT_7⟩ : ∃ T9, T9 = o_puts (o_setI M 2 0) st (48 + 8 * x.toNatClampNeg + 2) 0 := ⟨_, rfl⟩
            rw [← hT_7] at hP hD
            refine lv_iconst (v := 1) hx hb dX5_service_77 (by decide) ?_
            refine lv_icmp_ne (tgt := 85) hx hb dX5_service_78 (by decide) (fun c_78_7 => ?_) (fun c_78_7 => ?_)
            · have c_78_7 : ¬ (o_putsR (o_setI M 2 0) st (48 + 8 * x.toNatClampNeg + 2)) = 1 := c_78_7
              refine lv_iconst (v := 0) hx hb dX5_service_85 (by decide) ?_
              exact k_iret hx hb hr hlk hP hS dX5_service_86 rfl (by rw [A_X5_service_r, if_pos c_8_0, if_pos c_35_2, if_neg c_43_3, if_neg c_78_7]) (k_P (congrArg (fun T9 => moW q cI cJ T9) (show T_7 = (A_X5_service_s0 M st x y) from by rw [hT_7, A_X5_service_s0, if_pos c_8_0, if_pos c_35_2, if_neg c_43_3, if_neg c_78_7])))
            · have c_78_7 : (o_putsR (o_setI M 2 0) st (48 + 8 * x.toNatClampNeg + 2)) = 1 := c_78_7
              refine lv_iconst (v := 1) hx hb dX5_service_81 (by decide) ?_
              refine lv_goto (tgt := 86) hx hb dX5_service_82 (by decide) ?_
              exact k_iret hx hb hr hlk hP hS dX5_service_86 rfl (by rw [A_X5_service_r, if_pos c_8_0, if_pos c_35_2, if_neg c_43_3, if_pos c_78_7]) (k_P (congrArg (fun T9 => moW q cI cJ T9) (show T_7 = (A_X5_service_s0 M st x y) from by rw [hT_7, A_X5_service_s0, if_pos c_8_0, if_pos c_35_2, if_neg c_43_3, if_pos c_78_7])))
        · have c_43_3 : y = 0 := c_43_3
          refine lv_iconst (v := 1) hx hb dX5_service_46 (by decide) ?_
          refine lv_goto (tgt := 51) hx hb dX5_service_47 (by decide) ?_
          refine k_calli (a := []) (z := []) (wc := moW q cI cJ M) (wc' := moW q cI cJ (o_setI M 2 2)) (w' := moW q cI cJ (o_setI M 2 2)) (va_runV (As := [.int 0, .int 1]) (rest := []) ⟨hx, hb, hml, hown, hts⟩ (c_X5_goes01 l D q cI cJ M _) (cwV 2 hts gX5_service_X5_goes rfl rfl rfl (by decide +kernel) ⟨Nat.le_of_ble_eq_true rfl, Nat.le_of_ble_eq_true rfl⟩) ⟨kB_blind, va_recv hK hP (ci := 5) (q0 := 0) rfl rfl, k_pre (a := []) (z := []) (k_w0 _) hK hP hD⟩ rfl rfl hl.1 rfl (lv_room (Nat.le_of_ble_eq_true rfl)) dX5_service_51 ⟨Nat.zero_le _, Nat.zero_le _⟩) (k_w0 _) (k_w0 _) (moW_ad _ _ _ _ _) hP hD hS hA (fun H locs hP hD hS => ?_)
          refine lv_if_ne (tgt := 59) hx hb dX5_service_54 (by decide) (fun h => absurd h (by decide)) (fun _ => ?_)
          refine lv_iconst (v := 0) hx hb dX5_service_57 (by decide) ?_
          exact k_iret hx hb hr hlk hP hS dX5_service_58 rfl (by rw [A_X5_service_r, if_pos c_8_0, if_pos c_35_2, if_pos c_43_3]) (k_P (congrArg (fun T9 => moW q cI cJ T9) (show (o_setI M 2 2) = (A_X5_service_s0 M st x y) from by rw [A_X5_service_s0, if_pos c_8_0, if_pos c_35_2, if_pos c_43_3])))
      · have c_35_2 : ¬ ((M.2.1 0) (48 + 8 * x.toNatClampNeg + 2)) = 2 := mt (lg_cmp_eq ((M.2.1 0) (48 + 8 * x.toNatClampNeg + 2)) 2).mpr c_35_2
        refine lv_iconst (v := 1) hx hb dX5_service_38 (by decide) ?_
        refine lv_goto (tgt := 43) hx hb dX5_service_39 (by decide) ?_
        refine lv_icmp_ne (tgt := 50) hx hb dX5_service_43 (by decide) (fun c_43_9 => ?_) (fun c_43_9 => ?_)
        · have c_43_9 : ¬ y = 1 := c_43_9
          refine lv_iconst (v := 0) hx hb dX5_service_50 (by decide) ?_
          refine k_calli (a := []) (z := []) (wc := moW q cI cJ M) (wc' := moW q cI cJ (o_setI M 2 0)) (w' := moW q cI cJ (o_setI M 2 0)) (va_runV (As := [.int 0, .int 0]) (rest := []) ⟨hx, hb, hml, hown, hts⟩ (c_X5_goes00 l D q cI cJ M _) (cwV 2 hts gX5_service_X5_goes rfl rfl rfl (by decide +kernel) ⟨Nat.le_of_ble_eq_true rfl, Nat.le_of_ble_eq_true rfl⟩) ⟨kB_blind, va_recv hK hP (ci := 5) (q0 := 0) rfl rfl, k_pre (a := []) (z := []) (k_w0 _) hK hP hD⟩ rfl rfl hl.1 rfl (lv_room (Nat.le_of_ble_eq_true rfl)) dX5_service_51 ⟨Nat.zero_le _, Nat.zero_le _⟩) (k_w0 _) (k_w0 _) (moW_ad _ _ _ _ _) hP hD hS hA (fun H locs hP hD hS => ?_)
          refine lv_if_ne (tgt := 59) hx hb dX5_service_54 (by decide) (fun _ => ?_) (fun h => absurd h (by decide))
          refine lv_aload_n hx hb dX5_service_59 rfl (lv_at hl 1 rfl) ?_
          refine lv_iload_n hx hb dX5_service_60 rfl (lv_at hl 2 rfl) ?_
          refine lv_iconst (v := 2) hx hb dX5_service_61 (by decide) ?_
          refine k_calli (a := []) (z := moW q cI cJ (o_setI M 2 0)) (wc := []) (wc' := []) (w' := moW q cI cJ (o_setI M 2 0)) (va_runS (As := [.int x, .int 2]) (rest := [.ref (q 0)]) ⟨hx, hb, hml, hown, hts⟩ (c_X5_p l D cI cJ x 2 _) (cwS 2 hts gX5_service_X5_p rfl rfl rfl (by decide +kernel) ⟨Nat.le_of_ble_eq_true rfl, Nat.le_of_ble_eq_true rfl⟩) ⟨kB_blind, k_pre (a := []) (z := moW q cI cJ (o_setI M 2 0)) rfl hK hP hD⟩ rfl rfl hl.1 rfl (lv_room (Nat.le_of_ble_eq_true rfl)) dX5_service_62 ⟨Nat.zero_le _, Nat.zero_le _⟩) rfl rfl rfl hP hD hS hA (fun H locs hP hD hS => ?_)
          rw [show 48 + 8 * x + 2 = nI (48 + 8 * x.toNatClampNeg + 2) from (by rw [← k_p, hp9]; rfl)]
          refine lv_iload_n hx hb dX5_service_65 rfl (lv_at hl 3 rfl) ?_
          refine lv_if_eq (tgt := 73) hx hb dX5_service_66 (by decide) (fun c_66_11 => ?_) (fun c_66_11 => ?_)
          · have c_66_11 : y = 0 := c_66_11
            refine lv_iconst (v := 2) hx hb dX5_service_73 (by decide) ?_
            refine k_calli (a := []) (z := []) (wc := moW q cI cJ (o_setI M 2 0)) (wc' := moW q cI cJ (o_puts (o_setI M 2 0) st (48 + 8 * x.toNatClampNeg + 2) 2)) (w' := moW q cI cJ (o_puts (o_setI M 2 0) st (48 + 8 * x.toNatClampNeg + 2) 2)) (va_runV (As := [.int (nI (48 + 8 * x.toNatClampNeg + 2)), .int 2]) (rest := []) ⟨hx, hb, hml, hown, hts⟩ (c_X5_puts l D q cI cJ (o_setI M 2 0) (48 + 8 * x.toNatClampNeg + 2) 2 (by omega) st hst hst4 _) (cwV 2 hts gX5_service_X5_puts rfl rfl rfl (by decide +kernel) ⟨Nat.le_of_ble_eq_true rfl, Nat.le_of_ble_eq_true rfl⟩) ⟨kB_blind, va_recv hK hP (ci := 5) (q0 := 0) rfl rfl, k_pre (a := []) (z := []) (k_w0 _) hK hP hD⟩ rfl rfl hl.1 rfl (lv_room (Nat.le_of_ble_eq_true rfl)) dX5_service_74 ⟨Nat.zero_le _, Nat.zero_le _⟩) (k_w0 _) (k_w0 _) (moW_ad _ _ _ _ _) hP hD hS hA (fun H locs hP hD hS => ?_)
            obtain ⟨T_13, hT_13⟩ : ∃ T9, T9 = o_puts (o_setI M 2 0) st (48 + 8 * x.toNatClampNeg + 2) 2 := ⟨_, rfl⟩
            rw [← hT_13] at hP hD
            refine lv_iconst (v := 1) hx hb dX5_service_77 (by decide) ?_
            refine lv_icmp_ne (tgt := 85) hx hb dX5_service_78 (by decide) (fun c_78_13 => ?_) (fun c_78_13 => ?_)
            · have c_78_13 : ¬ (o_putsR (o_setI M 2 0) st (48 + 8 * x.toNatClampNeg + 2)) = 1 := c_78_13
              refine lv_iconst (v := 0) hx hb dX5_service_85 (by decide) ?_
              exact k_iret hx hb hr hlk hP hS dX5_service_86 rfl (by rw [A_X5_service_r, if_pos c_8_0, if_neg c_35_2, if_neg c_43_9, if_pos c_66_11, if_neg c_78_13]) (k_P (congrArg (fun T9 => moW q cI cJ T9) (show T_13 = (A_X5_service_s0 M st x y) from by rw [hT_13, A_X5_service_s0, if_pos c_8_0, if_neg c_35_2, if_neg c_43_9, if_pos c_66_11, if_neg c_78_13])))
            · have c_78_13 : (o_putsR (o_setI M 2 0) st (48 + 8 * x.toNatClampNeg + 2)) = 1 := c_78_13
              refine lv_iconst (v := 1) hx hb dX5_service_81 (by decide) ?_
              refine lv_goto (tgt := 86) hx hb dX5_service_82 (by decide) ?_
              exact k_iret hx hb hr hlk hP hS dX5_service_86 rfl (by rw [A_X5_service_r, if_pos c_8_0, if_neg c_35_2, if_neg c_43_9, if_pos c_66_11, if_pos c_78_13]) (k_P (congrArg (fun T9 => moW q cI cJ T9) (show T_13 = (A_X5_service_s0 M st x y) from by rw [hT_13, A_X5_service_s0, if_pos c_8_0, if_neg c_35_2, if_neg c_43_9, if_pos c_66_11, if_pos c_78_13])))
          · have c_66_11 : ¬ y = 0 := c_66_11
            refine lv_iconst (v := 0) hx hb dX5_service_69 (by decide) ?_
            refine lv_goto (tgt := 74) hx hb dX5_service_70 (by decide) ?_
            refine k_calli (a := []) (z := []) (wc := moW q cI cJ (o_setI M 2 0)) (wc' := moW q cI cJ (o_puts (o_setI M 2 0) st (48 + 8 * x.toNatClampNeg + 2) 0)) (w' := moW q cI cJ (o_puts (o_setI M 2 0) st (48 + 8 * x.toNatClampNeg + 2) 0)) (va_runV (As := [.int (nI (48 + 8 * x.toNatClampNeg + 2)), .int 0]) (rest := []) ⟨hx, hb, hml, hown, hts⟩ (c_X5_puts l D q cI cJ (o_setI M 2 0) (48 + 8 * x.toNatClampNeg + 2) 0 (by omega) st hst hst4 _) (cwV 2 hts gX5_service_X5_puts rfl rfl rfl (by decide +kernel) ⟨Nat.le_of_ble_eq_true rfl, Nat.le_of_ble_eq_true rfl⟩) ⟨kB_blind, va_recv hK hP (ci := 5) (q0 := 0) rfl rfl, k_pre (a := []) (z := []) (k_w0 _) hK hP hD⟩ rfl rfl hl.1 rfl (lv_room (Nat.le_of_ble_eq_true rfl)) dX5_service_74 ⟨Nat.zero_le _, Nat.zero_le _⟩) (k_w0 _) (k_w0 _) (moW_ad _ _ _ _ _) hP hD hS hA (fun H locs hP hD hS => ?_)
            obtain ⟨T_15, hT_15⟩ : ∃ T9, T9 = o_puts (o_setI M 2 0) st (48 + 8 * x.toNatClampNeg + 2) 0 := ⟨_, rfl⟩
            rw [← hT_15] at hP hD
            refine lv_iconst (v := 1) hx hb dX5_service_77 (by decide) ?_
            refine lv_icmp_ne (tgt := 85) hx hb dX5_service_78 (by decide) (fun c_78_15 => ?_) (fun c_78_15 => ?_)
            · have c_78_15 : ¬ (o_putsR (o_setI M 2 0) st (48 + 8 * x.toNatClampNeg + 2)) = 1 := c_78_15
              refine lv_iconst (v := 0) hx hb dX5_service_85 (by decide) ?_
              exact k_iret hx hb hr hlk hP hS dX5_service_86 rfl (by rw [A_X5_service_r, if_pos c_8_0, if_neg c_35_2, if_neg c_43_9, if_neg c_66_11, if_neg c_78_15]) (k_P (congrArg (fun T9 => moW q cI cJ T9) (show T_15 = (A_X5_service_s0 M st x y) from by rw [hT_15, A_X5_service_s0, if_pos c_8_0, if_neg c_35_2, if_neg c_43_9, if_neg c_66_11, if_neg c_78_15])))
            · have c_78_15 : (o_putsR (o_setI M 2 0) st (48 + 8 * x.toNatClampNeg + 2)) = 1 := c_78_15
              refine lv_iconst (v := 1) hx hb dX5_service_81 (by decide) ?_
              refine lv_goto (tgt := 86) hx hb dX5_service_82 (by decide) ?_
              exact k_iret hx hb hr hlk hP hS dX5_service_86 rfl (by rw [A_X5_service_r, if_pos c_8_0, if_neg c_35_2, if_neg c_43_9, if_neg c_66_11, if_pos c_78_15]) (k_P (congrArg (fun T9 => moW q cI cJ T9) (show T_15 = (A_X5_service_s0 M st x y) from by rw [hT_15, A_X5_service_s0, if_pos c_8_0, if_neg c_35_2, if_neg c_43_9, if_neg c_66_11, if_pos c_78_15])))
        · have c_43_9 : y = 1 := c_43_9
          refine lv_iconst (v := 1) hx hb dX5_service_46 (by decide) ?_
          refine lv_goto (tgt := 51) hx hb dX5_service_47 (by decide) ?_
          refine k_calli (a := []) (z := []) (wc := moW q cI cJ M) (wc' := moW q cI cJ (o_setI M 2 2)) (w' := moW q cI cJ (o_setI M 2 2)) (va_runV (As := [.int 0, .int 1]) (rest := []) ⟨hx, hb, hml, hown, hts⟩ (c_X5_goes01 l D q cI cJ M _) (cwV 2 hts gX5_service_X5_goes rfl rfl rfl (by decide +kernel) ⟨Nat.le_of_ble_eq_true rfl, Nat.le_of_ble_eq_true rfl⟩) ⟨kB_blind, va_recv hK hP (ci := 5) (q0 := 0) rfl rfl, k_pre (a := []) (z := []) (k_w0 _) hK hP hD⟩ rfl rfl hl.1 rfl (lv_room (Nat.le_of_ble_eq_true rfl)) dX5_service_51 ⟨Nat.zero_le _, Nat.zero_le _⟩) (k_w0 _) (k_w0 _) (moW_ad _ _ _ _ _) hP hD hS hA (fun H locs hP hD hS => ?_)
          refine lv_if_ne (tgt := 59) hx hb dX5_service_54 (by decide) (fun h => absurd h (by decide)) (fun _ => ?_)
          refine lv_iconst (v := 0) hx hb dX5_service_57 (by decide) ?_
          exact k_iret hx hb hr hlk hP hS dX5_service_58 rfl (by rw [A_X5_service_r, if_pos c_8_0, if_neg c_35_2, if_pos c_43_9]) (k_P (congrArg (fun T9 => moW q cI cJ T9) (show (o_setI M 2 2) = (A_X5_service_s0 M st x y) from by rw [A_X5_service_s0, if_pos c_8_0, if_neg c_35_2, if_pos c_43_9])))
  · have c_8_0 : (m_isP (M.2.1 0) x) = false := bi_0.mp c_8_0
    refine lv_iconst (v := 1) hx hb dX5_service_11 (by decide) ?_
    refine lv_goto (tgt := 16) hx hb dX5_service_12 (by decide) ?_
    refine lv_iload_n hx hb dX5_service_16 rfl (lv_at hl 0 rfl) ?_
    refine lv_if_eq (tgt := 50) hx hb dX5_service_17 (by decide) (fun c_17_17 => ?_) (fun c_17_17 => ?_)
    · have c_17_17 : (m_isP (M.2.1 0) x) = false := bi_0.mp c_17_17
      refine lv_iconst (v := 0) hx hb dX5_service_50 (by decide) ?_
      refine k_calli (a := []) (z := []) (wc := moW q cI cJ M) (wc' := moW q cI cJ (o_setI M 2 1)) (w' := moW q cI cJ (o_setI M 2 1)) (va_runV (As := [.int 1, .int 0]) (rest := []) ⟨hx, hb, hml, hown, hts⟩ (c_X5_goes1 l D q cI cJ M 0 _) (cwV 2 hts gX5_service_X5_goes rfl rfl rfl (by decide +kernel) ⟨Nat.le_of_ble_eq_true rfl, Nat.le_of_ble_eq_true rfl⟩) ⟨kB_blind, va_recv hK hP (ci := 5) (q0 := 0) rfl rfl, k_pre (a := []) (z := []) (k_w0 _) hK hP hD⟩ rfl rfl hl.1 rfl (lv_room (Nat.le_of_ble_eq_true rfl)) dX5_service_51 ⟨Nat.zero_le _, Nat.zero_le _⟩) (k_w0 _) (k_w0 _) (moW_ad _ _ _ _ _) hP hD hS hA (fun H locs hP hD hS => ?_)
      refine lv_if_ne (tgt := 59) hx hb dX5_service_54 (by decide) (fun h => absurd h (by decide)) (fun _ => ?_)
      refine lv_iconst (v := 0) hx hb dX5_service_57 (by decide) ?_
      exact k_iret hx hb hr hlk hP hS dX5_service_58 rfl (by rw [A_X5_service_r, if_neg (bi_nt c_8_0)]) (k_P (congrArg (fun T9 => moW q cI cJ T9) (show (o_setI M 2 1) = (A_X5_service_s0 M st x y) from by rw [A_X5_service_s0, if_neg (bi_nt c_8_0)])))
    · have c_17_17 : (m_isP (M.2.1 0) x) = true := bi_n.mp c_17_17
      exact absurd (c_8_0.symm.trans c_17_17) (by decide)
