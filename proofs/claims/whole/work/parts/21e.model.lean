def A_X5_demand_r (M : MS) (x : Int32) : Int32 := (if (m_in x.toInt64 0 23) = true then ((M.2.1 0) (24 + x.toNatClampNeg)).toInt32 else 0)
def A_X5_demand_s0 (M : MS) (x : Int32) : MS := (if (m_in x.toInt64 0 23) = true then o_setI M 2 0 else o_setI M 2 1)
set_option maxHeartbeats 1000000 in
set_option maxRecDepth 100000 in
theorem c_X5_demand (l : Launch) (D : va_G) (q : Nat → Nat) (cI cJ : ClassId) (M : MS) (x : Int32)  : kI l yX5_demand wsX5_demand ({ frames := 1, cells := 0, slots := 0, locals := 25 } : Room) D [(cI, .int), (cJ, .long)] [.ref (q 0), .int x] (moW q cI cJ M) (A_X5_demand_r M x) (moW q cI cJ (A_X5_demand_s0 M x)) := by
  refine kBody.met (cc := cX5_demand) (maxL := 2) (ret := (some .int)) (by decide) rfl (Nat.le_of_ble_eq_true rfl) ?_
  intro p9 e9 s9 m9 below meth c9 A9 ls hx hb hr hml hts hown hlk hK hP hD hA hl
  have hown : s9.vm.findClass RX5 = some m9.cls := hown
  have inX5 : ∀ w ∈ wsX50, w ∈ wsX5_demand := fun w h => List.mem_cons_of_mem _ (List.mem_append_right _ (h))
  have hS : va_S A9 s9.heap s9.heap [] := va_S.rf
  have hl : lv_has ls 2 [(0, .ref (q 0)), (1, .int x)] := hl
  refine lv_aload_n hx hb dX5_demand_0 rfl (lv_at hl 0 rfl) ?_
  refine lv_iload_n hx hb dX5_demand_1 rfl (lv_at hl 1 rfl) ?_
  refine lv_i2l hx hb dX5_demand_2 rfl ?_
  refine lv_lconst (v := 0) hx hb dX5_demand_3 (by decide) ?_
  refine lv_ldc2 (v := 23) hx hb hown (hts (.constantLong RX5 74 (23)) (List.mem_of_getElem? (i := 1) rfl)) dX5_demand_4 ?_
  refine k_calli (a := []) (z := moW q cI cJ M) (wc := []) (wc' := []) (w' := moW q cI cJ M) (va_runS (As := [.long x.toInt64, .long 0, .long 23]) (rest := [.ref (q 0)]) ⟨hx, hb, hml, hown, hts⟩ (c_X5_in l D cI cJ x.toInt64 0 23 _) (cwS 3 hts gX5_demand_X5_in rfl rfl rfl (by decide +kernel) ⟨Nat.le_of_ble_eq_true rfl, Nat.le_of_ble_eq_true rfl⟩) ⟨kB_blind, k_pre (a := []) (z := moW q cI cJ M) rfl hK hP hD⟩ rfl rfl hl.1 rfl (lv_room (Nat.le_of_ble_eq_true rfl)) dX5_demand_7 ⟨Nat.zero_le _, Nat.zero_le _⟩) rfl rfl rfl hP hD hS hA (fun H locs hP hD hS => ?_)
  refine lv_if_ne (tgt := 17) hx hb dX5_demand_10 (by decide) (fun c_10_0 => ?_) (fun c_10_0 => ?_)
  · have c_10_0 : (m_in x.toInt64 0 23) = true := bi_n.mp c_10_0
    obtain ⟨hx3, hx9⟩ := m_inN (N := 23) c_10_0 rfl (by decide)
    refine lv_iconst (v := 0) hx hb dX5_demand_17 (by decide) ?_
    refine lv_iconst (v := 0) hx hb dX5_demand_18 (by decide) ?_
    refine k_calli (a := []) (z := []) (wc := moW q cI cJ M) (wc' := moW q cI cJ (o_setI M 2 0)) (w' := moW q cI cJ (o_setI M 2 0)) (va_runV (As := [.int 0, .int 0]) (rest := []) ⟨hx, hb, hml, hown, hts⟩ (c_X5_goes00 l D q cI cJ M _) (cwV 2 hts gX5_demand_X5_goes rfl rfl rfl (by decide +kernel) ⟨Nat.le_of_ble_eq_true rfl, Nat.le_of_ble_eq_true rfl⟩) ⟨kB_blind, va_recv hK hP (ci := 5) (q0 := 0) rfl rfl, k_pre (a := []) (z := []) (k_w0 _) hK hP hD⟩ rfl rfl hl.1 rfl (lv_room (Nat.le_of_ble_eq_true rfl)) dX5_demand_19 ⟨Nat.zero_le _, Nat.zero_le _⟩) (k_w0 _) (k_w0 _) (moW_ad _ _ _ _ _) hP hD hS hA (fun H locs hP hD hS => ?_)
    refine lv_if_eq (tgt := 38) hx hb dX5_demand_22 (by decide) (fun h => absurd h (by decide)) (fun _ => ?_)
    refine lv_aload_n hx hb dX5_demand_25 rfl (lv_at hl 0 rfl) ?_
    refine va_get (D := D) (ci := 5) (v := .ref (q 1)) (C := RX5) (T := TX5) (N := 14) hx hb hts inX5 hown hK hP 0 rfl rfl 0 (by decide) (hts (.fieldLink RX5 7 "PumpOathsModel" "now" "[J") (List.mem_of_getElem? (i := 2) rfl)) (fun _ h9 => h9) rfl dX5_demand_26 ?_
    refine lv_bipush (v := 24) hx hb dX5_demand_29 (by decide) ?_
    refine lv_iload_n hx hb dX5_demand_31 rfl (lv_at hl 1 rfl) ?_
    refine lv_iadd hx hb dX5_demand_32 ?_
    rw [show 24 + x = nI (24 + x.toNatClampNeg) from (by rw [← nI_add, hx9]; rfl)]
    refine va_lald (f := M.2.1 0) hx hb hK hP 1 1 rfl rfl (k_in (k := 24 + x.toNatClampNeg) rfl (by omega) (by decide)) dX5_demand_33 ?_
    rw [show (nI (24 + x.toNatClampNeg) : Int32).toNatClampNeg = 24 + x.toNatClampNeg from nI_clamp (by omega)]
    refine lv_l2i hx hb dX5_demand_34 rfl ?_
    refine lv_goto (tgt := 39) hx hb dX5_demand_35 (by decide) ?_
    exact k_iret hx hb hr hlk hP hS dX5_demand_39 rfl (by rw [A_X5_demand_r, if_pos c_10_0]) (k_P (congrArg (fun T9 => moW q cI cJ T9) (show (o_setI M 2 0) = (A_X5_demand_s0 M x) from by rw [A_X5_demand_s0, if_pos c_10_0])))
  · have c_10_0 : (m_in x.toInt64 0 23) = false := bi_0.mp c_10_0
    refine lv_iconst (v := 1) hx hb dX5_demand_13 (by decide) ?_
    refine lv_goto (tgt := 18) hx hb dX5_demand_14 (by decide) ?_
    refine lv_iconst (v := 0) hx hb dX5_demand_18 (by decide) ?_
    refine k_calli (a := []) (z := []) (wc := moW q cI cJ M) (wc' := moW q cI cJ (o_setI M 2 1)) (w' := moW q cI cJ (o_setI M 2 1)) (va_runV (As := [.int 1, .int 0]) (rest := []) ⟨hx, hb, hml, hown, hts⟩ (c_X5_goes1 l D q cI cJ M 0 _) (cwV 2 hts gX5_demand_X5_goes rfl rfl rfl (by decide +kernel) ⟨Nat.le_of_ble_eq_true rfl, Nat.le_of_ble_eq_true rfl⟩) ⟨kB_blind, va_recv hK hP (ci := 5) (q0 := 0) rfl rfl, k_pre (a := []) (z := []) (k_w0 _) hK hP hD⟩ rfl rfl hl.1 rfl (lv_room (Nat.le_of_ble_eq_true rfl)) dX5_demand_19 ⟨Nat.zero_le _, Nat.zero_le _⟩) (k_w0 _) (k_w0 _) (moW_ad _ _ _ _ _) hP hD hS hA (fun H locs hP hD hS => ?_)
    refine lv_if_eq (tgt := 38) hx hb dX5_demand_22 (by decide) (fun _ => ?_) (fun h => absurd h (by decide))
    refine lv_iconst (v := 0) hx hb dX5_demand_38 (by decide) ?_
    exact k_iret hx hb hr hlk hP hS dX5_demand_39 rfl (by rw [A_X5_demand_r, if_neg (bi_nt c_10_0)]) (k_P (congrArg (fun T9 => moW q cI cJ T9) (show (o_setI M 2 1) = (A_X5_demand_s0 M x) from by rw [A_X5_demand_s0, if_neg (bi_nt c_10_0)])))

def A_X5_setting_r (M : MS) (x : Int32) : Int32 := (if (m_in x.toInt64 0 2) = true then ((M.2.1 0) (4 + x.toNatClampNeg)).toInt32 else 0)
def A_X5_setting_s0 (M : MS) (x : Int32) : MS := (if (m_in x.toInt64 0 2) = true then o_setI M 2 0 else o_setI M 2 1)
set_option maxHeartbeats 1000000 in
set_option maxRecDepth 100000 in
theorem c_X5_setting (l : Launch) (D : va_G) (q : Nat → Nat) (cI cJ : ClassId) (M : MS) (x : Int32)  : kI l yX5_setting wsX5_setting ({ frames := 1, cells := 0, slots := 0, locals := 25 } : Room) D [(cI, .int), (cJ, .long)] [.ref (q 0), .int x] (moW q cI cJ M) (A_X5_setting_r M x) (moW q cI cJ (A_X5_setting_s0 M x)) := by
  refine kBody.met (cc := cX5_setting) (maxL := 2) (ret := (some .int)) (by decide) rfl (Nat.le_of_ble_eq_true rfl) ?_
  intro p9 e9 s9 m9 below meth c9 A9 ls hx hb hr hml hts hown hlk hK hP hD hA hl
  have hown : s9.vm.findClass RX5 = some m9.cls := hown
  have inX5 : ∀ w ∈ wsX50, w ∈ wsX5_setting := fun w h => List.mem_cons_of_mem _ (List.mem_append_right _ (h))
  have hS : va_S A9 s9.heap s9.heap [] := va_S.rf
  have hl : lv_has ls 2 [(0, .ref (q 0)), (1, .int x)] := hl
  refine lv_aload_n hx hb dX5_setting_0 rfl (lv_at hl 0 rfl) ?_
  refine lv_iload_n hx hb dX5_setting_1 rfl (lv_at hl 1 rfl) ?_
  refine lv_i2l hx hb dX5_setting_2 rfl ?_
  refine lv_lconst (v := 0) hx hb dX5_setting_3 (by decide) ?_
  refine lv_ldc2 (v := 2) hx hb hown (hts (.constantLong RX5 89 (2)) (List.mem_of_getElem? (i := 1) rfl)) dX5_setting_4 ?_
  refine k_calli (a := []) (z := moW q cI cJ M) (wc := []) (wc' := []) (w' := moW q cI cJ M) (va_runS (As := [.long x.toInt64, .long 0, .long 2]) (rest := [.ref (q 0)]) ⟨hx, hb, hml, hown, hts⟩ (c_X5_in l D cI cJ x.toInt64 0 2 _) (cwS 3 hts gX5_setting_X5_in rfl rfl rfl (by decide +kernel) ⟨Nat.le_of_ble_eq_true rfl, Nat.le_of_ble_eq_true rfl⟩) ⟨kB_blind, k_pre (a := []) (z := moW q cI cJ M) rfl hK hP hD⟩ rfl rfl hl.1 rfl (lv_room (Nat.le_of_ble_eq_true rfl)) dX5_setting_7 ⟨Nat.zero_le _, Nat.zero_le _⟩) rfl rfl rfl hP hD hS hA (fun H locs hP hD hS => ?_)
  refine lv_if_ne (tgt := 17) hx hb dX5_setting_10 (by decide) (fun c_10_0 => ?_) (fun c_10_0 => ?_)
  · have c_10_0 : (m_in x.toInt64 0 2) = true := bi_n.mp c_10_0
    obtain ⟨hx3, hx9⟩ := m_inN (N := 2) c_10_0 rfl (by decide)
    refine lv_iconst (v := 0) hx hb dX5_setting_17 (by decide) ?_
    refine lv_iconst (v := 0) hx hb dX5_setting_18 (by decide) ?_
    refine k_calli (a := []) (z := []) (wc := moW q cI cJ M) (wc' := moW q cI cJ (o_setI M 2 0)) (w' := moW q cI cJ (o_setI M 2 0)) (va_runV (As := [.int 0, .int 0]) (rest := []) ⟨hx, hb, hml, hown, hts⟩ (c_X5_goes00 l D q cI cJ M _) (cwV 2 hts gX5_setting_X5_goes rfl rfl rfl (by decide +kernel) ⟨Nat.le_of_ble_eq_true rfl, Nat.le_of_ble_eq_true rfl⟩) ⟨kB_blind, va_recv hK hP (ci := 5) (q0 := 0) rfl rfl, k_pre (a := []) (z := []) (k_w0 _) hK hP hD⟩ rfl rfl hl.1 rfl (lv_room (Nat.le_of_ble_eq_true rfl)) dX5_setting_19 ⟨Nat.zero_le _, Nat.zero_le _⟩) (k_w0 _) (k_w0 _) (moW_ad _ _ _ _ _) hP hD hS hA (fun H locs hP hD hS => ?_)
    refine lv_if_eq (tgt := 37) hx hb dX5_setting_22 (by decide) (fun h => absurd h (by decide)) (fun _ => ?_)
    refine lv_aload_n hx hb dX5_setting_25 rfl (lv_at hl 0 rfl) ?_
    refine va_get (D := D) (ci := 5) (v := .ref (q 1)) (C := RX5) (T := TX5) (N := 14) hx hb hts inX5 hown hK hP 0 rfl rfl 0 (by decide) (hts (.fieldLink RX5 7 "PumpOathsModel" "now" "[J") (List.mem_of_getElem? (i := 2) rfl)) (fun _ h9 => h9) rfl dX5_setting_26 ?_
    refine lv_iconst (v := 4) hx hb dX5_setting_29 (by decide) ?_
    refine lv_iload_n hx hb dX5_setting_30 rfl (lv_at hl 1 rfl) ?_
    refine lv_iadd hx hb dX5_setting_31 ?_
    rw [show 4 + x = nI (4 + x.toNatClampNeg) from (by rw [← nI_add, hx9]; rfl)]
    refine va_lald (f := M.2.1 0) hx hb hK hP 1 1 rfl rfl (k_in (k := 4 + x.toNatClampNeg) rfl (by omega) (by decide)) dX5_setting_32 ?_
    rw [show (nI (4 + x.toNatClampNeg) : Int32).toNatClampNeg = 4 + x.toNatClampNeg from nI_clamp (by omega)]
    refine lv_l2i hx hb dX5_setting_33 rfl ?_
    refine lv_goto (tgt := 38) hx hb dX5_setting_34 (by decide) ?_
    exact k_iret hx hb hr hlk hP hS dX5_setting_38 rfl (by rw [A_X5_setting_r, if_pos c_10_0]) (k_P (congrArg (fun T9 => moW q cI cJ T9) (show (o_setI M 2 0) = (A_X5_setting_s0 M x) from by rw [A_X5_setting_s0, if_pos c_10_0])))
  · have c_10_0 : (m_in x.toInt64 0 2) = false := bi_0.mp c_10_0
    refine lv_iconst (v := 1) hx hb dX5_setting_13 (by decide) ?_
    refine lv_goto (tgt := 18) hx hb dX5_setting_14 (by decide) ?_
    refine lv_iconst (v := 0) hx hb dX5_setting_18 (by decide) ?_
    refine k_calli (a := []) (z := []) (wc := moW q cI cJ M) (wc' := moW q cI cJ (o_setI M 2 1)) (w' := moW q cI cJ (o_setI M 2 1)) (va_runV (As := [.int 1, .int 0]) (rest := []) ⟨hx, hb, hml, hown, hts⟩ (c_X5_goes1 l D q cI cJ M 0 _) (cwV 2 hts gX5_setting_X5_goes rfl rfl rfl (by decide +kernel) ⟨Nat.le_of_ble_eq_true rfl, Nat.le_of_ble_eq_true rfl⟩) ⟨kB_blind, va_recv hK hP (ci := 5) (q0 := 0) rfl rfl, k_pre (a := []) (z := []) (k_w0 _) hK hP hD⟩ rfl rfl hl.1 rfl (lv_room (Nat.le_of_ble_eq_true rfl)) dX5_setting_19 ⟨Nat.zero_le _, Nat.zero_le _⟩) (k_w0 _) (k_w0 _) (moW_ad _ _ _ _ _) hP hD hS hA (fun H locs hP hD hS => ?_)
    refine lv_if_eq (tgt := 37) hx hb dX5_setting_22 (by decide) (fun _ => ?_) (fun h => absurd h (by decide))
    refine lv_iconst (v := 0) hx hb dX5_setting_37 (by decide) ?_
    exact k_iret hx hb hr hlk hP hS dX5_setting_38 rfl (by rw [A_X5_setting_r, if_neg (bi_nt c_10_0)]) (k_P (congrArg (fun T9 => moW q cI cJ T9) (show (o_setI M 2 1) = (A_X5_setting_s0 M x) from by rw [A_X5_setting_s0, if_neg (bi_nt c_10_0)])))

def A_X5_water_r (M : MS) (x : Int32) : Int64 := (if (m_in x.toInt64 0 4) = true then (M.2.1 0) (14 + x.toNatClampNeg) else 0)
def A_X5_water_s0 (M : MS) (x : Int32) : MS := (if (m_in x.toInt64 0 4) = true then o_setI M 2 0 else o_setI M 2 1)
set_option maxHeartbeats 1000000 in
set_option maxRecDepth 100000 in
theorem c_X5_water (l : Launch) (D : va_G) (q : Nat → Nat) (cI cJ : ClassId) (M : MS) (x : Int32)  : kL l yX5_water wsX5_water ({ frames := 1, cells := 0, slots := 0, locals := 25 } : Room) D [(cI, .int), (cJ, .long)] [.ref (q 0), .int x] (moW q cI cJ M) (A_X5_water_r M x) (moW q cI cJ (A_X5_water_s0 M x)) := by
  refine kBody.met (cc := cX5_water) (maxL := 2) (ret := (some .long)) (by decide) rfl (Nat.le_of_ble_eq_true rfl) ?_
  intro p9 e9 s9 m9 below meth c9 A9 ls hx hb hr hml hts hown hlk hK hP hD hA hl
  have hown : s9.vm.findClass RX5 = some m9.cls := hown
  have inX5 : ∀ w ∈ wsX50, w ∈ wsX5_water := fun w h => List.mem_cons_of_mem _ (List.mem_append_right _ (h))
  have hS : va_S A9 s9.heap s9.heap [] := va_S.rf
  have hl : lv_has ls 2 [(0, .ref (q 0)), (1, .int x)] := hl
  refine lv_aload_n hx hb dX5_water_0 rfl (lv_at hl 0 rfl) ?_
  refine lv_iload_n hx hb dX5_water_1 rfl (lv_at hl 1 rfl) ?_
  refine lv_i2l hx hb dX5_water_2 rfl ?_
  refine lv_lconst (v := 0) hx hb dX5_water_3 (by decide) ?_
  refine lv_ldc2 (v := 4) hx hb hown (hts (.constantLong RX5 152 (4)) (List.mem_of_getElem? (i := 1) rfl)) dX5_water_4 ?_
  refine k_calli (a := []) (z := moW q cI cJ M) (wc := []) (wc' := []) (w' := moW q cI cJ M) (va_runS (As := [.long x.toInt64, .long 0, .long 4]) (rest := [.ref (q 0)]) ⟨hx, hb, hml, hown, hts⟩ (c_X5_in l D cI cJ x.toInt64 0 4 _) (cwS 3 hts gX5_water_X5_in rfl rfl rfl (by decide +kernel) ⟨Nat.le_of_ble_eq_true rfl, Nat.le_of_ble_eq_true rfl⟩) ⟨kB_blind, k_pre (a := []) (z := moW q cI cJ M) rfl hK hP hD⟩ rfl rfl hl.1 rfl (lv_room (Nat.le_of_ble_eq_true rfl)) dX5_water_7 ⟨Nat.zero_le _, Nat.zero_le _⟩) rfl rfl rfl hP hD hS hA (fun H locs hP hD hS => ?_)
  refine lv_if_ne (tgt := 17) hx hb dX5_water_10 (by decide) (fun c_10_0 => ?_) (fun c_10_0 => ?_)
  · have c_10_0 : (m_in x.toInt64 0 4) = true := bi_n.mp c_10_0
    obtain ⟨hx3, hx9⟩ := m_inN (N := 4) c_10_0 rfl (by decide)
    refine lv_iconst (v := 0) hx hb dX5_water_17 (by decide) ?_
    refine lv_iconst (v := 0) hx hb dX5_water_18 (by decide) ?_
    refine k_calli (a := []) (z := []) (wc := moW q cI cJ M) (wc' := moW q cI cJ (o_setI M 2 0)) (w' := moW q cI cJ (o_setI M 2 0)) (va_runV (As := [.int 0, .int 0]) (rest := []) ⟨hx, hb, hml, hown, hts⟩ (c_X5_goes00 l D q cI cJ M _) (cwV 2 hts gX5_water_X5_goes rfl rfl rfl (by decide +kernel) ⟨Nat.le_of_ble_eq_true rfl, Nat.le_of_ble_eq_true rfl⟩) ⟨kB_blind, va_recv hK hP (ci := 5) (q0 := 0) rfl rfl, k_pre (a := []) (z := []) (k_w0 _) hK hP hD⟩ rfl rfl hl.1 rfl (lv_room (Nat.le_of_ble_eq_true rfl)) dX5_water_19 ⟨Nat.zero_le _, Nat.zero_le _⟩) (k_w0 _) (k_w0 _) (moW_ad _ _ _ _ _) hP hD hS hA (fun H locs hP hD hS => ?_)
    refine lv_if_eq (tgt := 37) hx hb dX5_water_22 (by decide) (fun h => absurd h (by decide)) (fun _ => ?_)
    refine lv_aload_n hx hb dX5_water_25 rfl (lv_at hl 0 rfl) ?_
    refine va_get (D := D) (ci := 5) (v := .ref (q 1)) (C := RX5) (T := TX5) (N := 14) hx hb hts inX5 hown hK hP 0 rfl rfl 0 (by decide) (hts (.fieldLink RX5 7 "PumpOathsModel" "now" "[J") (List.mem_of_getElem? (i := 2) rfl)) (fun _ h9 => h9) rfl dX5_water_26 ?_
    refine lv_bipush (v := 14) hx hb dX5_water_29 (by decide) ?_
    refine lv_iload_n hx hb dX5_water_31 rfl (lv_at hl 1 rfl) ?_
    refine lv_iadd hx hb dX5_water_32 ?_
    rw [show 14 + x = nI (14 + x.toNatClampNeg) from (by rw [← nI_add, hx9]; rfl)]
    refine va_lald (f := M.2.1 0) hx hb hK hP 1 1 rfl rfl (k_in (k := 14 + x.toNatClampNeg) rfl (by omega) (by decide)) dX5_water_33 ?_
    rw [show (nI (14 + x.toNatClampNeg) : Int32).toNatClampNeg = 14 + x.toNatClampNeg from nI_clamp (by omega)]
    refine lv_goto (tgt := 38) hx hb dX5_water_34 (by decide) ?_
    exact k_lret hx hb hr hlk hP hS dX5_water_38 (by rw [A_X5_water_r, if_pos c_10_0]) (k_P (congrArg (fun T9 => moW q cI cJ T9) (show (o_setI M 2 0) = (A_X5_water_s0 M x) from by rw [A_X5_water_s0, if_pos c_10_0])))
  · have c_10_0 : (m_in x.toInt64 0 4) = false := bi_0.mp c_10_0
    refine lv_iconst (v := 1) hx hb dX5_water_13 (by decide) ?_
    refine lv_goto (tgt := 18) hx hb dX5_water_14 (by decide) ?_
    refine lv_iconst (v := 0) hx hb dX5_water_18 (by decide) ?_
    refine k_calli (a := []) (z := []) (wc := moW q cI cJ M) (wc' := moW q cI cJ (o_setI M 2 1)) (w' := moW q cI cJ (o_setI M 2 1)) (va_runV (As := [.int 1, .int 0]) (rest := []) ⟨hx, hb, hml, hown, hts⟩ (c_X5_goes1 l D q cI cJ M 0 _) (cwV 2 hts gX5_water_X5_goes rfl rfl rfl (by decide +kernel) ⟨Nat.le_of_ble_eq_true rfl, Nat.le_of_ble_eq_true rfl⟩) ⟨kB_blind, va_recv hK hP (ci := 5) (q0 := 0) rfl rfl, k_pre (a := []) (z := []) (k_w0 _) hK hP hD⟩ rfl rfl hl.1 rfl (lv_room (Nat.le_of_ble_eq_true rfl)) dX5_water_19 ⟨Nat.zero_le _, Nat.zero_le _⟩) (k_w0 _) (k_w0 _) (moW_ad _ _ _ _ _) hP hD hS hA (fun H locs hP hD hS => ?_)
    refine lv_if_eq (tgt := 37) hx hb dX5_water_22 (by decide) (fun _ => ?_) (fun h => absurd h (by decide))
    refine lv_lconst (v := 0) hx hb dX5_water_37 (by decide) ?_
    exact k_lret hx hb hr hlk hP hS dX5_water_38 (by rw [A_X5_water_r, if_neg (bi_nt c_10_0)]) (k_P (congrArg (fun T9 => moW q cI cJ T9) (show (o_setI M 2 1) = (A_X5_water_s0 M x) from by rw [A_X5_water_s0, if_neg (bi_nt c_10_0)])))

def A_X5_nightLeak_r (M : MS) : Int64 := (if ((M.2.1 0) 11) = 0 then 0 else (M.2.1 0) 12)
def A_X5_nightLeak_s0 (M : MS) : MS := (if ((M.2.1 0) 11) = 0 then o_setI M 2 1 else o_setI M 2 0)
set_option maxHeartbeats 1000000 in
set_option maxRecDepth 100000 in
theorem c_X5_nightLeak (l : Launch) (D : va_G) (q : Nat → Nat) (cI cJ : ClassId) (M : MS)  : kL l yX5_nightLeak wsX5_nightLeak ({ frames := 1, cells := 0, slots := 0, locals := 22 } : Room) D [(cI, .int), (cJ, .long)] [.ref (q 0)] (moW q cI cJ M) (A_X5_nightLeak_r M) (moW q cI cJ (A_X5_nightLeak_s0 M)) := by
  refine kBody.met (cc := cX5_nightLeak) (maxL := 1) (ret := (some .long)) (by decide) rfl (Nat.le_of_ble_eq_true rfl) ?_
  intro p9 e9 s9 m9 below meth c9 A9 ls hx hb hr hml hts hown hlk hK hP hD hA hl
  have hown : s9.vm.findClass RX5 = some m9.cls := hown
  have inX5 : ∀ w ∈ wsX50, w ∈ wsX5_nightLeak := fun w h => List.mem_cons_of_mem _ (List.mem_append_right _ (h))
  have hS : va_S A9 s9.heap s9.heap [] := va_S.rf
  have hl : lv_has ls 1 [(0, .ref (q 0))] := hl
  refine lv_aload_n hx hb dX5_nightLeak_0 rfl (lv_at hl 0 rfl) ?_
  refine lv_aload_n hx hb dX5_nightLeak_1 rfl (lv_at hl 0 rfl) ?_
  refine va_get (D := D) (ci := 5) (v := .ref (q 1)) (C := RX5) (T := TX5) (N := 14) hx hb hts inX5 hown hK hP 0 rfl rfl 0 (by decide) (hts (.fieldLink RX5 7 "PumpOathsModel" "now" "[J") (List.mem_of_getElem? (i := 1) rfl)) (fun _ h9 => h9) rfl dX5_nightLeak_2 ?_
  refine lv_bipush (v := 11) hx hb dX5_nightLeak_5 (by decide) ?_
  refine va_lald (f := M.2.1 0) hx hb hK hP 1 1 rfl rfl (k_in (k := 11) rfl (by decide) (by decide)) dX5_nightLeak_7 ?_
  rw [show (11 : Int32).toNatClampNeg = 11 from rfl]
  refine lv_lconst (v := 0) hx hb dX5_nightLeak_8 (by decide) ?_
  refine W.lcmp hx hb dX5_nightLeak_9 ?_
  refine lv_if_ne (tgt := 17) hx hb dX5_nightLeak_10 (by decide) (fun c_10_0 => ?_) (fun c_10_0 => ?_)
  · have c_10_0 : ¬ ((M.2.1 0) 11) = 0 := mt (lg_cmp_eq ((M.2.1 0) 11) 0).mpr c_10_0
    refine lv_iconst (v := 0) hx hb dX5_nightLeak_17 (by decide) ?_
    refine lv_iconst (v := 0) hx hb dX5_nightLeak_18 (by decide) ?_
    refine k_calli (a := []) (z := []) (wc := moW q cI cJ M) (wc' := moW q cI cJ (o_setI M 2 0)) (w' := moW q cI cJ (o_setI M 2 0)) (va_runV (As := [.int 0, .int 0]) (rest := []) ⟨hx, hb, hml, hown, hts⟩ (c_X5_goes00 l D q cI cJ M _) (cwV 2 hts gX5_nightLeak_X5_goes rfl rfl rfl (by decide +kernel) ⟨Nat.le_of_ble_eq_true rfl, Nat.le_of_ble_eq_true rfl⟩) ⟨kB_blind, va_recv hK hP (ci := 5) (q0 := 0) rfl rfl, k_pre (a := []) (z := []) (k_w0 _) hK hP hD⟩ rfl rfl hl.1 rfl (lv_room (Nat.le_of_ble_eq_true rfl)) dX5_nightLeak_19 ⟨Nat.zero_le _, Nat.zero_le _⟩) (k_w0 _) (k_w0 _) (moW_ad _ _ _ _ _) hP hD hS hA (fun H locs hP hD hS => ?_)
    refine lv_if_eq (tgt := 35) hx hb dX5_nightLeak_22 (by decide) (fun h => absurd h (by decide)) (fun _ => ?_)
    refine lv_aload_n hx hb dX5_nightLeak_25 rfl (lv_at hl 0 rfl) ?_
    refine va_get (D := D) (ci := 5) (v := .ref (q 1)) (C := RX5) (T := TX5) (N := 14) hx hb hts inX5 hown hK hP 0 rfl rfl 0 (by decide) (hts (.fieldLink RX5 7 "PumpOathsModel" "now" "[J") (List.mem_of_getElem? (i := 1) rfl)) (fun _ h9 => h9) rfl dX5_nightLeak_26 ?_
    refine lv_bipush (v := 12) hx hb dX5_nightLeak_29 (by decide) ?_
    refine va_lald (f := M.2.1 0) hx hb hK hP 1 1 rfl rfl (k_in (k := 12) rfl (by decide) (by decide)) dX5_nightLeak_31 ?_
    rw [show (12 : Int32).toNatClampNeg = 12 from rfl]
    refine lv_goto (tgt := 36) hx hb dX5_nightLeak_32 (by decide) ?_
    exact k_lret hx hb hr hlk hP hS dX5_nightLeak_36 (by rw [A_X5_nightLeak_r, if_neg c_10_0]) (k_P (congrArg (fun T9 => moW q cI cJ T9) (show (o_setI M 2 0) = (A_X5_nightLeak_s0 M) from by rw [A_X5_nightLeak_s0, if_neg c_10_0])))
  · have c_10_0 : ((M.2.1 0) 11) = 0 := (lg_cmp_eq ((M.2.1 0) 11) 0).mp c_10_0
    refine lv_iconst (v := 1) hx hb dX5_nightLeak_13 (by decide) ?_
    refine lv_goto (tgt := 18) hx hb dX5_nightLeak_14 (by decide) ?_
    refine lv_iconst (v := 0) hx hb dX5_nightLeak_18 (by decide) ?_
    refine k_calli (a := []) (z := []) (wc := moW q cI cJ M) (wc' := moW q cI cJ (o_setI M 2 1)) (w' := moW q cI cJ (o_setI M 2 1)) (va_runV (As := [.int 1, .int 0]) (rest := []) ⟨hx, hb, hml, hown, hts⟩ (c_X5_goes1 l D q cI cJ M 0 _) (cwV 2 hts gX5_nightLeak_X5_goes rfl rfl rfl (by decide +kernel) ⟨Nat.le_of_ble_eq_true rfl, Nat.le_of_ble_eq_true rfl⟩) ⟨kB_blind, va_recv hK hP (ci := 5) (q0 := 0) rfl rfl, k_pre (a := []) (z := []) (k_w0 _) hK hP hD⟩ rfl rfl hl.1 rfl (lv_room (Nat.le_of_ble_eq_true rfl)) dX5_nightLeak_19 ⟨Nat.zero_le _, Nat.zero_le _⟩) (k_w0 _) (k_w0 _) (moW_ad _ _ _ _ _) hP hD hS hA (fun H locs hP hD hS => ?_)
    refine lv_if_eq (tgt := 35) hx hb dX5_nightLeak_22 (by decide) (fun _ => ?_) (fun h => absurd h (by decide))
    refine lv_lconst (v := 0) hx hb dX5_nightLeak_35 (by decide) ?_
    exact k_lret hx hb hr hlk hP hS dX5_nightLeak_36 (by rw [A_X5_nightLeak_r, if_pos c_10_0]) (k_P (congrArg (fun T9 => moW q cI cJ T9) (show (o_setI M 2 1) = (A_X5_nightLeak_s0 M) from by rw [A_X5_nightLeak_s0, if_pos c_10_0])))

def A_X5_one_r (M : MS) (n : Nat) (x : Int32) : Int64 := (if x = 0 then (M.2.1 0) 0 else (if x = 1 then (M.2.1 0) 1 else (if x = 2 then (M.2.1 0) 2 else (if x = 3 then (M.2.1 0) 3 else (if x = 4 then (M.2.1 0) 7 else (if x = 5 then (m_many (M.2.1 0) n 1).toInt64 else (if x = 6 then (m_many (M.2.1 0) n 2).toInt64 else (if x = 7 then (M.2.1 0) 8 else (if x = 8 then (((M.2.1 0) 8) / 60) - (((M.2.1 0) 8) / 60) / 24 * 24 else (if x = 9 then (M.2.1 0) 9 else (if x = 10 then (M.2.1 0) 10 else (if x = 11 then (if ((M.2.1 0) 7) = 0 then (-1) else (M.2.1 0) 96) else (if x = 12 then (M.2.1 0) 11 else (M.2.1 0) 13)))))))))))))
set_option maxHeartbeats 1000000 in
set_option maxRecDepth 100000 in
theorem c_X5_one (l : Launch) (D : va_G) (q : Nat → Nat) (cI cJ : ClassId) (M : MS) (x : Int32) (n : Nat) (hn : M.2.1 0 7 = lN n) (hn6 : n ≤ 6) : kL l yX5_one wsX5_one ({ frames := 2, cells := 0, slots := 0, locals := 44 } : Room) D [(cI, .int), (cJ, .long)] [.ref (q 0), .int x] (moW q cI cJ M) (A_X5_one_r M n x) (moW q cI cJ M) := by
  refine kBody.met (cc := cX5_one) (maxL := 2) (ret := (some .long)) (by decide) rfl (Nat.le_of_ble_eq_true rfl) ?_
  intro p9 e9 s9 m9 below meth c9 A9 ls hx hb hr hml hts hown hlk hK hP hD hA hl
  have hown : s9.vm.findClass RX5 = some m9.cls := hown
  have inX5 : ∀ w ∈ wsX50, w ∈ wsX5_one := fun w h => List.mem_cons_of_mem _ (List.mem_append_right _ (h))
  have hS : va_S A9 s9.heap s9.heap [] := va_S.rf
  have hl : lv_has ls 2 [(0, .ref (q 0)), (1, .int x)] := hl
  refine lv_iload_n hx hb dX5_one_0 rfl (lv_at hl 1 rfl) ?_
  by_cases c_1_0 : x = 0
  · refine lv_tableIn (off := 67) (tgt := 68) hx hb dX5_one_1 (by rw [c_1_0]; decide) (by rw [c_1_0]; decide) (by rw [c_1_0]; rfl) (by decide) ?_
    refine lv_aload_n hx hb dX5_one_68 rfl (lv_at hl 0 rfl) ?_
    refine va_get (D := D) (ci := 5) (v := .ref (q 1)) (C := RX5) (T := TX5) (N := 14) hx hb hts inX5 hown hK hP 0 rfl rfl 0 (by decide) (hts (.fieldLink RX5 7 "PumpOathsModel" "now" "[J") (List.mem_of_getElem? (i := 1) rfl)) (fun _ h9 => h9) rfl dX5_one_69 ?_
    refine lv_iconst (v := 0) hx hb dX5_one_72 (by decide) ?_
    refine va_lald (f := M.2.1 0) hx hb hK hP 1 1 rfl rfl (k_in (k := 0) rfl (by decide) (by decide)) dX5_one_73 ?_
    rw [show (0 : Int32).toNatClampNeg = 0 from rfl]
    exact k_lret hx hb hr hlk hP hS dX5_one_74 (by rw [A_X5_one_r, if_pos c_1_0]) (fun h => h)
  by_cases c_1_1 : x = 1
  · refine lv_tableIn (off := 74) (tgt := 75) hx hb dX5_one_1 (by rw [c_1_1]; decide) (by rw [c_1_1]; decide) (by rw [c_1_1]; rfl) (by decide) ?_
    refine lv_aload_n hx hb dX5_one_75 rfl (lv_at hl 0 rfl) ?_
    refine va_get (D := D) (ci := 5) (v := .ref (q 1)) (C := RX5) (T := TX5) (N := 14) hx hb hts inX5 hown hK hP 0 rfl rfl 0 (by decide) (hts (.fieldLink RX5 7 "PumpOathsModel" "now" "[J") (List.mem_of_getElem? (i := 1) rfl)) (fun _ h9 => h9) rfl dX5_one_76 ?_
    refine lv_iconst (v := 1) hx hb dX5_one_79 (by decide) ?_
    refine va_lald (f := M.2.1 0) hx hb hK hP 1 1 rfl rfl (k_in (k := 1) rfl (by decide) (by decide)) dX5_one_80 ?_
    rw [show (1 : Int32).toNatClampNeg = 1 from rfl]
    exact k_lret hx hb hr hlk hP hS dX5_one_81 (by rw [A_X5_one_r, if_neg c_1_0, if_pos c_1_1]) (fun h => h)
  by_cases c_1_2 : x = 2
  · refine lv_tableIn (off := 81) (tgt := 82) hx hb dX5_one_1 (by rw [c_1_2]; decide) (by rw [c_1_2]; decide) (by rw [c_1_2]; rfl) (by decide) ?_
    refine lv_aload_n hx hb dX5_one_82 rfl (lv_at hl 0 rfl) ?_
    refine va_get (D := D) (ci := 5) (v := .ref (q 1)) (C := RX5) (T := TX5) (N := 14) hx hb hts inX5 hown hK hP 0 rfl rfl 0 (by decide) (hts (.fieldLink RX5 7 "PumpOathsModel" "now" "[J") (List.mem_of_getElem? (i := 1) rfl)) (fun _ h9 => h9) rfl dX5_one_83 ?_
    refine lv_iconst (v := 2) hx hb dX5_one_86 (by decide) ?_
    refine va_lald (f := M.2.1 0) hx hb hK hP 1 1 rfl rfl (k_in (k := 2) rfl (by decide) (by decide)) dX5_one_87 ?_
    rw [show (2 : Int32).toNatClampNeg = 2 from rfl]
    exact k_lret hx hb hr hlk hP hS dX5_one_88 (by rw [A_X5_one_r, if_neg c_1_0, if_neg c_1_1, if_pos c_1_2]) (fun h => h)
  by_cases c_1_3 : x = 3
  · refine lv_tableIn (off := 88) (tgt := 89) hx hb dX5_one_1 (by rw [c_1_3]; decide) (by rw [c_1_3]; decide) (by rw [c_1_3]; rfl) (by decide) ?_
    refine lv_aload_n hx hb dX5_one_89 rfl (lv_at hl 0 rfl) ?_
    refine va_get (D := D) (ci := 5) (v := .ref (q 1)) (C := RX5) (T := TX5) (N := 14) hx hb hts inX5 hown hK hP 0 rfl rfl 0 (by decide) (hts (.fieldLink RX5 7 "PumpOathsModel" "now" "[J") (List.mem_of_getElem? (i := 1) rfl)) (fun _ h9 => h9) rfl dX5_one_90 ?_
    refine lv_iconst (v := 3) hx hb dX5_one_93 (by decide) ?_
    refine va_lald (f := M.2.1 0) hx hb hK hP 1 1 rfl rfl (k_in (k := 3) rfl (by decide) (by decide)) dX5_one_94 ?_
    rw [show (3 : Int32).toNatClampNeg = 3 from rfl]
    exact k_lret hx hb hr hlk hP hS dX5_one_95 (by rw [A_X5_one_r, if_neg c_1_0, if_neg c_1_1, if_neg c_1_2, if_pos c_1_3]) (fun h => h)
  by_cases c_1_4 : x = 4
  · refine lv_tableIn (off := 95) (tgt := 96) hx hb dX5_one_1 (by rw [c_1_4]; decide) (by rw [c_1_4]; decide) (by rw [c_1_4]; rfl) (by decide) ?_
    refine lv_aload_n hx hb dX5_one_96 rfl (lv_at hl 0 rfl) ?_
    refine va_get (D := D) (ci := 5) (v := .ref (q 1)) (C := RX5) (T := TX5) (N := 14) hx hb hts inX5 hown hK hP 0 rfl rfl 0 (by decide) (hts (.fieldLink RX5 7 "PumpOathsModel" "now" "[J") (List.mem_of_getElem? (i := 1) rfl)) (fun _ h9 => h9) rfl dX5_one_97 ?_
    refine lv_bipush (v := 7) hx hb dX5_one_100 (by decide) ?_
    refine va_lald (f := M.2.1 0) hx hb hK hP 1 1 rfl rfl (k_in (k := 7) rfl (by decide) (by decide)) dX5_one_102 ?_
    rw [show (7 : Int32).toNatClampNeg = 7 from rfl]
    exact k_lret hx hb hr hlk hP hS dX5_one_103 (by rw [A_X5_one_r, if_neg c_1_0, if_neg c_1_1, if_neg c_1_2, if_neg c_1_3, if_pos c_1_4]) (fun h => h)
  by_cases c_1_5 : x = 5
  · refine lv_tableIn (off := 103) (tgt := 104) hx hb dX5_one_1 (by rw [c_1_5]; decide) (by rw [c_1_5]; decide) (by rw [c_1_5]; rfl) (by decide) ?_
    refine lv_aload_n hx hb dX5_one_104 rfl (lv_at hl 0 rfl) ?_
    refine va_get (D := D) (ci := 5) (v := .ref (q 1)) (C := RX5) (T := TX5) (N := 14) hx hb hts inX5 hown hK hP 0 rfl rfl 0 (by decide) (hts (.fieldLink RX5 7 "PumpOathsModel" "now" "[J") (List.mem_of_getElem? (i := 1) rfl)) (fun _ h9 => h9) rfl dX5_one_105 ?_
    refine lv_iconst (v := 1) hx hb dX5_one_108 (by decide) ?_
    refine k_calli (a := List.take 1 (moW q cI cJ M)) (z := List.drop 2 (moW q cI cJ M)) (wc := rwW (q 1) cJ (M.2.1 0)) (wc' := rwW (q 1) cJ (M.2.1 0)) (w' := moW q cI cJ M) (va_runS (As := [.ref (q 1), .int 1]) (rest := []) ⟨hx, hb, hml, hown, hts⟩ (c_X5_many l D (q 1) cI cJ (M.2.1 0) 1 n hn hn6 _) (cwS 2 hts gX5_one_X5_many rfl rfl rfl (by decide +kernel) ⟨Nat.le_of_ble_eq_true rfl, Nat.le_of_ble_eq_true rfl⟩) ⟨kB_blind, k_pre (a := List.take 1 (moW q cI cJ M)) (z := List.drop 2 (moW q cI cJ M)) rfl hK hP hD⟩ rfl rfl hl.1 rfl (lv_room (Nat.le_of_ble_eq_true rfl)) dX5_one_109 ⟨Nat.zero_le _, Nat.zero_le _⟩) rfl rfl (rwW_ad _ _ _ _) hP hD hS hA (fun H locs hP hD hS => ?_)
    refine lv_i2l hx hb dX5_one_112 rfl ?_
    exact k_lret hx hb hr hlk hP hS dX5_one_113 (by rw [A_X5_one_r, if_neg c_1_0, if_neg c_1_1, if_neg c_1_2, if_neg c_1_3, if_neg c_1_4, if_pos c_1_5]) (fun h => h)
  by_cases c_1_6 : x = 6
  · refine lv_tableIn (off := 113) (tgt := 114) hx hb dX5_one_1 (by rw [c_1_6]; decide) (by rw [c_1_6]; decide) (by rw [c_1_6]; rfl) (by decide) ?_
    refine lv_aload_n hx hb dX5_one_114 rfl (lv_at hl 0 rfl) ?_
    refine va_get (D := D) (ci := 5) (v := .ref (q 1)) (C := RX5) (T := TX5) (N := 14) hx hb hts inX5 hown hK hP 0 rfl rfl 0 (by decide) (hts (.fieldLink RX5 7 "PumpOathsModel" "now" "[J") (List.mem_of_getElem? (i := 1) rfl)) (fun _ h9 => h9) rfl dX5_one_115 ?_
    refine lv_iconst (v := 2) hx hb dX5_one_118 (by decide) ?_
    refine k_calli (a := List.take 1 (moW q cI cJ M)) (z := List.drop 2 (moW q cI cJ M)) (wc := rwW (q 1) cJ (M.2.1 0)) (wc' := rwW (q 1) cJ (M.2.1 0)) (w' := moW q cI cJ M) (va_runS (As := [.ref (q 1), .int 2]) (rest := []) ⟨hx, hb, hml, hown, hts⟩ (c_X5_many l D (q 1) cI cJ (M.2.1 0) 2 n hn hn6 _) (cwS 2 hts gX5_one_X5_many rfl rfl rfl (by decide +kernel) ⟨Nat.le_of_ble_eq_true rfl, Nat.le_of_ble_eq_true rfl⟩) ⟨kB_blind, k_pre (a := List.take 1 (moW q cI cJ M)) (z := List.drop 2 (moW q cI cJ M)) rfl hK hP hD⟩ rfl rfl hl.1 rfl (lv_room (Nat.le_of_ble_eq_true rfl)) dX5_one_119 ⟨Nat.zero_le _, Nat.zero_le _⟩) rfl rfl (rwW_ad _ _ _ _) hP hD hS hA (fun H locs hP hD hS => ?_)
    refine lv_i2l hx hb dX5_one_122 rfl ?_
    exact k_lret hx hb hr hlk hP hS dX5_one_123 (by rw [A_X5_one_r, if_neg c_1_0, if_neg c_1_1, if_neg c_1_2, if_neg c_1_3, if_neg c_1_4, if_neg c_1_5, if_pos c_1_6]) (fun h => h)
  by_cases c_1_7 : x = 7
  · refine lv_tableIn (off := 123) (tgt := 124) hx hb dX5_one_1 (by rw [c_1_7]; decide) (by rw [c_1_7]; decide) (by rw [c_1_7]; rfl) (by decide) ?_
    refine lv_aload_n hx hb dX5_one_124 rfl (lv_at hl 0 rfl) ?_
    refine va_get (D := D) (ci := 5) (v := .ref (q 1)) (C := RX5) (T := TX5) (N := 14) hx hb hts inX5 hown hK hP 0 rfl rfl 0 (by decide) (hts (.fieldLink RX5 7 "PumpOathsModel" "now" "[J") (List.mem_of_getElem? (i := 1) rfl)) (fun _ h9 => h9) rfl dX5_one_125 ?_
    refine lv_bipush (v := 8) hx hb dX5_one_128 (by decide) ?_
    refine va_lald (f := M.2.1 0) hx hb hK hP 1 1 rfl rfl (k_in (k := 8) rfl (by decide) (by decide)) dX5_one_130 ?_
    rw [show (8 : Int32).toNatClampNeg = 8 from rfl]
    exact k_lret hx hb hr hlk hP hS dX5_one_131 (by rw [A_X5_one_r, if_neg c_1_0, if_neg c_1_1, if_neg c_1_2, if_neg c_1_3, if_neg c_1_4, if_neg c_1_5, if_neg c_1_6, if_pos c_1_7]) (fun h => h)
  by_cases c_1_8 : x = 8
  · refine lv_tableIn (off := 131) (tgt := 132) hx hb dX5_one_1 (by rw [c_1_8]; decide) (by rw [c_1_8]; decide) (by rw [c_1_8]; rfl) (by decide) ?_
    refine lv_aload_n hx hb dX5_one_132 rfl (lv_at hl 0 rfl) ?_
    refine va_get (D := D) (ci := 5) (v := .ref (q 1)) (C := RX5) (T := TX5) (N := 14) hx hb hts inX5 hown hK hP 0 rfl rfl 0 (by decide) (hts (.fieldLink RX5 7 "PumpOathsModel" "now" "[J") (List.mem_of_getElem? (i := 1) rfl)) (fun _ h9 => h9) rfl dX5_one_133 ?_
    refine lv_bipush (v := 8) hx hb dX5_one_136 (by decide) ?_
    refine va_lald (f := M.2.1 0) hx hb hK hP 1 1 rfl rfl (k_in (k := 8) rfl (by decide) (by decide)) dX5_one_138 ?_
    rw [show (8 : Int32).toNatClampNeg = 8 from rfl]
    refine lv_ldc2 (v := 60) hx hb hown (hts (.constantLong RX5 140 (60)) (List.mem_of_getElem? (i := 2) rfl)) dX5_one_139 ?_
    refine lv_ldiv hx hb dX5_one_142 (by decide) ?_
    refine lv_ldc2 (v := 24) hx hb hown (hts (.constantLong RX5 142 (24)) (List.mem_of_getElem? (i := 3) rfl)) dX5_one_143 ?_
    refine lv_lrem hx hb dX5_one_146 (by decide) ?_
    exact k_lret hx hb hr hlk hP hS dX5_one_147 (by rw [A_X5_one_r, if_neg c_1_0, if_neg c_1_1, if_neg c_1_2, if_neg c_1_3, if_neg c_1_4, if_neg c_1_5, if_neg c_1_6, if_neg c_1_7, if_pos c_1_8]) (fun h => h)
  by_cases c_1_9 : x = 9
  · refine lv_tableIn (off := 147) (tgt := 148) hx hb dX5_one_1 (by rw [c_1_9]; decide) (by rw [c_1_9]; decide) (by rw [c_1_9]; rfl) (by decide) ?_
    refine lv_aload_n hx hb dX5_one_148 rfl (lv_at hl 0 rfl) ?_
    refine va_get (D := D) (ci := 5) (v := .ref (q 1)) (C := RX5) (T := TX5) (N := 14) hx hb hts inX5 hown hK hP 0 rfl rfl 0 (by decide) (hts (.fieldLink RX5 7 "PumpOathsModel" "now" "[J") (List.mem_of_getElem? (i := 1) rfl)) (fun _ h9 => h9) rfl dX5_one_149 ?_
    refine lv_bipush (v := 9) hx hb dX5_one_152 (by decide) ?_
    refine va_lald (f := M.2.1 0) hx hb hK hP 1 1 rfl rfl (k_in (k := 9) rfl (by decide) (by decide)) dX5_one_154 ?_
    rw [show (9 : Int32).toNatClampNeg = 9 from rfl]
    exact k_lret hx hb hr hlk hP hS dX5_one_155 (by rw [A_X5_one_r, if_neg c_1_0, if_neg c_1_1, if_neg c_1_2, if_neg c_1_3, if_neg c_1_4, if_neg c_1_5, if_neg c_1_6, if_neg c_1_7, if_neg c_1_8, if_pos c_1_9]) (fun h => h)
  by_cases c_1_10 : x = 10
  · refine lv_tableIn (off := 155) (tgt := 156) hx hb dX5_one_1 (by rw [c_1_10]; decide) (by rw [c_1_10]; decide) (by rw [c_1_10]; rfl) (by decide) ?_
    refine lv_aload_n hx hb dX5_one_156 rfl (lv_at hl 0 rfl) ?_
    refine va_get (D := D) (ci := 5) (v := .ref (q 1)) (C := RX5) (T := TX5) (N := 14) hx hb hts inX5 hown hK hP 0 rfl rfl 0 (by decide) (hts (.fieldLink RX5 7 "PumpOathsModel" "now" "[J") (List.mem_of_getElem? (i := 1) rfl)) (fun _ h9 => h9) rfl dX5_one_157 ?_
    refine lv_bipush (v := 10) hx hb dX5_one_160 (by decide) ?_
    refine va_lald (f := M.2.1 0) hx hb hK hP 1 1 rfl rfl (k_in (k := 10) rfl (by decide) (by decide)) dX5_one_162 ?_
    rw [show (10 : Int32).toNatClampNeg = 10 from rfl]
    exact k_lret hx hb hr hlk hP hS dX5_one_163 (by rw [A_X5_one_r, if_neg c_1_0, if_neg c_1_1, if_neg c_1_2, if_neg c_1_3, if_neg c_1_4, if_neg c_1_5, if_neg c_1_6, if_neg c_1_7, if_neg c_1_8, if_neg c_1_9, if_pos c_1_10]) (fun h => h)
  by_cases c_1_11 : x = 11
  · refine lv_tableIn (off := 163) (tgt := 164) hx hb dX5_one_1 (by rw [c_1_11]; decide) (by rw [c_1_11]; decide) (by rw [c_1_11]; rfl) (by decide) ?_
    refine lv_aload_n hx hb dX5_one_164 rfl (lv_at hl 0 rfl) ?_
    refine va_get (D := D) (ci := 5) (v := .ref (q 1)) (C := RX5) (T := TX5) (N := 14) hx hb hts inX5 hown hK hP 0 rfl rfl 0 (by decide) (hts (.fieldLink RX5 7 "PumpOathsModel" "now" "[J") (List.mem_of_getElem? (i := 1) rfl)) (fun _ h9 => h9) rfl dX5_one_165 ?_
    refine lv_bipush (v := 7) hx hb dX5_one_168 (by decide) ?_
    refine va_lald (f := M.2.1 0) hx hb hK hP 1 1 rfl rfl (k_in (k := 7) rfl (by decide) (by decide)) dX5_one_170 ?_
    rw [show (7 : Int32).toNatClampNeg = 7 from rfl]
    refine lv_lconst (v := 0) hx hb dX5_one_171 (by decide) ?_
    refine W.lcmp hx hb dX5_one_172 ?_
    refine lv_if_ne (tgt := 182) hx hb dX5_one_173 (by decide) (fun c_173_12 => ?_) (fun c_173_12 => ?_)
    · have c_173_12 : ¬ ((M.2.1 0) 7) = 0 := mt (lg_cmp_eq ((M.2.1 0) 7) 0).mpr c_173_12
      refine lv_aload_n hx hb dX5_one_182 rfl (lv_at hl 0 rfl) ?_
      refine va_get (D := D) (ci := 5) (v := .ref (q 1)) (C := RX5) (T := TX5) (N := 14) hx hb hts inX5 hown hK hP 0 rfl rfl 0 (by decide) (hts (.fieldLink RX5 7 "PumpOathsModel" "now" "[J") (List.mem_of_getElem? (i := 1) rfl)) (fun _ h9 => h9) rfl dX5_one_183 ?_
      refine lv_bipush (v := 96) hx hb dX5_one_186 (by decide) ?_
      refine va_lald (f := M.2.1 0) hx hb hK hP 1 1 rfl rfl (k_in (k := 96) rfl (by decide) (by decide)) dX5_one_188 ?_
      rw [show (96 : Int32).toNatClampNeg = 96 from rfl]
      exact k_lret hx hb hr hlk hP hS dX5_one_189 (by rw [A_X5_one_r, if_neg c_1_0, if_neg c_1_1, if_neg c_1_2, if_neg c_1_3, if_neg c_1_4, if_neg c_1_5, if_neg c_1_6, if_neg c_1_7, if_neg c_1_8, if_neg c_1_9, if_neg c_1_10, if_pos c_1_11, if_neg c_173_12]) (fun h => h)
    · have c_173_12 : ((M.2.1 0) 7) = 0 := (lg_cmp_eq ((M.2.1 0) 7) 0).mp c_173_12
      refine lv_ldc2 (v := (-1)) hx hb hown (hts (.constantLong RX5 144 (-1)) (List.mem_of_getElem? (i := 4) rfl)) dX5_one_176 ?_
      refine lv_goto (tgt := 189) hx hb dX5_one_179 (by decide) ?_
      exact k_lret hx hb hr hlk hP hS dX5_one_189 (by rw [A_X5_one_r, if_neg c_1_0, if_neg c_1_1, if_neg c_1_2, if_neg c_1_3, if_neg c_1_4, if_neg c_1_5, if_neg c_1_6, if_neg c_1_7, if_neg c_1_8, if_neg c_1_9, if_neg c_1_10, if_pos c_1_11, if_pos c_173_12]) (fun h => h)
  by_cases c_1_13 : x = 12
  · refine lv_tableIn (off := 189) (tgt := 190) hx hb dX5_one_1 (by rw [c_1_13]; decide) (by rw [c_1_13]; decide) (by rw [c_1_13]; rfl) (by decide) ?_
    refine lv_aload_n hx hb dX5_one_190 rfl (lv_at hl 0 rfl) ?_
    refine va_get (D := D) (ci := 5) (v := .ref (q 1)) (C := RX5) (T := TX5) (N := 14) hx hb hts inX5 hown hK hP 0 rfl rfl 0 (by decide) (hts (.fieldLink RX5 7 "PumpOathsModel" "now" "[J") (List.mem_of_getElem? (i := 1) rfl)) (fun _ h9 => h9) rfl dX5_one_191 ?_
    refine lv_bipush (v := 11) hx hb dX5_one_194 (by decide) ?_
    refine va_lald (f := M.2.1 0) hx hb hK hP 1 1 rfl rfl (k_in (k := 11) rfl (by decide) (by decide)) dX5_one_196 ?_
    rw [show (11 : Int32).toNatClampNeg = 11 from rfl]
    exact k_lret hx hb hr hlk hP hS dX5_one_197 (by rw [A_X5_one_r, if_neg c_1_0, if_neg c_1_1, if_neg c_1_2, if_neg c_1_3, if_neg c_1_4, if_neg c_1_5, if_neg c_1_6, if_neg c_1_7, if_neg c_1_8, if_neg c_1_9, if_neg c_1_10, if_neg c_1_11, if_pos c_1_13]) (fun h => h)
  refine lv_tableOut (tgt := 198) hx hb dX5_one_1 (k_out13 c_1_0 c_1_1 c_1_2 c_1_3 c_1_4 c_1_5 c_1_6 c_1_7 c_1_8 c_1_9 c_1_10 c_1_11 c_1_13) (by decide) ?_
  refine lv_aload_n hx hb dX5_one_198 rfl (lv_at hl 0 rfl) ?_
  refine va_get (D := D) (ci := 5) (v := .ref (q 1)) (C := RX5) (T := TX5) (N := 14) hx hb hts inX5 hown hK hP 0 rfl rfl 0 (by decide) (hts (.fieldLink RX5 7 "PumpOathsModel" "now" "[J") (List.mem_of_getElem? (i := 1) rfl)) (fun _ h9 => h9) rfl dX5_one_199 ?_
  refine lv_bipush (v := 13) hx hb dX5_one_202 (by decide) ?_
  refine va_lald (f := M.2.1 0) hx hb hK hP 1 1 rfl rfl (k_in (k := 13) rfl (by decide) (by decide)) dX5_one_204 ?_
  rw [show (13 : Int32).toNatClampNeg = 13 from rfl]
  exact k_lret hx hb hr hlk hP hS dX5_one_205 (by rw [A_X5_one_r, if_neg c_1_0, if_neg c_1_1, if_neg c_1_2, if_neg c_1_3, if_neg c_1_4, if_neg c_1_5, if_neg c_1_6, if_neg c_1_7, if_neg c_1_8, if_neg c_1_9, if_neg c_1_10, if_neg c_1_11, if_neg c_1_13]) (fun h => h)

def A_X5_value_r (M : MS) (n : Nat) (x : Int32) : Int32 := (if (m_in x.toInt64 0 13) = true then (A_X5_one_r (o_setI M 2 0) n x).toInt32 else 0)
def A_X5_value_s0 (M : MS) (n : Nat) (x : Int32) : MS := (if (m_in x.toInt64 0 13) = true then o_setI M 2 0 else o_setI M 2 1)
set_option maxHeartbeats 1000000 in
set_option maxRecDepth 100000 in
theorem c_X5_value (l : Launch) (D : va_G) (q : Nat → Nat) (cI cJ : ClassId) (M : MS) (x : Int32) (n : Nat) (hn : M.2.1 0 7 = lN n) (hn6 : n ≤ 6) : kI l yX5_value wsX5_value ({ frames := 3, cells := 0, slots := 0, locals := 65 } : Room) D [(cI, .int), (cJ, .long)] [.ref (q 0), .int x] (moW q cI cJ M) (A_X5_value_r M n x) (moW q cI cJ (A_X5_value_s0 M n x)) := by
  refine kBody.met (cc := cX5_value) (maxL := 2) (ret := (some .int)) (by decide) rfl (Nat.le_of_ble_eq_true rfl) ?_
  intro p9 e9 s9 m9 below meth c9 A9 ls hx hb hr hml hts hown hlk hK hP hD hA hl
  have hown : s9.vm.findClass RX5 = some m9.cls := hown
  have inX5 : ∀ w ∈ wsX50, w ∈ wsX5_value := fun w h => List.mem_cons_of_mem _ (List.mem_append_right _ (h))
  have hS : va_S A9 s9.heap s9.heap [] := va_S.rf
  have hl : lv_has ls 2 [(0, .ref (q 0)), (1, .int x)] := hl
  refine lv_aload_n hx hb dX5_value_0 rfl (lv_at hl 0 rfl) ?_
  refine lv_iload_n hx hb dX5_value_1 rfl (lv_at hl 1 rfl) ?_
  refine lv_i2l hx hb dX5_value_2 rfl ?_
  refine lv_lconst (v := 0) hx hb dX5_value_3 (by decide) ?_
  refine lv_ldc2 (v := 13) hx hb hown (hts (.constantLong RX5 146 (13)) (List.mem_of_getElem? (i := 1) rfl)) dX5_value_4 ?_
  refine k_calli (a := []) (z := moW q cI cJ M) (wc := []) (wc' := []) (w' := moW q cI cJ M) (va_runS (As := [.long x.toInt64, .long 0, .long 13]) (rest := [.ref (q 0)]) ⟨hx, hb, hml, hown, hts⟩ (c_X5_in l D cI cJ x.toInt64 0 13 _) (cwS 3 hts gX5_value_X5_in rfl rfl rfl (by decide +kernel) ⟨Nat.le_of_ble_eq_true rfl, Nat.le_of_ble_eq_true rfl⟩) ⟨kB_blind, k_pre (a := []) (z := moW q cI cJ M) rfl hK hP hD⟩ rfl rfl hl.1 rfl (lv_room (Nat.le_of_ble_eq_true rfl)) dX5_value_7 ⟨Nat.zero_le _, Nat.zero_le _⟩) rfl rfl rfl hP hD hS hA (fun H locs hP hD hS => ?_)
  refine lv_if_ne (tgt := 17) hx hb dX5_value_10 (by decide) (fun c_10_0 => ?_) (fun c_10_0 => ?_)
  · have c_10_0 : (m_in x.toInt64 0 13) = true := bi_n.mp c_10_0
    refine lv_iconst (v := 0) hx hb dX5_value_17 (by decide) ?_
    refine lv_iconst (v := 0) hx hb dX5_value_18 (by decide) ?_
    refine k_calli (a := []) (z := []) (wc := moW q cI cJ M) (wc' := moW q cI cJ (o_setI M 2 0)) (w' := moW q cI cJ (o_setI M 2 0)) (va_runV (As := [.int 0, .int 0]) (rest := []) ⟨hx, hb, hml, hown, hts⟩ (c_X5_goes00 l D q cI cJ M _) (cwV 2 hts gX5_value_X5_goes rfl rfl rfl (by decide +kernel) ⟨Nat.le_of_ble_eq_true rfl, Nat.le_of_ble_eq_true rfl⟩) ⟨kB_blind, va_recv hK hP (ci := 5) (q0 := 0) rfl rfl, k_pre (a := []) (z := []) (k_w0 _) hK hP hD⟩ rfl rfl hl.1 rfl (lv_room (Nat.le_of_ble_eq_true rfl)) dX5_value_19 ⟨Nat.zero_le _, Nat.zero_le _⟩) (k_w0 _) (k_w0 _) (moW_ad _ _ _ _ _) hP hD hS hA (fun H locs hP hD hS => ?_)
    refine lv_if_eq (tgt := 34) hx hb dX5_value_22 (by decide) (fun h => absurd h (by decide)) (fun _ => ?_)
    refine lv_aload_n hx hb dX5_value_25 rfl (lv_at hl 0 rfl) ?_
    refine lv_iload_n hx hb dX5_value_26 rfl (lv_at hl 1 rfl) ?_
    refine k_calll (a := []) (z := []) (wc := moW q cI cJ (o_setI M 2 0)) (wc' := moW q cI cJ (o_setI M 2 0)) (w' := moW q cI cJ (o_setI M 2 0)) (va_runV (As := [.int x]) (rest := []) ⟨hx, hb, hml, hown, hts⟩ (c_X5_one l D q cI cJ (o_setI M 2 0) x n hn hn6 _) (cwV 1 hts gX5_value_X5_one rfl rfl rfl (by decide +kernel) ⟨Nat.le_of_ble_eq_true rfl, Nat.le_of_ble_eq_true rfl⟩) ⟨kB_blind, va_recv hK hP (ci := 5) (q0 := 0) rfl rfl, k_pre (a := []) (z := []) (k_w0 _) hK hP hD⟩ rfl rfl hl.1 rfl (lv_room (Nat.le_of_ble_eq_true rfl)) dX5_value_27 ⟨Nat.zero_le _, Nat.zero_le _⟩) (k_w0 _) (k_w0 _) (moW_ad _ _ _ _ _) hP hD hS hA (fun H locs hP hD hS => ?_)
    refine lv_l2i hx hb dX5_value_30 rfl ?_
    refine lv_goto (tgt := 35) hx hb dX5_value_31 (by decide) ?_
    exact k_iret hx hb hr hlk hP hS dX5_value_35 rfl (by rw [A_X5_value_r, if_pos c_10_0]) (k_P (congrArg (fun T9 => moW q cI cJ T9) (show (o_setI M 2 0) = (A_X5_value_s0 M n x) from by rw [A_X5_value_s0, if_pos c_10_0])))
  · have c_10_0 : (m_in x.toInt64 0 13) = false := bi_0.mp c_10_0
    refine lv_iconst (v := 1) hx hb dX5_value_13 (by decide) ?_
    refine lv_goto (tgt := 18) hx hb dX5_value_14 (by decide) ?_
    refine lv_iconst (v := 0) hx hb dX5_value_18 (by decide) ?_
    refine k_calli (a := []) (z := []) (wc := moW q cI cJ M) (wc' := moW q cI cJ (o_setI M 2 1)) (w' := moW q cI cJ (o_setI M 2 1)) (va_runV (As := [.int 1, .int 0]) (rest := []) ⟨hx, hb, hml, hown, hts⟩ (c_X5_goes1 l D q cI cJ M 0 _) (cwV 2 hts gX5_value_X5_goes rfl rfl rfl (by decide +kernel) ⟨Nat.le_of_ble_eq_true rfl, Nat.le_of_ble_eq_true rfl⟩) ⟨kB_blind, va_recv hK hP (ci := 5) (q0 := 0) rfl rfl, k_pre (a := []) (z := []) (k_w0 _) hK hP hD⟩ rfl rfl hl.1 rfl (lv_room (Nat.le_of_ble_eq_true rfl)) dX5_value_19 ⟨Nat.zero_le _, Nat.zero_le _⟩) (k_w0 _) (k_w0 _) (moW_ad _ _ _ _ _) hP hD hS hA (fun H locs hP hD hS => ?_)
    refine lv_if_eq (tgt := 34) hx hb dX5_value_22 (by decide) (fun _ => ?_) (fun h => absurd h (by decide))
    refine lv_iconst (v := 0) hx hb dX5_value_34 (by decide) ?_
    exact k_iret hx hb hr hlk hP hS dX5_value_35 rfl (by rw [A_X5_value_r, if_neg (bi_nt c_10_0)]) (k_P (congrArg (fun T9 => moW q cI cJ T9) (show (o_setI M 2 1) = (A_X5_value_s0 M n x) from by rw [A_X5_value_s0, if_neg (bi_nt c_10_0)])))

def A_X5_append_r (M : MS) (le : Nat) (x : Int32) : Int32 := (if (m_in x.toInt64 0 127) = true then (if (M.1 1) = 100 then 0 else (M.1 1) + 1) else (if (M.1 1) = 100 then 0 else 0))
def A_X5_append_s0 (M : MS) (le : Nat) (x : Int32) : MS := (if (m_in x.toInt64 0 127) = true then (if (M.1 1) = 100 then o_setI M 2 2 else o_setI (o_setA (o_setI M 2 0) 0 (upd (M.2.2 0) le x)) 1 ((M.1 1) + 1)) else (if (M.1 1) = 100 then o_setI M 2 1 else o_setI M 2 1))
set_option maxHeartbeats 1000000 in
set_option maxRecDepth 100000 in
theorem c_X5_append (l : Launch) (D : va_G) (q : Nat → Nat) (cI cJ : ClassId) (M : MS) (x : Int32) (le : Nat) (hle : M.1 1 = nI le) (hle1 : le ≤ 100) : kI l yX5_append wsX5_append ({ frames := 1, cells := 0, slots := 0, locals := 25 } : Room) D [(cI, .int), (cJ, .long)] [.ref (q 0), .int x] (moW q cI cJ M) (A_X5_append_r M le x) (moW q cI cJ (A_X5_append_s0 M le x)) := by
  refine kBody.met (cc := cX5_append) (maxL := 2) (ret := (some .int)) (by decide) rfl (Nat.le_of_ble_eq_true rfl) ?_
  intro p9 e9 s9 m9 below meth c9 A9 ls hx hb hr hml hts hown hlk hK hP hD hA hl
  have hown : s9.vm.findClass RX5 = some m9.cls := hown
  have inX5 : ∀ w ∈ wsX50, w ∈ wsX5_append := fun w h => List.mem_cons_of_mem _ (List.mem_append_right _ (h))
  have hS : va_S A9 s9.heap s9.heap [] := va_S.rf
  have hl : lv_has ls 2 [(0, .ref (q 0)), (1, .int x)] := hl
  refine lv_aload_n hx hb dX5_append_0 rfl (lv_at hl 0 rfl) ?_
  refine lv_iload_n hx hb dX5_append_1 rfl (lv_at hl 1 rfl) ?_
  refine lv_i2l hx hb dX5_append_2 rfl ?_
  refine lv_lconst (v := 0) hx hb dX5_append_3 (by decide) ?_
  refine lv_ldc2 (v := 127) hx hb hown (hts (.constantLong RX5 165 (127)) (List.mem_of_getElem? (i := 1) rfl)) dX5_append_4 ?_
  refine k_calli (a := []) (z := moW q cI cJ M) (wc := []) (wc' := []) (w' := moW q cI cJ M) (va_runS (As := [.long x.toInt64, .long 0, .long 127]) (rest := [.ref (q 0)]) ⟨hx, hb, hml, hown, hts⟩ (c_X5_in l D cI cJ x.toInt64 0 127 _) (cwS 3 hts gX5_append_X5_in rfl rfl rfl (by decide +kernel) ⟨Nat.le_of_ble_eq_true rfl, Nat.le_of_ble_eq_true rfl⟩) ⟨kB_blind, k_pre (a := []) (z := moW q cI cJ M) rfl hK hP hD⟩ rfl rfl hl.1 rfl (lv_room (Nat.le_of_ble_eq_true rfl)) dX5_append_7 ⟨Nat.zero_le _, Nat.zero_le _⟩) rfl rfl rfl hP hD hS hA (fun H locs hP hD hS => ?_)
  refine lv_if_ne (tgt := 17) hx hb dX5_append_10 (by decide) (fun c_10_0 => ?_) (fun c_10_0 => ?_)
  · have c_10_0 : (m_in x.toInt64 0 127) = true := bi_n.mp c_10_0
    refine lv_iconst (v := 0) hx hb dX5_append_17 (by decide) ?_
    refine lv_aload_n hx hb dX5_append_18 rfl (lv_at hl 0 rfl) ?_
    refine va_get (D := D) (ci := 5) (v := .int (M.1 1)) (C := RX5) (T := TX5) (N := 14) hx hb hts inX5 hown hK hP 0 rfl rfl 5 (by decide) (hts (.fieldLink RX5 167 "PumpOathsModel" "letters" "I") (List.mem_of_getElem? (i := 2) rfl)) (fun _ h9 => h9) rfl dX5_append_19 ?_
    refine lv_bipush (v := 100) hx hb dX5_append_22 (by decide) ?_
    refine lv_icmp_ne (tgt := 31) hx hb dX5_append_24 (by decide) (fun c_24_1 => ?_) (fun c_24_1 => ?_)
    · have c_24_1 : ¬ (M.1 1) = 100 := c_24_1
      have hle2 : le < 100 := by
        rcases Nat.lt_or_ge le 100 with q9 | q9
        · exact q9
        · have e9 : le = 100 := by omega
          subst e9; exact absurd hle c_24_1
      refine lv_iconst (v := 0) hx hb dX5_append_31 (by decide) ?_
      refine k_calli (a := []) (z := []) (wc := moW q cI cJ M) (wc' := moW q cI cJ (o_setI M 2 0)) (w' := moW q cI cJ (o_setI M 2 0)) (va_runV (As := [.int 0, .int 0]) (rest := []) ⟨hx, hb, hml, hown, hts⟩ (c_X5_goes00 l D q cI cJ M _) (cwV 2 hts gX5_append_X5_goes rfl rfl rfl (by decide +kernel) ⟨Nat.le_of_ble_eq_true rfl, Nat.le_of_ble_eq_true rfl⟩) ⟨kB_blind, va_recv hK hP (ci := 5) (q0 := 0) rfl rfl, k_pre (a := []) (z := []) (k_w0 _) hK hP hD⟩ rfl rfl hl.1 rfl (lv_room (Nat.le_of_ble_eq_true rfl)) dX5_append_32 ⟨Nat.zero_le _, Nat.zero_le _⟩) (k_w0 _) (k_w0 _) (moW_ad _ _ _ _ _) hP hD hS hA (fun H locs hP hD hS => ?_)
      refine lv_if_ne (tgt := 40) hx hb dX5_append_35 (by decide) (fun _ => ?_) (fun h => absurd h (by decide))
      refine lv_aload_n hx hb dX5_append_40 rfl (lv_at hl 0 rfl) ?_
      refine va_get (D := D) (ci := 5) (v := .ref (q 4)) (C := RX5) (T := TX5) (N := 14) hx hb hts inX5 hown hK hP 0 rfl rfl 4 (by decide) (hts (.fieldLink RX5 19 "PumpOathsModel" "text" "[I") (List.mem_of_getElem? (i := 3) rfl)) (fun _ h9 => h9) rfl dX5_append_41 ?_
      refine lv_aload_n hx hb dX5_append_44 rfl (lv_at hl 0 rfl) ?_
      refine va_get (D := D) (ci := 5) (v := .int (M.1 1)) (C := RX5) (T := TX5) (N := 14) hx hb hts inX5 hown hK hP 0 rfl rfl 5 (by decide) (hts (.fieldLink RX5 167 "PumpOathsModel" "letters" "I") (List.mem_of_getElem? (i := 2) rfl)) (fun _ h9 => h9) rfl dX5_append_45 ?_
      refine lv_iload_n hx hb dX5_append_48 rfl (lv_at hl 1 rfl) ?_
      refine va_iast (f := M.2.2 0) hx hb hK hP hD hS 4 0 rfl rfl (k_in (k := le) (hle) (by omega) (by decide)) dX5_append_49 (fun H locs hP hD hS => ?_)
      rw [show (M.1 1 : Int32).toNatClampNeg = le from k_cl (hle) (by omega)] at hP hD
      have hP : va_P D vwCl (moW q cI cJ (o_setA (o_setI M 2 0) 0 (upd (M.2.2 0) le x))) H := hP
      have hD : va_D A9 (moW q cI cJ (o_setA (o_setI M 2 0) 0 (upd (M.2.2 0) le x))) := hD
      obtain ⟨T_4, hT_4⟩ : ∃ T9, T9 = upd (M.2.2 0) le x := ⟨_, rfl⟩
      rw [← hT_4] at hP hD
      refine lv_aload_n hx hb dX5_append_50 rfl (lv_at hl 0 rfl) ?_
      refine lv_dup hx hb dX5_append_51 rfl ?_
      refine va_get (D := D) (ci := 5) (v := .int (M.1 1)) (C := RX5) (T := TX5) (N := 14) hx hb hts inX5 hown hK hP 0 rfl rfl 5 (by decide) (hts (.fieldLink RX5 167 "PumpOathsModel" "letters" "I") (List.mem_of_getElem? (i := 2) rfl)) (fun _ h9 => h9) rfl dX5_append_52 ?_
      refine lv_iconst (v := 1) hx hb dX5_append_55 (by decide) ?_
      refine lv_iadd hx hb dX5_append_56 ?_
      refine va_put (D := D) (ci := 5) (v := .int ((M.1 1) + 1)) (ty := .int) (C := RX5) (T := TX5) (N := 14) hx hb hts inX5 tyX5 tyX5_ok nmX5 hown hK hP hD hS 0 rfl rfl 5 (by decide) (hts (.fieldLink RX5 167 "PumpOathsModel" "letters" "I") (List.mem_of_getElem? (i := 2) rfl)) (fun _ h9 => h9) rfl (by decide +kernel) rfl rfl (Nat.le_of_ble_eq_true rfl) dX5_append_57 (fun H locs hP hD hS => ?_)
      have hP : va_P D vwCl (moW q cI cJ (o_setI (o_setA (o_setI M 2 0) 0 T_4) 1 ((M.1 1) + 1))) H := hP
      have hD : va_D A9 (moW q cI cJ (o_setI (o_setA (o_setI M 2 0) 0 T_4) 1 ((M.1 1) + 1))) := hD
      refine lv_aload_n hx hb dX5_append_60 rfl (lv_at hl 0 rfl) ?_
      refine va_get (D := D) (ci := 5) (v := .int ((M.1 1) + 1)) (C := RX5) (T := TX5) (N := 14) hx hb hts inX5 hown hK hP 0 rfl rfl 5 (by decide) (hts (.fieldLink RX5 167 "PumpOathsModel" "letters" "I") (List.mem_of_getElem? (i := 2) rfl)) (fun _ h9 => h9) rfl dX5_append_61 ?_
      exact k_iret hx hb hr hlk hP hS dX5_append_64 rfl (by rw [A_X5_append_r, if_pos c_10_0, if_neg c_24_1]) (k_P (congrArg (fun T9 => moW q cI cJ T9) (show (o_setI (o_setA (o_setI M 2 0) 0 T_4) 1 ((M.1 1) + 1)) = (A_X5_append_s0 M le x) from by rw [hT_4, A_X5_append_s0, if_pos c_10_0, if_neg c_24_1])))
    · have c_24_1 : (M.1 1) = 100 := c_24_1
      refine lv_iconst (v := 1) hx hb dX5_append_27 (by decide) ?_
      refine lv_goto (tgt := 32) hx hb dX5_append_28 (by decide) ?_
      refine k_calli (a := []) (z := []) (wc := moW q cI cJ M) (wc' := moW q cI cJ (o_setI M 2 2)) (w' := moW q cI cJ (o_setI M 2 2)) (va_runV (As := [.int 0, .int 1]) (rest := []) ⟨hx, hb, hml, hown, hts⟩ (c_X5_goes01 l D q cI cJ M _) (cwV 2 hts gX5_append_X5_goes rfl rfl rfl (by decide +kernel) ⟨Nat.le_of_ble_eq_true rfl, Nat.le_of_ble_eq_true rfl⟩) ⟨kB_blind, va_recv hK hP (ci := 5) (q0 := 0) rfl rfl, k_pre (a := []) (z := []) (k_w0 _) hK hP hD⟩ rfl rfl hl.1 rfl (lv_room (Nat.le_of_ble_eq_true rfl)) dX5_append_32 ⟨Nat.zero_le _, Nat.zero_le _⟩) (k_w0 _) (k_w0 _) (moW_ad _ _ _ _ _) hP hD hS hA (fun H locs hP hD hS => ?_)
      refine lv_if_ne (tgt := 40) hx hb dX5_append_35 (by decide) (fun h => absurd h (by decide)) (fun _ => ?_)
      refine lv_iconst (v := 0) hx hb dX5_append_38 (by decide) ?_
      exact k_iret hx hb hr hlk hP hS dX5_append_39 rfl (by rw [A_X5_append_r, if_pos c_10_0, if_pos c_24_1]) (k_P (congrArg (fun T9 => moW q cI cJ T9) (show (o_setI M 2 2) = (A_X5_append_s0 M le x) from by rw [A_X5_append_s0, if_pos c_10_0, if_pos c_24_1])))
  · have c_10_0 : (m_in x.toInt64 0 127) = false := bi_0.mp c_10_0
    refine lv_iconst (v := 1) hx hb dX5_append_13 (by decide) ?_
    refine lv_goto (tgt := 18) hx hb dX5_append_14 (by decide) ?_
    refine lv_aload_n hx hb dX5_append_18 rfl (lv_at hl 0 rfl) ?_
    refine va_get (D := D) (ci := 5) (v := .int (M.1 1)) (C := RX5) (T := TX5) (N := 14) hx hb hts inX5 hown hK hP 0 rfl rfl 5 (by decide) (hts (.fieldLink RX5 167 "PumpOathsModel" "letters" "I") (List.mem_of_getElem? (i := 2) rfl)) (fun _ h9 => h9) rfl dX5_append_19 ?_
    refine lv_bipush (v := 100) hx hb dX5_append_22 (by decide) ?_
    refine lv_icmp_ne (tgt := 31) hx hb dX5_append_24 (by decide) (fun c_24_5 => ?_) (fun c_24_5 => ?_)
    · have c_24_5 : ¬ (M.1 1) = 100 := c_24_5
      have hle2 : le < 100 := by
        rcases Nat.lt_or_ge le 100 with q9 | q9
        · exact q9
        · have e9 : le = 100 := by omega
          subst e9; exact absurd hle c_24_5
      refine lv_iconst (v := 0) hx hb dX5_append_31 (by decide) ?_
      refine k_calli (a := []) (z := []) (wc := moW q cI cJ M) (wc' := moW q cI cJ (o_setI M 2 1)) (w' := moW q cI cJ (o_setI M 2 1)) (va_runV (As := [.int 1, .int 0]) (rest := []) ⟨hx, hb, hml, hown, hts⟩ (c_X5_goes1 l D q cI cJ M 0 _) (cwV 2 hts gX5_append_X5_goes rfl rfl rfl (by decide +kernel) ⟨Nat.le_of_ble_eq_true rfl, Nat.le_of_ble_eq_true rfl⟩) ⟨kB_blind, va_recv hK hP (ci := 5) (q0 := 0) rfl rfl, k_pre (a := []) (z := []) (k_w0 _) hK hP hD⟩ rfl rfl hl.1 rfl (lv_room (Nat.le_of_ble_eq_true rfl)) dX5_append_32 ⟨Nat.zero_le _, Nat.zero_le _⟩) (k_w0 _) (k_w0 _) (moW_ad _ _ _ _ _) hP hD hS hA (fun H locs hP hD hS => ?_)
      refine lv_if_ne (tgt := 40) hx hb dX5_append_35 (by decide) (fun h => absurd h (by decide)) (fun _ => ?_)
      refine lv_iconst (v := 0) hx hb dX5_append_38 (by decide) ?_
      exact k_iret hx hb hr hlk hP hS dX5_append_39 rfl (by rw [A_X5_append_r, if_neg (bi_nt c_10_0), if_neg c_24_5]) (k_P (congrArg (fun T9 => moW q cI cJ T9) (show (o_setI M 2 1) = (A_X5_append_s0 M le x) from by rw [A_X5_append_s0, if_neg (bi_nt c_10_0), if_neg c_24_5])))
    · have c_24_5 : (M.1 1) = 100 := c_24_5
      refine lv_iconst (v := 1) hx hb dX5_append_27 (by decide) ?_
      refine lv_goto (tgt := 32) hx hb dX5_append_28 (by decide) ?_
      refine k_calli (a := []) (z := []) (wc := moW q cI cJ M) (wc' := moW q cI cJ (o_setI M 2 1)) (w' := moW q cI cJ (o_setI M 2 1)) (va_runV (As := [.int 1, .int 1]) (rest := []) ⟨hx, hb, hml, hown, hts⟩ (c_X5_goes1 l D q cI cJ M 1 _) (cwV 2 hts gX5_append_X5_goes rfl rfl rfl (by decide +kernel) ⟨Nat.le_of_ble_eq_true rfl, Nat.le_of_ble_eq_true rfl⟩) ⟨kB_blind, va_recv hK hP (ci := 5) (q0 := 0) rfl rfl, k_pre (a := []) (z := []) (k_w0 _) hK hP hD⟩ rfl rfl hl.1 rfl (lv_room (Nat.le_of_ble_eq_true rfl)) dX5_append_32 ⟨Nat.zero_le _, Nat.zero_le _⟩) (k_w0 _) (k_w0 _) (moW_ad _ _ _ _ _) hP hD hS hA (fun H locs hP hD hS => ?_)
      refine lv_if_ne (tgt := 40) hx hb dX5_append_35 (by decide) (fun h => absurd h (by decide)) (fun _ => ?_)
      refine lv_iconst (v := 0) hx hb dX5_append_38 (by decide) ?_
      exact k_iret hx hb hr hlk hP hS dX5_append_39 rfl (by rw [A_X5_append_r, if_neg (bi_nt c_10_0), if_pos c_24_5]) (k_P (congrArg (fun T9 => moW q cI cJ T9) (show (o_setI M 2 1) = (A_X5_append_s0 M le x) from by rw [A_X5_append_s0, if_neg (bi_nt c_10_0), if_pos c_24_5])))

def A_X5_clearText_r (M : MS) : Int32 := M.1 1
def A_X5_clearText_s0 (M : MS) : MS := o_setI (o_setI M 2 0) 1 0
set_option maxHeartbeats 1000000 in
set_option maxRecDepth 100000 in
theorem c_X5_clearText (l : Launch) (D : va_G) (q : Nat → Nat) (cI cJ : ClassId) (M : MS)  : kI l yX5_clearText wsX5_clearText ({ frames := 1, cells := 0, slots := 0, locals := 22 } : Room) D [(cI, .int), (cJ, .long)] [.ref (q 0)] (moW q cI cJ M) (A_X5_clearText_r M) (moW q cI cJ (A_X5_clearText_s0 M)) := by
  refine kBody.met (cc := cX5_clearText) (maxL := 2) (ret := (some .int)) (by decide) rfl (Nat.le_of_ble_eq_true rfl) ?_
  intro p9 e9 s9 m9 below meth c9 A9 ls hx hb hr hml hts hown hlk hK hP hD hA hl
  have hown : s9.vm.findClass RX5 = some m9.cls := hown
  have inX5 : ∀ w ∈ wsX50, w ∈ wsX5_clearText := fun w h => List.mem_cons_of_mem _ (List.mem_append_right _ (h))
  have hS : va_S A9 s9.heap s9.heap [] := va_S.rf
  have hl : lv_has ls 2 [(0, .ref (q 0))] := hl
  refine lv_aload_n hx hb dX5_clearText_0 rfl (lv_at hl 0 rfl) ?_
  refine lv_iconst (v := 0) hx hb dX5_clearText_1 (by decide) ?_
  refine lv_iconst (v := 0) hx hb dX5_clearText_2 (by decide) ?_
  refine k_calli (a := []) (z := []) (wc := moW q cI cJ M) (wc' := moW q cI cJ (o_setI M 2 0)) (w' := moW q cI cJ (o_setI M 2 0)) (va_runV (As := [.int 0, .int 0]) (rest := []) ⟨hx, hb, hml, hown, hts⟩ (c_X5_goes00 l D q cI cJ M _) (cwV 2 hts gX5_clearText_X5_goes rfl rfl rfl (by decide +kernel) ⟨Nat.le_of_ble_eq_true rfl, Nat.le_of_ble_eq_true rfl⟩) ⟨kB_blind, va_recv hK hP (ci := 5) (q0 := 0) rfl rfl, k_pre (a := []) (z := []) (k_w0 _) hK hP hD⟩ rfl rfl hl.1 rfl (lv_room (Nat.le_of_ble_eq_true rfl)) dX5_clearText_3 ⟨Nat.zero_le _, Nat.zero_le _⟩) (k_w0 _) (k_w0 _) (moW_ad _ _ _ _ _) hP hD hS hA (fun H locs hP hD hS => ?_)
  refine lv_pop hx hb dX5_clearText_6 rfl ?_
  refine lv_aload_n hx hb dX5_clearText_7 rfl (lv_at hl 0 rfl) ?_
  refine va_get (D := D) (ci := 5) (v := .int (M.1 1)) (C := RX5) (T := TX5) (N := 14) hx hb hts inX5 hown hK hP 0 rfl rfl 5 (by decide) (hts (.fieldLink RX5 167 "PumpOathsModel" "letters" "I") (List.mem_of_getElem? (i := 1) rfl)) (fun _ h9 => h9) rfl dX5_clearText_8 ?_
  refine lv_istore_n (lv' := [(1, .int (M.1 1)), (0, .ref (q 0))]) hx hb dX5_clearText_11 rfl hl (by decide) rfl (fun ls hl => ?_)
  refine lv_aload_n hx hb dX5_clearText_12 rfl (lv_at hl 1 rfl) ?_
  refine lv_iconst (v := 0) hx hb dX5_clearText_13 (by decide) ?_
  refine va_put (D := D) (ci := 5) (v := .int 0) (ty := .int) (C := RX5) (T := TX5) (N := 14) hx hb hts inX5 tyX5 tyX5_ok nmX5 hown hK hP hD hS 0 rfl rfl 5 (by decide) (hts (.fieldLink RX5 167 "PumpOathsModel" "letters" "I") (List.mem_of_getElem? (i := 1) rfl)) (fun _ h9 => h9) rfl (by decide +kernel) rfl rfl (Nat.le_of_ble_eq_true rfl) dX5_clearText_14 (fun H locs hP hD hS => ?_)
  have hP : va_P D vwCl (moW q cI cJ (o_setI (o_setI M 2 0) 1 0)) H := hP
  have hD : va_D A9 (moW q cI cJ (o_setI (o_setI M 2 0) 1 0)) := hD
  refine lv_iload_n hx hb dX5_clearText_17 rfl (lv_at hl 0 rfl) ?_
  exact k_iret hx hb hr hlk hP hS dX5_clearText_18 rfl (by rw [A_X5_clearText_r]) (k_P (congrArg (fun T9 => moW q cI cJ T9) (show (o_setI (o_setI M 2 0) 1 0) = (A_X5_clearText_s0 M) from by rw [A_X5_clearText_s0])))

def o_look (M : MS) : Int32 := if M.1 1 ≤ M.1 3 then -1 else M.2.2 0 (M.1 3).toNatClampNeg
theorem o_atIn {M : MS} {le av : Nat} (hle : M.1 1 = nI le) (hle1 : le ≤ 100) (hav : M.1 3 = nI av) (hav1 : av < 1000) (h : ¬ M.1 1 ≤ M.1 3) : vp_in (M.1 3) 100 := by
  rw [hle, hav] at h
  rw [hav]
  rcases Nat.lt_or_ge av le with q9 | q9
  · exact vp_in_nI (by omega) (by decide)
  · exact absurd (nI_le q9 (by omega)) h

set_option maxHeartbeats 1000000 in
set_option maxRecDepth 100000 in
theorem c_X5_look (l : Launch) (D : va_G) (q : Nat → Nat) (cI cJ : ClassId) (M : MS) (le : Nat) (hle : M.1 1 = nI le) (hle1 : le ≤ 100) (av : Nat) (hav : M.1 3 = nI av) (hav1 : av < 1000) : kI l yX5_look wsX5_look ({ frames := 0, cells := 0, slots := 0, locals := 0 } : Room) D [(cI, .int), (cJ, .long)] [.ref (q 0)] (moW q cI cJ M) (o_look M) (moW q cI cJ M) := by
  refine kBody.met (cc := cX5_look) (maxL := 1) (ret := (some .int)) (by decide) rfl (Nat.le_of_ble_eq_true rfl) ?_
  intro p9 e9 s9 m9 below meth c9 A9 ls hx hb hr hml hts hown hlk hK hP hD hA hl
  have hown : s9.vm.findClass RX5 = some m9.cls := hown
  have inX5 : ∀ w ∈ wsX50, w ∈ wsX5_look := fun w h => List.mem_cons_of_mem _ (List.mem_append_right _ (h))
  have hS : va_S A9 s9.heap s9.heap [] := va_S.rf
  have hl : lv_has ls 1 [(0, .ref (q 0))] := hl
  refine lv_aload_n hx hb dX5_look_0 rfl (lv_at hl 0 rfl) ?_
  refine va_get (D := D) (ci := 5) (v := .int (M.1 3)) (C := RX5) (T := TX5) (N := 14) hx hb hts inX5 hown hK hP 0 rfl rfl 7 (by decide) (hts (.fieldLink RX5 170 "PumpOathsModel" "at" "I") (List.mem_of_getElem? (i := 1) rfl)) (fun _ h9 => h9) rfl dX5_look_1 ?_
  refine lv_aload_n hx hb dX5_look_4 rfl (lv_at hl 0 rfl) ?_
  refine va_get (D := D) (ci := 5) (v := .int (M.1 1)) (C := RX5) (T := TX5) (N := 14) hx hb hts inX5 hown hK hP 0 rfl rfl 5 (by decide) (hts (.fieldLink RX5 167 "PumpOathsModel" "letters" "I") (List.mem_of_getElem? (i := 2) rfl)) (fun _ h9 => h9) rfl dX5_look_5 ?_
  refine lv_icmp_ge (tgt := 23) hx hb dX5_look_8 (by decide) (fun c_8_0 => ?_) (fun c_8_0 => ?_)
  · have c_8_0 : (M.1 1) ≤ (M.1 3) := c_8_0
    refine lv_iconst (v := (-1)) hx hb dX5_look_23 (by decide) ?_
    exact k_iret hx hb hr hlk hP hS dX5_look_24 rfl (by rw [o_look]; first | rw [if_pos c_8_0] | rw [if_neg c_8_0]) (fun h => h)
  · have c_8_0 : ¬ (M.1 1) ≤ (M.1 3) := c_8_0
    have hin : vp_in (M.1 3) 100 := o_atIn hle hle1 hav hav1 c_8_0
    refine lv_aload_n hx hb dX5_look_11 rfl (lv_at hl 0 rfl) ?_
    refine va_get (D := D) (ci := 5) (v := .ref (q 4)) (C := RX5) (T := TX5) (N := 14) hx hb hts inX5 hown hK hP 0 rfl rfl 4 (by decide) (hts (.fieldLink RX5 19 "PumpOathsModel" "text" "[I") (List.mem_of_getElem? (i := 3) rfl)) (fun _ h9 => h9) rfl dX5_look_12 ?_
    refine lv_aload_n hx hb dX5_look_15 rfl (lv_at hl 0 rfl) ?_
    refine va_get (D := D) (ci := 5) (v := .int (M.1 3)) (C := RX5) (T := TX5) (N := 14) hx hb hts inX5 hown hK hP 0 rfl rfl 7 (by decide) (hts (.fieldLink RX5 170 "PumpOathsModel" "at" "I") (List.mem_of_getElem? (i := 1) rfl)) (fun _ h9 => h9) rfl dX5_look_16 ?_
    refine va_iald (f := M.2.2 0) hx hb hK hP 4 0 rfl rfl (hin) dX5_look_19 ?_
    refine lv_goto (tgt := 24) hx hb dX5_look_20 (by decide) ?_
    exact k_iret hx hb hr hlk hP hS dX5_look_24 rfl (by rw [o_look]; first | rw [if_pos c_8_0] | rw [if_neg c_8_0]) (fun h => h)
