def A_X5_levelIn_r (M : MS) (n t : Nat) (x : Int32) : Int32 := (if (m_in x.toInt64 0 1440) = true then (((o_setV (o_tries (o_setI M 2 0)) 1 (itr (m_goB n t) x.toNatClampNeg ((o_tries (o_setI M 2 0)).2.1 1))).2.1 1) 1).toInt32 else 0)
def A_X5_levelIn_s0 (M : MS) (n t : Nat) (x : Int32) : MS := (if (m_in x.toInt64 0 1440) = true then (o_setV (o_tries (o_setI M 2 0)) 1 (itr (m_goB n t) x.toNatClampNeg ((o_tries (o_setI M 2 0)).2.1 1))) else o_setI M 2 1)
set_option maxHeartbeats 1000000 in
set_option maxRecDepth 100000 in
theorem c_X5_levelIn (l : Launch) (D : va_G) (q : Nat → Nat) (cI cJ : ClassId) (M : MS) (x : Int32) (n t : Nat) (hok : m_ok (M.2.1 0) n t) (hn6 : n ≤ 6) (htb : t < 2 ^ 38) : kI l yX5_levelIn wsX5_levelIn ({ frames := 5, cells := 0, slots := 0, locals := 112 } : Room) D [(cI, .int), (cJ, .long)] [.ref (q 0), .int x] (moW q cI cJ M) (A_X5_levelIn_r M n t x) (moW q cI cJ (A_X5_levelIn_s0 M n t x)) := by
  refine kBody.met (cc := cX5_levelIn) (maxL := 2) (ret := (some .int)) (by decide) rfl (Nat.le_of_ble_eq_true rfl) ?_
  intro p9 e9 s9 m9 below meth c9 A9 ls hx hb hr hml hts hown hlk hK hP hD hA hl
  have hown : s9.vm.findClass RX5 = some m9.cls := hown
  have inX5 : ∀ w ∈ wsX50, w ∈ wsX5_levelIn := fun w h => List.mem_cons_of_mem _ (List.mem_append_right _ (h))
  have hS : va_S A9 s9.heap s9.heap [] := va_S.rf
  have hl : lv_has ls 2 [(0, .ref (q 0)), (1, .int x)] := hl
  refine lv_aload_n hx hb dX5_levelIn_0 rfl (lv_at hl 0 rfl) ?_
  refine lv_iload_n hx hb dX5_levelIn_1 rfl (lv_at hl 1 rfl) ?_
  refine lv_i2l hx hb dX5_levelIn_2 rfl ?_
  refine lv_lconst (v := 0) hx hb dX5_levelIn_3 (by decide) ?_
  refine lv_ldc2 (v := 1440) hx hb hown (hts (.constantLong RX5 107 (1440)) (List.mem_of_getElem? (i := 1) rfl)) dX5_levelIn_4 ?_
  refine k_calli (a := []) (z := moW q cI cJ M) (wc := []) (wc' := []) (w' := moW q cI cJ M) (va_runS (As := [.long x.toInt64, .long 0, .long 1440]) (rest := [.ref (q 0)]) ⟨hx, hb, hml, hown, hts⟩ (c_X5_in l D cI cJ x.toInt64 0 1440 _) (cwS 3 hts gX5_levelIn_X5_in rfl rfl rfl (by decide +kernel) ⟨Nat.le_of_ble_eq_true rfl, Nat.le_of_ble_eq_true rfl⟩) ⟨kB_blind, k_pre (a := []) (z := moW q cI cJ M) rfl hK hP hD⟩ rfl rfl hl.1 rfl (lv_room (Nat.le_of_ble_eq_true rfl)) dX5_levelIn_7 ⟨Nat.zero_le _, Nat.zero_le _⟩) rfl rfl rfl hP hD hS hA (fun H locs hP hD hS => ?_)
  refine lv_if_ne (tgt := 17) hx hb dX5_levelIn_10 (by decide) (fun c_10_0 => ?_) (fun c_10_0 => ?_)
  · have c_10_0 : (m_in x.toInt64 0 1440) = true := bi_n.mp c_10_0
    refine lv_iconst (v := 0) hx hb dX5_levelIn_17 (by decide) ?_
    refine lv_iconst (v := 0) hx hb dX5_levelIn_18 (by decide) ?_
    refine k_calli (a := []) (z := []) (wc := moW q cI cJ M) (wc' := moW q cI cJ (o_setI M 2 0)) (w' := moW q cI cJ (o_setI M 2 0)) (va_runV (As := [.int 0, .int 0]) (rest := []) ⟨hx, hb, hml, hown, hts⟩ (c_X5_goes00 l D q cI cJ M _) (cwV 2 hts gX5_levelIn_X5_goes rfl rfl rfl (by decide +kernel) ⟨Nat.le_of_ble_eq_true rfl, Nat.le_of_ble_eq_true rfl⟩) ⟨kB_blind, va_recv hK hP (ci := 5) (q0 := 0) rfl rfl, k_pre (a := []) (z := []) (k_w0 _) hK hP hD⟩ rfl rfl hl.1 rfl (lv_room (Nat.le_of_ble_eq_true rfl)) dX5_levelIn_19 ⟨Nat.zero_le _, Nat.zero_le _⟩) (k_w0 _) (k_w0 _) (moW_ad _ _ _ _ _) hP hD hS hA (fun H locs hP hD hS => ?_)
    refine lv_if_ne (tgt := 27) hx hb dX5_levelIn_22 (by decide) (fun _ => ?_) (fun h => absurd h (by decide))
    refine lv_aload_n hx hb dX5_levelIn_27 rfl (lv_at hl 0 rfl) ?_
    refine k_callv (a := []) (z := []) (wc := moW q cI cJ (o_setI M 2 0)) (wc' := moW q cI cJ (o_tries (o_setI M 2 0))) (w' := moW q cI cJ (o_tries (o_setI M 2 0))) (va_runV (As := []) (rest := []) ⟨hx, hb, hml, hown, hts⟩ (c_X5_tries l D q cI cJ (o_setI M 2 0)  _) (cwV 0 hts gX5_levelIn_X5_tries rfl rfl rfl (by decide +kernel) ⟨Nat.le_of_ble_eq_true rfl, Nat.le_of_ble_eq_true rfl⟩) ⟨kB_blind, va_recv hK hP (ci := 5) (q0 := 0) rfl rfl, k_pre (a := []) (z := []) (k_w0 _) hK hP hD⟩ rfl rfl hl.1 rfl (lv_room (Nat.le_of_ble_eq_true rfl)) dX5_levelIn_28 ⟨Nat.zero_le _, Nat.zero_le _⟩) (k_w0 _) (k_w0 _) (moW_ad _ _ _ _ _) hP hD hS hA (fun H locs hP hD hS => ?_)
    obtain ⟨T_3, hT_3⟩ : ∃ T9, T9 = o_tries (o_setI M 2 0) := ⟨_, rfl⟩
    rw [← hT_3] at hP hD
    refine lv_aload_n hx hb dX5_levelIn_31 rfl (lv_at hl 0 rfl) ?_
    refine lv_iload_n hx hb dX5_levelIn_32 rfl (lv_at hl 1 rfl) ?_
    refine k_callv (a := []) (z := []) (wc := moW q cI cJ T_3) (wc' := moW q cI cJ (o_setV T_3 1 (itr (m_goB n t) x.toNatClampNeg (T_3.2.1 1)))) (w' := moW q cI cJ (o_setV T_3 1 (itr (m_goB n t) x.toNatClampNeg (T_3.2.1 1)))) (va_runV (As := [.int x]) (rest := []) ⟨hx, hb, hml, hown, hts⟩ (c_X5_goesOn l D q cI cJ T_3 x n t (by rw [hT_3]; exact hok) hn6 htb _) (cwV 1 hts gX5_levelIn_X5_goesOn rfl rfl rfl (by decide +kernel) ⟨Nat.le_of_ble_eq_true rfl, Nat.le_of_ble_eq_true rfl⟩) ⟨kB_blind, va_recv hK hP (ci := 5) (q0 := 0) rfl rfl, k_pre (a := []) (z := []) (k_w0 _) hK hP hD⟩ rfl rfl hl.1 rfl (lv_room (Nat.le_of_ble_eq_true rfl)) dX5_levelIn_33 ⟨Nat.zero_le _, Nat.zero_le _⟩) (k_w0 _) (k_w0 _) (moW_ad _ _ _ _ _) hP hD hS hA (fun H locs hP hD hS => ?_)
    obtain ⟨T_4, hT_4⟩ : ∃ T9, T9 = o_setV T_3 1 (itr (m_goB n t) x.toNatClampNeg (T_3.2.1 1)) := ⟨_, rfl⟩
    rw [← hT_4] at hP hD
    refine lv_aload_n hx hb dX5_levelIn_36 rfl (lv_at hl 0 rfl) ?_
    refine va_get (D := D) (ci := 5) (v := .ref (q 2)) (C := RX5) (T := TX5) (N := 14) hx hb hts inX5 hown hK hP 0 rfl rfl 1 (by decide) (hts (.fieldLink RX5 13 "PumpOathsModel" "tried" "[J") (List.mem_of_getElem? (i := 2) rfl)) (fun _ h9 => h9) rfl dX5_levelIn_37 ?_
    refine lv_iconst (v := 1) hx hb dX5_levelIn_40 (by decide) ?_
    refine va_lald (f := T_4.2.1 1) hx hb hK hP 2 1 rfl rfl (k_in (k := 1) rfl (by decide) (by decide)) dX5_levelIn_41 ?_
    rw [show (1 : Int32).toNatClampNeg = 1 from rfl]
    refine lv_l2i hx hb dX5_levelIn_42 rfl ?_
    exact k_iret hx hb hr hlk hP hS dX5_levelIn_43 rfl (by rw [hT_4, hT_3, A_X5_levelIn_r, if_pos c_10_0]) (k_P (congrArg (fun T9 => moW q cI cJ T9) (show T_4 = (A_X5_levelIn_s0 M n t x) from by rw [hT_4, hT_3, A_X5_levelIn_s0, if_pos c_10_0])))
  · have c_10_0 : (m_in x.toInt64 0 1440) = false := bi_0.mp c_10_0
    refine lv_iconst (v := 1) hx hb dX5_levelIn_13 (by decide) ?_
    refine lv_goto (tgt := 18) hx hb dX5_levelIn_14 (by decide) ?_
    refine lv_iconst (v := 0) hx hb dX5_levelIn_18 (by decide) ?_
    refine k_calli (a := []) (z := []) (wc := moW q cI cJ M) (wc' := moW q cI cJ (o_setI M 2 1)) (w' := moW q cI cJ (o_setI M 2 1)) (va_runV (As := [.int 1, .int 0]) (rest := []) ⟨hx, hb, hml, hown, hts⟩ (c_X5_goes1 l D q cI cJ M 0 _) (cwV 2 hts gX5_levelIn_X5_goes rfl rfl rfl (by decide +kernel) ⟨Nat.le_of_ble_eq_true rfl, Nat.le_of_ble_eq_true rfl⟩) ⟨kB_blind, va_recv hK hP (ci := 5) (q0 := 0) rfl rfl, k_pre (a := []) (z := []) (k_w0 _) hK hP hD⟩ rfl rfl hl.1 rfl (lv_room (Nat.le_of_ble_eq_true rfl)) dX5_levelIn_19 ⟨Nat.zero_le _, Nat.zero_le _⟩) (k_w0 _) (k_w0 _) (moW_ad _ _ _ _ _) hP hD hS hA (fun H locs hP hD hS => ?_)
    refine lv_if_ne (tgt := 27) hx hb dX5_levelIn_22 (by decide) (fun h => absurd h (by decide)) (fun _ => ?_)
    refine lv_iconst (v := 0) hx hb dX5_levelIn_25 (by decide) ?_
    exact k_iret hx hb hr hlk hP hS dX5_levelIn_26 rfl (by rw [A_X5_levelIn_r, if_neg (bi_nt c_10_0)]) (k_P (congrArg (fun T9 => moW q cI cJ T9) (show (o_setI M 2 1) = (A_X5_levelIn_s0 M n t x) from by rw [A_X5_levelIn_s0, if_neg (bi_nt c_10_0)])))

def A_X5_startsIn_r (M : MS) (n t : Nat) (x y : Int32) : Int32 := (if (m_isP (M.2.1 0) x) = true then (if (m_in y.toInt64 0 1440) = true then ((((o_setV (o_tries (o_setI M 2 0)) 1 (itr (m_goB n t) y.toNatClampNeg ((o_tries (o_setI M 2 0)).2.1 1))).2.1 1) (48 + 8 * x.toNatClampNeg + 4)) - (((o_setV (o_tries (o_setI M 2 0)) 1 (itr (m_goB n t) y.toNatClampNeg ((o_tries (o_setI M 2 0)).2.1 1))).2.1 0) (48 + 8 * x.toNatClampNeg + 4))).toInt32 else 0) else (if (m_in y.toInt64 0 1440) = true then 0 else 0))
def A_X5_startsIn_s0 (M : MS) (n t : Nat) (x y : Int32) : MS := (if (m_isP (M.2.1 0) x) = true then (if (m_in y.toInt64 0 1440) = true then (o_setV (o_tries (o_setI M 2 0)) 1 (itr (m_goB n t) y.toNatClampNeg ((o_tries (o_setI M 2 0)).2.1 1))) else o_setI M 2 2) else (if (m_in y.toInt64 0 1440) = true then o_setI M 2 1 else o_setI M 2 1))
set_option maxHeartbeats 1000000 in
set_option maxRecDepth 100000 in
theorem c_X5_startsIn (l : Launch) (D : va_G) (q : Nat → Nat) (cI cJ : ClassId) (M : MS) (x y : Int32) (n : Nat) (hn : M.2.1 0 7 = lN n) (hn6 : n ≤ 6) (t : Nat) (hok : m_ok (M.2.1 0) n t) (htb : t < 2 ^ 38) : kI l yX5_startsIn wsX5_startsIn ({ frames := 5, cells := 0, slots := 0, locals := 112 } : Room) D [(cI, .int), (cJ, .long)] [.ref (q 0), .int x, .int y] (moW q cI cJ M) (A_X5_startsIn_r M n t x y) (moW q cI cJ (A_X5_startsIn_s0 M n t x y)) := by
  refine kBody.met (cc := cX5_startsIn) (maxL := 3) (ret := (some .int)) (by decide) rfl (Nat.le_of_ble_eq_true rfl) ?_
  intro p9 e9 s9 m9 below meth c9 A9 ls hx hb hr hml hts hown hlk hK hP hD hA hl
  have hown : s9.vm.findClass RX5 = some m9.cls := hown
  have inX5 : ∀ w ∈ wsX50, w ∈ wsX5_startsIn := fun w h => List.mem_cons_of_mem _ (List.mem_append_right _ (h))
  have hS : va_S A9 s9.heap s9.heap [] := va_S.rf
  have hl : lv_has ls 3 [(0, .ref (q 0)), (1, .int x), (2, .int y)] := hl
  refine lv_aload_n hx hb dX5_startsIn_0 rfl (lv_at hl 0 rfl) ?_
  refine lv_aload_n hx hb dX5_startsIn_1 rfl (lv_at hl 0 rfl) ?_
  refine lv_iload_n hx hb dX5_startsIn_2 rfl (lv_at hl 1 rfl) ?_
  refine k_calli (a := []) (z := []) (wc := moW q cI cJ M) (wc' := moW q cI cJ M) (w' := moW q cI cJ M) (va_runV (As := [.int x]) (rest := [.ref (q 0)]) ⟨hx, hb, hml, hown, hts⟩ (c_X5_isPump l D q cI cJ M x _) (cwV 1 hts gX5_startsIn_X5_isPump rfl rfl rfl (by decide +kernel) ⟨Nat.le_of_ble_eq_true rfl, Nat.le_of_ble_eq_true rfl⟩) ⟨kB_blind, va_recv hK hP (ci := 5) (q0 := 0) rfl rfl, k_pre (a := []) (z := []) (k_w0 _) hK hP hD⟩ rfl rfl hl.1 rfl (lv_room (Nat.le_of_ble_eq_true rfl)) dX5_startsIn_3 ⟨Nat.zero_le _, Nat.zero_le _⟩) (k_w0 _) (k_w0 _) (moW_ad _ _ _ _ _) hP hD hS hA (fun H locs hP hD hS => ?_)
  refine lv_if_ne (tgt := 13) hx hb dX5_startsIn_6 (by decide) (fun c_6_0 => ?_) (fun c_6_0 => ?_)
  · have c_6_0 : (m_isP (M.2.1 0) x) = true := bi_n.mp c_6_0
    obtain ⟨hp1, hp9⟩ := m_isPn c_6_0 hn hn6
    refine lv_iconst (v := 0) hx hb dX5_startsIn_13 (by decide) ?_
    refine lv_iload_n hx hb dX5_startsIn_14 rfl (lv_at hl 2 rfl) ?_
    refine lv_i2l hx hb dX5_startsIn_15 rfl ?_
    refine lv_lconst (v := 0) hx hb dX5_startsIn_16 (by decide) ?_
    refine lv_ldc2 (v := 1440) hx hb hown (hts (.constantLong RX5 107 (1440)) (List.mem_of_getElem? (i := 1) rfl)) dX5_startsIn_17 ?_
    refine k_calli (a := []) (z := moW q cI cJ M) (wc := []) (wc' := []) (w' := moW q cI cJ M) (va_runS (As := [.long y.toInt64, .long 0, .long 1440]) (rest := [.int 0, .ref (q 0)]) ⟨hx, hb, hml, hown, hts⟩ (c_X5_in l D cI cJ y.toInt64 0 1440 _) (cwS 3 hts gX5_startsIn_X5_in rfl rfl rfl (by decide +kernel) ⟨Nat.le_of_ble_eq_true rfl, Nat.le_of_ble_eq_true rfl⟩) ⟨kB_blind, k_pre (a := []) (z := moW q cI cJ M) rfl hK hP hD⟩ rfl rfl hl.1 rfl (lv_room (Nat.le_of_ble_eq_true rfl)) dX5_startsIn_20 ⟨Nat.zero_le _, Nat.zero_le _⟩) rfl rfl rfl hP hD hS hA (fun H locs hP hD hS => ?_)
    refine lv_if_ne (tgt := 30) hx hb dX5_startsIn_23 (by decide) (fun c_23_1 => ?_) (fun c_23_1 => ?_)
    · have c_23_1 : (m_in y.toInt64 0 1440) = true := bi_n.mp c_23_1
      refine lv_iconst (v := 0) hx hb dX5_startsIn_30 (by decide) ?_
      refine k_calli (a := []) (z := []) (wc := moW q cI cJ M) (wc' := moW q cI cJ (o_setI M 2 0)) (w' := moW q cI cJ (o_setI M 2 0)) (va_runV (As := [.int 0, .int 0]) (rest := []) ⟨hx, hb, hml, hown, hts⟩ (c_X5_goes00 l D q cI cJ M _) (cwV 2 hts gX5_startsIn_X5_goes rfl rfl rfl (by decide +kernel) ⟨Nat.le_of_ble_eq_true rfl, Nat.le_of_ble_eq_true rfl⟩) ⟨kB_blind, va_recv hK hP (ci := 5) (q0 := 0) rfl rfl, k_pre (a := []) (z := []) (k_w0 _) hK hP hD⟩ rfl rfl hl.1 rfl (lv_room (Nat.le_of_ble_eq_true rfl)) dX5_startsIn_31 ⟨Nat.zero_le _, Nat.zero_le _⟩) (k_w0 _) (k_w0 _) (moW_ad _ _ _ _ _) hP hD hS hA (fun H locs hP hD hS => ?_)
      refine lv_if_ne (tgt := 39) hx hb dX5_startsIn_34 (by decide) (fun _ => ?_) (fun h => absurd h (by decide))
      refine lv_aload_n hx hb dX5_startsIn_39 rfl (lv_at hl 0 rfl) ?_
      refine k_callv (a := []) (z := []) (wc := moW q cI cJ (o_setI M 2 0)) (wc' := moW q cI cJ (o_tries (o_setI M 2 0))) (w' := moW q cI cJ (o_tries (o_setI M 2 0))) (va_runV (As := []) (rest := []) ⟨hx, hb, hml, hown, hts⟩ (c_X5_tries l D q cI cJ (o_setI M 2 0)  _) (cwV 0 hts gX5_startsIn_X5_tries rfl rfl rfl (by decide +kernel) ⟨Nat.le_of_ble_eq_true rfl, Nat.le_of_ble_eq_true rfl⟩) ⟨kB_blind, va_recv hK hP (ci := 5) (q0 := 0) rfl rfl, k_pre (a := []) (z := []) (k_w0 _) hK hP hD⟩ rfl rfl hl.1 rfl (lv_room (Nat.le_of_ble_eq_true rfl)) dX5_startsIn_40 ⟨Nat.zero_le _, Nat.zero_le _⟩) (k_w0 _) (k_w0 _) (moW_ad _ _ _ _ _) hP hD hS hA (fun H locs hP hD hS => ?_)
      obtain ⟨T_4, hT_4⟩ : ∃ T9, T9 = o_tries (o_setI M 2 0) := ⟨_, rfl⟩
      rw [← hT_4] at hP hD
      refine lv_aload_n hx hb dX5_startsIn_43 rfl (lv_at hl 0 rfl) ?_
      refine lv_iload_n hx hb dX5_startsIn_44 rfl (lv_at hl 2 rfl) ?_
      refine k_callv (a := []) (z := []) (wc := moW q cI cJ T_4) (wc' := moW q cI cJ (o_setV T_4 1 (itr (m_goB n t) y.toNatClampNeg (T_4.2.1 1)))) (w' := moW q cI cJ (o_setV T_4 1 (itr (m_goB n t) y.toNatClampNeg (T_4.2.1 1)))) (va_runV (As := [.int y]) (rest := []) ⟨hx, hb, hml, hown, hts⟩ (c_X5_goesOn l D q cI cJ T_4 y n t (by rw [hT_4]; exact hok) hn6 htb _) (cwV 1 hts gX5_startsIn_X5_goesOn rfl rfl rfl (by decide +kernel) ⟨Nat.le_of_ble_eq_true rfl, Nat.le_of_ble_eq_true rfl⟩) ⟨kB_blind, va_recv hK hP (ci := 5) (q0 := 0) rfl rfl, k_pre (a := []) (z := []) (k_w0 _) hK hP hD⟩ rfl rfl hl.1 rfl (lv_room (Nat.le_of_ble_eq_true rfl)) dX5_startsIn_45 ⟨Nat.zero_le _, Nat.zero_le _⟩) (k_w0 _) (k_w0 _) (moW_ad _ _ _ _ _) hP hD hS hA (fun H locs hP hD hS => ?_)
      obtain ⟨T_5, hT_5⟩ : ∃ T9, T9 = o_setV T_4 1 (itr (m_goB n t) y.toNatClampNeg (T_4.2.1 1)) := ⟨_, rfl⟩
      rw [← hT_5] at hP hD
      refine lv_aload_n hx hb dX5_startsIn_48 rfl (lv_at hl 0 rfl) ?_
      refine va_get (D := D) (ci := 5) (v := .ref (q 2)) (C := RX5) (T := TX5) (N := 14) hx hb hts inX5 hown hK hP 0 rfl rfl 1 (by decide) (hts (.fieldLink RX5 13 "PumpOathsModel" "tried" "[J") (List.mem_of_getElem? (i := 2) rfl)) (fun _ h9 => h9) rfl dX5_startsIn_49 ?_
      refine lv_iload_n hx hb dX5_startsIn_52 rfl (lv_at hl 1 rfl) ?_
      refine lv_iconst (v := 4) hx hb dX5_startsIn_53 (by decide) ?_
      refine k_calli (a := []) (z := moW q cI cJ T_5) (wc := []) (wc' := []) (w' := moW q cI cJ T_5) (va_runS (As := [.int x, .int 4]) (rest := [.ref (q 2)]) ⟨hx, hb, hml, hown, hts⟩ (c_X5_p l D cI cJ x 4 _) (cwS 2 hts gX5_startsIn_X5_p rfl rfl rfl (by decide +kernel) ⟨Nat.le_of_ble_eq_true rfl, Nat.le_of_ble_eq_true rfl⟩) ⟨kB_blind, k_pre (a := []) (z := moW q cI cJ T_5) rfl hK hP hD⟩ rfl rfl hl.1 rfl (lv_room (Nat.le_of_ble_eq_true rfl)) dX5_startsIn_54 ⟨Nat.zero_le _, Nat.zero_le _⟩) rfl rfl rfl hP hD hS hA (fun H locs hP hD hS => ?_)
      rw [show 48 + 8 * x + 4 = nI (48 + 8 * x.toNatClampNeg + 4) from (by rw [← k_p, hp9]; rfl)]
      refine va_lald (f := T_5.2.1 1) hx hb hK hP 2 1 rfl rfl (k_in (k := 48 + 8 * x.toNatClampNeg + 4) rfl (by omega) (by decide)) dX5_startsIn_57 ?_
      rw [show (nI (48 + 8 * x.toNatClampNeg + 4) : Int32).toNatClampNeg = 48 + 8 * x.toNatClampNeg + 4 from nI_clamp (by omega)]
      refine lv_aload_n hx hb dX5_startsIn_58 rfl (lv_at hl 0 rfl) ?_
      refine va_get (D := D) (ci := 5) (v := .ref (q 1)) (C := RX5) (T := TX5) (N := 14) hx hb hts inX5 hown hK hP 0 rfl rfl 0 (by decide) (hts (.fieldLink RX5 7 "PumpOathsModel" "now" "[J") (List.mem_of_getElem? (i := 3) rfl)) (fun _ h9 => h9) rfl dX5_startsIn_59 ?_
      refine lv_iload_n hx hb dX5_startsIn_62 rfl (lv_at hl 1 rfl) ?_
      refine lv_iconst (v := 4) hx hb dX5_startsIn_63 (by decide) ?_
      refine k_calli (a := []) (z := moW q cI cJ T_5) (wc := []) (wc' := []) (w' := moW q cI cJ T_5) (va_runS (As := [.int x, .int 4]) (rest := [.ref (q 1), .long ((T_5.2.1 1) (48 + 8 * x.toNatClampNeg + 4))]) ⟨hx, hb, hml, hown, hts⟩ (c_X5_p l D cI cJ x 4 _) (cwS 2 hts gX5_startsIn_X5_p rfl rfl rfl (by decide +kernel) ⟨Nat.le_of_ble_eq_true rfl, Nat.le_of_ble_eq_true rfl⟩) ⟨kB_blind, k_pre (a := []) (z := moW q cI cJ T_5) rfl hK hP hD⟩ rfl rfl hl.1 rfl (lv_room (Nat.le_of_ble_eq_true rfl)) dX5_startsIn_64 ⟨Nat.zero_le _, Nat.zero_le _⟩) rfl rfl rfl hP hD hS hA (fun H locs hP hD hS => ?_)
      rw [show 48 + 8 * x + 4 = nI (48 + 8 * x.toNatClampNeg + 4) from (by rw [← k_p, hp9]; rfl)]
      refine va_lald (f := T_5.2.1 0) hx hb hK hP 1 1 rfl rfl (k_in (k := 48 + 8 * x.toNatClampNeg + 4) rfl (by omega) (by decide)) dX5_startsIn_67 ?_
      rw [show (nI (48 + 8 * x.toNatClampNeg + 4) : Int32).toNatClampNeg = 48 + 8 * x.toNatClampNeg + 4 from nI_clamp (by omega)]
      refine lv_lsub hx hb dX5_startsIn_68 ?_
      refine lv_l2i hx hb dX5_startsIn_69 rfl ?_
      exact k_iret hx hb hr hlk hP hS dX5_startsIn_70 rfl (by rw [hT_5, hT_4, A_X5_startsIn_r, if_pos c_6_0, if_pos c_23_1]) (k_P (congrArg (fun T9 => moW q cI cJ T9) (show T_5 = (A_X5_startsIn_s0 M n t x y) from by rw [hT_5, hT_4, A_X5_startsIn_s0, if_pos c_6_0, if_pos c_23_1])))
    · have c_23_1 : (m_in y.toInt64 0 1440) = false := bi_0.mp c_23_1
      refine lv_iconst (v := 1) hx hb dX5_startsIn_26 (by decide) ?_
      refine lv_goto (tgt := 31) hx hb dX5_startsIn_27 (by decide) ?_
      refine k_calli (a := []) (z := []) (wc := moW q cI cJ M) (wc' := moW q cI cJ (o_setI M 2 2)) (w' := moW q cI cJ (o_setI M 2 2)) (va_runV (As := [.int 0, .int 1]) (rest := []) ⟨hx, hb, hml, hown, hts⟩ (c_X5_goes01 l D q cI cJ M _) (cwV 2 hts gX5_startsIn_X5_goes rfl rfl rfl (by decide +kernel) ⟨Nat.le_of_ble_eq_true rfl, Nat.le_of_ble_eq_true rfl⟩) ⟨kB_blind, va_recv hK hP (ci := 5) (q0 := 0) rfl rfl, k_pre (a := []) (z := []) (k_w0 _) hK hP hD⟩ rfl rfl hl.1 rfl (lv_room (Nat.le_of_ble_eq_true rfl)) dX5_startsIn_31 ⟨Nat.zero_le _, Nat.zero_le _⟩) (k_w0 _) (k_w0 _) (moW_ad _ _ _ _ _) hP hD hS hA (fun H locs hP hD hS => ?_)
      refine lv_if_ne (tgt := 39) hx hb dX5_startsIn_34 (by decide) (fun h => absurd h (by decide)) (fun _ => ?_)
      refine lv_iconst (v := 0) hx hb dX5_startsIn_37 (by decide) ?_
      exact k_iret hx hb hr hlk hP hS dX5_startsIn_38 rfl (by rw [A_X5_startsIn_r, if_pos c_6_0, if_neg (bi_nt c_23_1)]) (k_P (congrArg (fun T9 => moW q cI cJ T9) (show (o_setI M 2 2) = (A_X5_startsIn_s0 M n t x y) from by rw [A_X5_startsIn_s0, if_pos c_6_0, if_neg (bi_nt c_23_1)])))
  · have c_6_0 : (m_isP (M.2.1 0) x) = false := bi_0.mp c_6_0
    refine lv_iconst (v := 1) hx hb dX5_startsIn_9 (by decide) ?_
    refine lv_goto (tgt := 14) hx hb dX5_startsIn_10 (by decide) ?_
    refine lv_iload_n hx hb dX5_startsIn_14 rfl (lv_at hl 2 rfl) ?_
    refine lv_i2l hx hb dX5_startsIn_15 rfl ?_
    refine lv_lconst (v := 0) hx hb dX5_startsIn_16 (by decide) ?_
    refine lv_ldc2 (v := 1440) hx hb hown (hts (.constantLong RX5 107 (1440)) (List.mem_of_getElem? (i := 1) rfl)) dX5_startsIn_17 ?_
    refine k_calli (a := []) (z := moW q cI cJ M) (wc := []) (wc' := []) (w' := moW q cI cJ M) (va_runS (As := [.long y.toInt64, .long 0, .long 1440]) (rest := [.int 1, .ref (q 0)]) ⟨hx, hb, hml, hown, hts⟩ (c_X5_in l D cI cJ y.toInt64 0 1440 _) (cwS 3 hts gX5_startsIn_X5_in rfl rfl rfl (by decide +kernel) ⟨Nat.le_of_ble_eq_true rfl, Nat.le_of_ble_eq_true rfl⟩) ⟨kB_blind, k_pre (a := []) (z := moW q cI cJ M) rfl hK hP hD⟩ rfl rfl hl.1 rfl (lv_room (Nat.le_of_ble_eq_true rfl)) dX5_startsIn_20 ⟨Nat.zero_le _, Nat.zero_le _⟩) rfl rfl rfl hP hD hS hA (fun H locs hP hD hS => ?_)
    refine lv_if_ne (tgt := 30) hx hb dX5_startsIn_23 (by decide) (fun c_23_6 => ?_) (fun c_23_6 => ?_)
    · have c_23_6 : (m_in y.toInt64 0 1440) = true := bi_n.mp c_23_6
      refine lv_iconst (v := 0) hx hb dX5_startsIn_30 (by decide) ?_
      refine k_calli (a := []) (z := []) (wc := moW q cI cJ M) (wc' := moW q cI cJ (o_setI M 2 1)) (w' := moW q cI cJ (o_setI M 2 1)) (va_runV (As := [.int 1, .int 0]) (rest := []) ⟨hx, hb, hml, hown, hts⟩ (c_X5_goes1 l D q cI cJ M 0 _) (cwV 2 hts gX5_startsIn_X5_goes rfl rfl rfl (by decide +kernel) ⟨Nat.le_of_ble_eq_true rfl, Nat.le_of_ble_eq_true rfl⟩) ⟨kB_blind, va_recv hK hP (ci := 5) (q0 := 0) rfl rfl, k_pre (a := []) (z := []) (k_w0 _) hK hP hD⟩ rfl rfl hl.1 rfl (lv_room (Nat.le_of_ble_eq_true rfl)) dX5_startsIn_31 ⟨Nat.zero_le _, Nat.zero_le _⟩) (k_w0 _) (k_w0 _) (moW_ad _ _ _ _ _) hP hD hS hA (fun H locs hP hD hS => ?_)
      refine lv_if_ne (tgt := 39) hx hb dX5_startsIn_34 (by decide) (fun h => absurd h (by decide)) (fun _ => ?_)
      refine lv_iconst (v := 0) hx hb dX5_startsIn_37 (by decide) ?_
      exact k_iret hx hb hr hlk hP hS dX5_startsIn_38 rfl (by rw [A_X5_startsIn_r, if_neg (bi_nt c_6_0), if_pos c_23_6]) (k_P (congrArg (fun T9 => moW q cI cJ T9) (show (o_setI M 2 1) = (A_X5_startsIn_s0 M n t x y) from by rw [A_X5_startsIn_s0, if_neg (bi_nt c_6_0), if_pos c_23_6])))
    · have c_23_6 : (m_in y.toInt64 0 1440) = false := bi_0.mp c_23_6
      refine lv_iconst (v := 1) hx hb dX5_startsIn_26 (by decide) ?_
      refine lv_goto (tgt := 31) hx hb dX5_startsIn_27 (by decide) ?_
      refine k_calli (a := []) (z := []) (wc := moW q cI cJ M) (wc' := moW q cI cJ (o_setI M 2 1)) (w' := moW q cI cJ (o_setI M 2 1)) (va_runV (As := [.int 1, .int 1]) (rest := []) ⟨hx, hb, hml, hown, hts⟩ (c_X5_goes1 l D q cI cJ M 1 _) (cwV 2 hts gX5_startsIn_X5_goes rfl rfl rfl (by decide +kernel) ⟨Nat.le_of_ble_eq_true rfl, Nat.le_of_ble_eq_true rfl⟩) ⟨kB_blind, va_recv hK hP (ci := 5) (q0 := 0) rfl rfl, k_pre (a := []) (z := []) (k_w0 _) hK hP hD⟩ rfl rfl hl.1 rfl (lv_room (Nat.le_of_ble_eq_true rfl)) dX5_startsIn_31 ⟨Nat.zero_le _, Nat.zero_le _⟩) (k_w0 _) (k_w0 _) (moW_ad _ _ _ _ _) hP hD hS hA (fun H locs hP hD hS => ?_)
      refine lv_if_ne (tgt := 39) hx hb dX5_startsIn_34 (by decide) (fun h => absurd h (by decide)) (fun _ => ?_)
      refine lv_iconst (v := 0) hx hb dX5_startsIn_37 (by decide) ?_
      exact k_iret hx hb hr hlk hP hS dX5_startsIn_38 rfl (by rw [A_X5_startsIn_r, if_neg (bi_nt c_6_0), if_neg (bi_nt c_23_6)]) (k_P (congrArg (fun T9 => moW q cI cJ T9) (show (o_setI M 2 1) = (A_X5_startsIn_s0 M n t x y) from by rw [A_X5_startsIn_s0, if_neg (bi_nt c_6_0), if_neg (bi_nt c_23_6)])))

def A_X5_entry_r (M : MS) (x y : Int32) : Int32 := (if (m_in x.toInt64 0 (((M.2.1 0) 13) - 1)) = true then (if (m_in y.toInt64 0 2) = true then ((M.2.1 0) (102 + 3 * x.toNatClampNeg + y.toNatClampNeg)).toInt32 else 0) else (if (m_in y.toInt64 0 2) = true then 0 else 0))
def A_X5_entry_s0 (M : MS) (x y : Int32) : MS := (if (m_in x.toInt64 0 (((M.2.1 0) 13) - 1)) = true then (if (m_in y.toInt64 0 2) = true then o_setI M 2 0 else o_setI M 2 2) else (if (m_in y.toInt64 0 2) = true then o_setI M 2 1 else o_setI M 2 1))
set_option maxHeartbeats 1000000 in
set_option maxRecDepth 100000 in
theorem c_X5_entry (l : Launch) (D : va_G) (q : Nat → Nat) (cI cJ : ClassId) (M : MS) (x y : Int32) (lc : Nat) (hlc : M.2.1 0 13 = lN lc) (hlc12 : lc ≤ 12) : kI l yX5_entry wsX5_entry ({ frames := 1, cells := 0, slots := 0, locals := 25 } : Room) D [(cI, .int), (cJ, .long)] [.ref (q 0), .int x, .int y] (moW q cI cJ M) (A_X5_entry_r M x y) (moW q cI cJ (A_X5_entry_s0 M x y)) := by
  refine kBody.met (cc := cX5_entry) (maxL := 3) (ret := (some .int)) (by decide) rfl (Nat.le_of_ble_eq_true rfl) ?_
  intro p9 e9 s9 m9 below meth c9 A9 ls hx hb hr hml hts hown hlk hK hP hD hA hl
  have hown : s9.vm.findClass RX5 = some m9.cls := hown
  have inX5 : ∀ w ∈ wsX50, w ∈ wsX5_entry := fun w h => List.mem_cons_of_mem _ (List.mem_append_right _ (h))
  have hS : va_S A9 s9.heap s9.heap [] := va_S.rf
  have hl : lv_has ls 3 [(0, .ref (q 0)), (1, .int x), (2, .int y)] := hl
  refine lv_aload_n hx hb dX5_entry_0 rfl (lv_at hl 0 rfl) ?_
  refine lv_iload_n hx hb dX5_entry_1 rfl (lv_at hl 1 rfl) ?_
  refine lv_i2l hx hb dX5_entry_2 rfl ?_
  refine lv_lconst (v := 0) hx hb dX5_entry_3 (by decide) ?_
  refine lv_aload_n hx hb dX5_entry_4 rfl (lv_at hl 0 rfl) ?_
  refine va_get (D := D) (ci := 5) (v := .ref (q 1)) (C := RX5) (T := TX5) (N := 14) hx hb hts inX5 hown hK hP 0 rfl rfl 0 (by decide) (hts (.fieldLink RX5 7 "PumpOathsModel" "now" "[J") (List.mem_of_getElem? (i := 1) rfl)) (fun _ h9 => h9) rfl dX5_entry_5 ?_
  refine lv_bipush (v := 13) hx hb dX5_entry_8 (by decide) ?_
  refine va_lald (f := M.2.1 0) hx hb hK hP 1 1 rfl rfl (k_in (k := 13) rfl (by decide) (by decide)) dX5_entry_10 ?_
  rw [show (13 : Int32).toNatClampNeg = 13 from rfl]
  refine lv_lconst (v := 1) hx hb dX5_entry_11 (by decide) ?_
  refine lv_lsub hx hb dX5_entry_12 ?_
  refine k_calli (a := []) (z := moW q cI cJ M) (wc := []) (wc' := []) (w' := moW q cI cJ M) (va_runS (As := [.long x.toInt64, .long 0, .long (((M.2.1 0) 13) - 1)]) (rest := [.ref (q 0)]) ⟨hx, hb, hml, hown, hts⟩ (c_X5_in l D cI cJ x.toInt64 0 (((M.2.1 0) 13) - 1) _) (cwS 3 hts gX5_entry_X5_in rfl rfl rfl (by decide +kernel) ⟨Nat.le_of_ble_eq_true rfl, Nat.le_of_ble_eq_true rfl⟩) ⟨kB_blind, k_pre (a := []) (z := moW q cI cJ M) rfl hK hP hD⟩ rfl rfl hl.1 rfl (lv_room (Nat.le_of_ble_eq_true rfl)) dX5_entry_13 ⟨Nat.zero_le _, Nat.zero_le _⟩) rfl rfl rfl hP hD hS hA (fun H locs hP hD hS => ?_)
  refine lv_if_ne (tgt := 23) hx hb dX5_entry_16 (by decide) (fun c_16_0 => ?_) (fun c_16_0 => ?_)
  · have c_16_0 : (m_in x.toInt64 0 (((M.2.1 0) 13) - 1)) = true := bi_n.mp c_16_0
    obtain ⟨hx1, hx9⟩ := m_logN c_16_0 hlc hlc12
    refine lv_iconst (v := 0) hx hb dX5_entry_23 (by decide) ?_
    refine lv_iload_n hx hb dX5_entry_24 rfl (lv_at hl 2 rfl) ?_
    refine lv_i2l hx hb dX5_entry_25 rfl ?_
    refine lv_lconst (v := 0) hx hb dX5_entry_26 (by decide) ?_
    refine lv_ldc2 (v := 2) hx hb hown (hts (.constantLong RX5 89 (2)) (List.mem_of_getElem? (i := 2) rfl)) dX5_entry_27 ?_
    refine k_calli (a := []) (z := moW q cI cJ M) (wc := []) (wc' := []) (w' := moW q cI cJ M) (va_runS (As := [.long y.toInt64, .long 0, .long 2]) (rest := [.int 0, .ref (q 0)]) ⟨hx, hb, hml, hown, hts⟩ (c_X5_in l D cI cJ y.toInt64 0 2 _) (cwS 3 hts gX5_entry_X5_in rfl rfl rfl (by decide +kernel) ⟨Nat.le_of_ble_eq_true rfl, Nat.le_of_ble_eq_true rfl⟩) ⟨kB_blind, k_pre (a := []) (z := moW q cI cJ M) rfl hK hP hD⟩ rfl rfl hl.1 rfl (lv_room (Nat.le_of_ble_eq_true rfl)) dX5_entry_30 ⟨Nat.zero_le _, Nat.zero_le _⟩) rfl rfl rfl hP hD hS hA (fun H locs hP hD hS => ?_)
    refine lv_if_ne (tgt := 40) hx hb dX5_entry_33 (by decide) (fun c_33_1 => ?_) (fun c_33_1 => ?_)
    · have c_33_1 : (m_in y.toInt64 0 2) = true := bi_n.mp c_33_1
      obtain ⟨hy1, hy9⟩ := m_inN (N := 2) c_33_1 rfl (by decide)
      refine lv_iconst (v := 0) hx hb dX5_entry_40 (by decide) ?_
      refine k_calli (a := []) (z := []) (wc := moW q cI cJ M) (wc' := moW q cI cJ (o_setI M 2 0)) (w' := moW q cI cJ (o_setI M 2 0)) (va_runV (As := [.int 0, .int 0]) (rest := []) ⟨hx, hb, hml, hown, hts⟩ (c_X5_goes00 l D q cI cJ M _) (cwV 2 hts gX5_entry_X5_goes rfl rfl rfl (by decide +kernel) ⟨Nat.le_of_ble_eq_true rfl, Nat.le_of_ble_eq_true rfl⟩) ⟨kB_blind, va_recv hK hP (ci := 5) (q0 := 0) rfl rfl, k_pre (a := []) (z := []) (k_w0 _) hK hP hD⟩ rfl rfl hl.1 rfl (lv_room (Nat.le_of_ble_eq_true rfl)) dX5_entry_41 ⟨Nat.zero_le _, Nat.zero_le _⟩) (k_w0 _) (k_w0 _) (moW_ad _ _ _ _ _) hP hD hS hA (fun H locs hP hD hS => ?_)
      refine lv_if_eq (tgt := 64) hx hb dX5_entry_44 (by decide) (fun h => absurd h (by decide)) (fun _ => ?_)
      refine lv_aload_n hx hb dX5_entry_47 rfl (lv_at hl 0 rfl) ?_
      refine va_get (D := D) (ci := 5) (v := .ref (q 1)) (C := RX5) (T := TX5) (N := 14) hx hb hts inX5 hown hK hP 0 rfl rfl 0 (by decide) (hts (.fieldLink RX5 7 "PumpOathsModel" "now" "[J") (List.mem_of_getElem? (i := 1) rfl)) (fun _ h9 => h9) rfl dX5_entry_48 ?_
      refine lv_bipush (v := 102) hx hb dX5_entry_51 (by decide) ?_
      refine lv_iconst (v := 3) hx hb dX5_entry_53 (by decide) ?_
      refine lv_iload_n hx hb dX5_entry_54 rfl (lv_at hl 1 rfl) ?_
      refine lv_imul hx hb dX5_entry_55 ?_
      refine lv_iadd hx hb dX5_entry_56 ?_
      refine lv_iload_n hx hb dX5_entry_57 rfl (lv_at hl 2 rfl) ?_
      refine lv_iadd hx hb dX5_entry_58 ?_
      rw [show (102 + (3 * x)) + y = nI (102 + 3 * x.toNatClampNeg + y.toNatClampNeg) from (by rw [← nI_add, ← nI_add, ← pk_mul, hx9, hy9]; rfl)]
      refine va_lald (f := M.2.1 0) hx hb hK hP 1 1 rfl rfl (k_in (k := 102 + 3 * x.toNatClampNeg + y.toNatClampNeg) rfl (by omega) (by decide)) dX5_entry_59 ?_
      rw [show (nI (102 + 3 * x.toNatClampNeg + y.toNatClampNeg) : Int32).toNatClampNeg = 102 + 3 * x.toNatClampNeg + y.toNatClampNeg from nI_clamp (by omega)]
      refine lv_l2i hx hb dX5_entry_60 rfl ?_
      refine lv_goto (tgt := 65) hx hb dX5_entry_61 (by decide) ?_
      exact k_iret hx hb hr hlk hP hS dX5_entry_65 rfl (by rw [A_X5_entry_r, if_pos c_16_0, if_pos c_33_1]) (k_P (congrArg (fun T9 => moW q cI cJ T9) (show (o_setI M 2 0) = (A_X5_entry_s0 M x y) from by rw [A_X5_entry_s0, if_pos c_16_0, if_pos c_33_1])))
    · have c_33_1 : (m_in y.toInt64 0 2) = false := bi_0.mp c_33_1
      refine lv_iconst (v := 1) hx hb dX5_entry_36 (by decide) ?_
      refine lv_goto (tgt := 41) hx hb dX5_entry_37 (by decide) ?_
      refine k_calli (a := []) (z := []) (wc := moW q cI cJ M) (wc' := moW q cI cJ (o_setI M 2 2)) (w' := moW q cI cJ (o_setI M 2 2)) (va_runV (As := [.int 0, .int 1]) (rest := []) ⟨hx, hb, hml, hown, hts⟩ (c_X5_goes01 l D q cI cJ M _) (cwV 2 hts gX5_entry_X5_goes rfl rfl rfl (by decide +kernel) ⟨Nat.le_of_ble_eq_true rfl, Nat.le_of_ble_eq_true rfl⟩) ⟨kB_blind, va_recv hK hP (ci := 5) (q0 := 0) rfl rfl, k_pre (a := []) (z := []) (k_w0 _) hK hP hD⟩ rfl rfl hl.1 rfl (lv_room (Nat.le_of_ble_eq_true rfl)) dX5_entry_41 ⟨Nat.zero_le _, Nat.zero_le _⟩) (k_w0 _) (k_w0 _) (moW_ad _ _ _ _ _) hP hD hS hA (fun H locs hP hD hS => ?_)
      refine lv_if_eq (tgt := 64) hx hb dX5_entry_44 (by decide) (fun _ => ?_) (fun h => absurd h (by decide))
      refine lv_iconst (v := 0) hx hb dX5_entry_64 (by decide) ?_
      exact k_iret hx hb hr hlk hP hS dX5_entry_65 rfl (by rw [A_X5_entry_r, if_pos c_16_0, if_neg (bi_nt c_33_1)]) (k_P (congrArg (fun T9 => moW q cI cJ T9) (show (o_setI M 2 2) = (A_X5_entry_s0 M x y) from by rw [A_X5_entry_s0, if_pos c_16_0, if_neg (bi_nt c_33_1)])))
  · have c_16_0 : (m_in x.toInt64 0 (((M.2.1 0) 13) - 1)) = false := bi_0.mp c_16_0
    refine lv_iconst (v := 1) hx hb dX5_entry_19 (by decide) ?_
    refine lv_goto (tgt := 24) hx hb dX5_entry_20 (by decide) ?_
    refine lv_iload_n hx hb dX5_entry_24 rfl (lv_at hl 2 rfl) ?_
    refine lv_i2l hx hb dX5_entry_25 rfl ?_
    refine lv_lconst (v := 0) hx hb dX5_entry_26 (by decide) ?_
    refine lv_ldc2 (v := 2) hx hb hown (hts (.constantLong RX5 89 (2)) (List.mem_of_getElem? (i := 2) rfl)) dX5_entry_27 ?_
    refine k_calli (a := []) (z := moW q cI cJ M) (wc := []) (wc' := []) (w' := moW q cI cJ M) (va_runS (As := [.long y.toInt64, .long 0, .long 2]) (rest := [.int 1, .ref (q 0)]) ⟨hx, hb, hml, hown, hts⟩ (c_X5_in l D cI cJ y.toInt64 0 2 _) (cwS 3 hts gX5_entry_X5_in rfl rfl rfl (by decide +kernel) ⟨Nat.le_of_ble_eq_true rfl, Nat.le_of_ble_eq_true rfl⟩) ⟨kB_blind, k_pre (a := []) (z := moW q cI cJ M) rfl hK hP hD⟩ rfl rfl hl.1 rfl (lv_room (Nat.le_of_ble_eq_true rfl)) dX5_entry_30 ⟨Nat.zero_le _, Nat.zero_le _⟩) rfl rfl rfl hP hD hS hA (fun H locs hP hD hS => ?_)
    refine lv_if_ne (tgt := 40) hx hb dX5_entry_33 (by decide) (fun c_33_4 => ?_) (fun c_33_4 => ?_)
    · have c_33_4 : (m_in y.toInt64 0 2) = true := bi_n.mp c_33_4
      obtain ⟨hy1, hy9⟩ := m_inN (N := 2) c_33_4 rfl (by decide)
      refine lv_iconst (v := 0) hx hb dX5_entry_40 (by decide) ?_
      refine k_calli (a := []) (z := []) (wc := moW q cI cJ M) (wc' := moW q cI cJ (o_setI M 2 1)) (w' := moW q cI cJ (o_setI M 2 1)) (va_runV (As := [.int 1, .int 0]) (rest := []) ⟨hx, hb, hml, hown, hts⟩ (c_X5_goes1 l D q cI cJ M 0 _) (cwV 2 hts gX5_entry_X5_goes rfl rfl rfl (by decide +kernel) ⟨Nat.le_of_ble_eq_true rfl, Nat.le_of_ble_eq_true rfl⟩) ⟨kB_blind, va_recv hK hP (ci := 5) (q0 := 0) rfl rfl, k_pre (a := []) (z := []) (k_w0 _) hK hP hD⟩ rfl rfl hl.1 rfl (lv_room (Nat.le_of_ble_eq_true rfl)) dX5_entry_41 ⟨Nat.zero_le _, Nat.zero_le _⟩) (k_w0 _) (k_w0 _) (moW_ad _ _ _ _ _) hP hD hS hA (fun H locs hP hD hS => ?_)
      refine lv_if_eq (tgt := 64) hx hb dX5_entry_44 (by decide) (fun _ => ?_) (fun h => absurd h (by decide))
      refine lv_iconst (v := 0) hx hb dX5_entry_64 (by decide) ?_
      exact k_iret hx hb hr hlk hP hS dX5_entry_65 rfl (by rw [A_X5_entry_r, if_neg (bi_nt c_16_0), if_pos c_33_4]) (k_P (congrArg (fun T9 => moW q cI cJ T9) (show (o_setI M 2 1) = (A_X5_entry_s0 M x y) from by rw [A_X5_entry_s0, if_neg (bi_nt c_16_0), if_pos c_33_4])))
    · have c_33_4 : (m_in y.toInt64 0 2) = false := bi_0.mp c_33_4
      refine lv_iconst (v := 1) hx hb dX5_entry_36 (by decide) ?_
      refine lv_goto (tgt := 41) hx hb dX5_entry_37 (by decide) ?_
      refine k_calli (a := []) (z := []) (wc := moW q cI cJ M) (wc' := moW q cI cJ (o_setI M 2 1)) (w' := moW q cI cJ (o_setI M 2 1)) (va_runV (As := [.int 1, .int 1]) (rest := []) ⟨hx, hb, hml, hown, hts⟩ (c_X5_goes1 l D q cI cJ M 1 _) (cwV 2 hts gX5_entry_X5_goes rfl rfl rfl (by decide +kernel) ⟨Nat.le_of_ble_eq_true rfl, Nat.le_of_ble_eq_true rfl⟩) ⟨kB_blind, va_recv hK hP (ci := 5) (q0 := 0) rfl rfl, k_pre (a := []) (z := []) (k_w0 _) hK hP hD⟩ rfl rfl hl.1 rfl (lv_room (Nat.le_of_ble_eq_true rfl)) dX5_entry_41 ⟨Nat.zero_le _, Nat.zero_le _⟩) (k_w0 _) (k_w0 _) (moW_ad _ _ _ _ _) hP hD hS hA (fun H locs hP hD hS => ?_)
      refine lv_if_eq (tgt := 64) hx hb dX5_entry_44 (by decide) (fun _ => ?_) (fun h => absurd h (by decide))
      refine lv_iconst (v := 0) hx hb dX5_entry_64 (by decide) ?_
      exact k_iret hx hb hr hlk hP hS dX5_entry_65 rfl (by rw [A_X5_entry_r, if_neg (bi_nt c_16_0), if_neg (bi_nt c_33_4)]) (k_P (congrArg (fun T9 => moW q cI cJ T9) (show (o_setI M 2 1) = (A_X5_entry_s0 M x y) from by rw [A_X5_entry_s0, if_neg (bi_nt c_16_0), if_neg (bi_nt c_33_4)])))
