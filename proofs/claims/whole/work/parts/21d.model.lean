set_option maxHeartbeats 1000000 in
set_option maxRecDepth 100000 in
theorem c_X5_placeOf (l : Launch) (D : va_G) (a : Nat) (cI cJ : ClassId) (w : Nat → Int64) (x : Int32) (i0 : Nat) (hi0 : i0 < 6) (hwx : w (96 + i0) = x.toInt64) : kI l yX5_placeOf wsX5_placeOf ({ frames := 0, cells := 0, slots := 0, locals := 0 } : Room) D [(cI, .int), (cJ, .long)] [.ref a, .int x] (rwW a cJ w) (nI (m_place w x)) (rwW a cJ w) := by
  refine kBody.met (cc := cX5_placeOf) (maxL := 3) (ret := (some .int)) (by decide) rfl (Nat.le_of_ble_eq_true rfl) ?_
  intro p9 e9 s9 m9 below meth c9 A9 ls hx hb hr hml hts hown hlk hK hP hD hA hl
  have hown : s9.vm.findClass RX5 = some m9.cls := hown
  have hS : va_S A9 s9.heap s9.heap [] := va_S.rf
  have hl : lv_has ls 3 [(0, .ref a), (1, .int x)] := hl
  refine lv_iconst (v := 0) hx hb dX5_placeOf_0 (by decide) ?_
  refine lv_istore_n (lv' := [(2, .int 0), (0, .ref a), (1, .int x)]) hx hb dX5_placeOf_1 rfl hl (by decide) rfl (fun ls hl => ?_)
  have L_2_0 : ∀ (d : Nat) (k : Nat), i0 < k + d → k ≤ i0 → ∀  (hno : ∀ i, i < k → m_placeP w x i = false) (H : Heap) (locs : List Loc) (ls : Array Slot), va_P D vwCl (rwW a cJ w) H → va_D A9 (rwW a cJ w) → va_S A9 s9.heap H locs → lv_has ls 3 [(0, .ref a), (1, .int x), (2, .int (nI k))] → W p9 l e9 ({ frames := 0, cells := 0, slots := 0, locals := 0 } : Room) s9 m9 (List.toArray [.ref a, .int x]) below meth c9 H locs 0 0 (MQ below (va_Qi (fun r (_ : Unit) => r = (nI (m_place w x))) (fun _ t9 => va_P D vwCl (rwW a cJ w) t9.heap) A9) (List.toArray [.ref a, .int x]) s9 0 0 A9) (F0 m9 2 ls []) := by
    intro d
    induction d with
    | zero =>
      intro k  hf
      intro hkn; exact absurd hf (by omega)
    | succ d ih_2 =>
      intro k  hf_2 hkn_2 hno H locs ls hP hD hS hl
      refine lv_aload_n hx hb dX5_placeOf_2 rfl (lv_at hl 0 rfl) ?_
      refine lv_bipush (v := 96) hx hb dX5_placeOf_3 (by decide) ?_
      refine lv_iload_n hx hb dX5_placeOf_5 rfl (lv_at hl 2 rfl) ?_
      refine lv_iadd hx hb dX5_placeOf_6 ?_
      refine va_lald (f := w) hx hb hK hP 0 1 rfl rfl (k_in (k := 96 + k) (show 96 + nI k = nI (96 + k) from nI_add 96 k) (by omega) (by decide)) dX5_placeOf_7 ?_
      rw [show (96 + (nI k) : Int32).toNatClampNeg = 96 + k from k_cl (show 96 + nI k = nI (96 + k) from nI_add 96 k) (by omega)]
      refine lv_iload_n hx hb dX5_placeOf_8 rfl (lv_at hl 1 rfl) ?_
      refine lv_i2l hx hb dX5_placeOf_9 rfl ?_
      refine W.lcmp hx hb dX5_placeOf_10 ?_
      refine lv_if_eq (tgt := 20) hx hb dX5_placeOf_11 (by decide) (fun c_11_1 => ?_) (fun c_11_1 => ?_)
      · have c_11_1 : (w (96 + k)) = x.toInt64 := (lg_cmp_eq (w (96 + k)) x.toInt64).mp c_11_1
        refine lv_iload_n hx hb dX5_placeOf_20 rfl (lv_at hl 2 rfl) ?_
        exact k_iret hx hb hr hlk hP hS dX5_placeOf_21 rfl (by rw [m_place, frst_some (by simp [m_placeP, c_11_1]) hno (by omega)]) (fun h => h)
      · have c_11_1 : ¬ (w (96 + k)) = x.toInt64 := mt (lg_cmp_eq (w (96 + k)) x.toInt64).mpr c_11_1
        have hkl_2 : k < i0 := by
          rcases Nat.lt_or_ge k i0 with q9 | q9
          · exact q9
          · have e9 : k = i0 := by omega
            subst e9
            exact absurd hwx c_11_1
        refine lv_iinc (v := (nI k) + 1) (lv' := [(2, .int ((nI k) + 1)), (0, .ref a), (1, .int x)]) hx hb dX5_placeOf_14 hl (k := 2) rfl rfl (by decide) rfl (fun ls hl => ?_)
        refine lv_goto (tgt := 2) hx hb dX5_placeOf_17 (by decide) ?_
        rw [show ((nI k) + 1) = (nI (k + 1)) from nI_1 _] at hl
        exact ih_2 (k + 1) (by omega) (by omega) (k_ext hno (by simp [m_placeP, c_11_1])) _ _ _ hP hD hS (lv_sub hl [1, 2, 0] rfl)
  exact L_2_0 (i0 + 1) 0 (by omega) (by omega) (fun i hi => absurd hi (Nat.not_lt_zero _)) _ _ _ hP hD hS (lv_sub hl [1, 2, 0] rfl)

def A_X5_pumpValue_r (M : MS) (x : Int32) (v : Nat) : Int32 := (if (nI v) = 3 then nI (m_place (M.2.1 0) x) else (if 3 ≤ (nI v) then ((M.2.1 0) (48 + 8 * x.toNatClampNeg + (v - 1))).toInt32 else ((M.2.1 0) (48 + 8 * x.toNatClampNeg + v)).toInt32))
set_option maxHeartbeats 1000000 in
set_option maxRecDepth 100000 in
theorem c_X5_pumpValue (l : Launch) (D : va_G) (q : Nat → Nat) (cI cJ : ClassId) (M : MS) (x : Int32) (v n : Nat) (hv : v < 8) (hp1 : x.toNatClampNeg < n) (hp9 : nI x.toNatClampNeg = x) (hn6 : n ≤ 6) (i0 : Nat) (hi0 : i0 < 6) (hwx : M.2.1 0 (96 + i0) = x.toInt64) : kI l yX5_pumpValue wsX5_pumpValue ({ frames := 1, cells := 0, slots := 0, locals := 22 } : Room) D [(cI, .int), (cJ, .long)] [.ref (q 0), .int x, .int (nI v)] (moW q cI cJ M) (A_X5_pumpValue_r M x v) (moW q cI cJ M) := by
  refine kBody.met (cc := cX5_pumpValue) (maxL := 3) (ret := (some .int)) (by decide) rfl (Nat.le_of_ble_eq_true rfl) ?_
  intro p9 e9 s9 m9 below meth c9 A9 ls hx hb hr hml hts hown hlk hK hP hD hA hl
  have hown : s9.vm.findClass RX5 = some m9.cls := hown
  have inX5 : ∀ w ∈ wsX50, w ∈ wsX5_pumpValue := fun w h => List.mem_cons_of_mem _ (List.mem_append_right _ (h))
  have hS : va_S A9 s9.heap s9.heap [] := va_S.rf
  have hl : lv_has ls 3 [(0, .ref (q 0)), (1, .int x), (2, .int (nI v))] := hl
  refine lv_iload_n hx hb dX5_pumpValue_0 rfl (lv_at hl 2 rfl) ?_
  refine lv_iconst (v := 3) hx hb dX5_pumpValue_1 (by decide) ?_
  refine lv_icmp_ne (tgt := 16) hx hb dX5_pumpValue_2 (by decide) (fun c_2_0 => ?_) (fun c_2_0 => ?_)
  · have c_2_0 : ¬ (nI v) = 3 := c_2_0
    refine lv_aload_n hx hb dX5_pumpValue_16 rfl (lv_at hl 0 rfl) ?_
    refine va_get (D := D) (ci := 5) (v := .ref (q 1)) (C := RX5) (T := TX5) (N := 14) hx hb hts inX5 hown hK hP 0 rfl rfl 0 (by decide) (hts (.fieldLink RX5 7 "PumpOathsModel" "now" "[J") (List.mem_of_getElem? (i := 1) rfl)) (fun _ h9 => h9) rfl dX5_pumpValue_17 ?_
    refine lv_iload_n hx hb dX5_pumpValue_20 rfl (lv_at hl 1 rfl) ?_
    refine lv_iload_n hx hb dX5_pumpValue_21 rfl (lv_at hl 2 rfl) ?_
    refine lv_iconst (v := 3) hx hb dX5_pumpValue_22 (by decide) ?_
    refine lv_icmp_ge (tgt := 30) hx hb dX5_pumpValue_23 (by decide) (fun c_23_1 => ?_) (fun c_23_1 => ?_)
    · have c_23_1 : 3 ≤ (nI v) := c_23_1
      have hv3 : 3 ≤ v := (nI_leI (by decide) (by omega)).mp (show nI 3 ≤ nI v from c_23_1)
      refine lv_iload_n hx hb dX5_pumpValue_30 rfl (lv_at hl 2 rfl) ?_
      refine lv_iconst (v := 1) hx hb dX5_pumpValue_31 (by decide) ?_
      refine lv_isub hx hb dX5_pumpValue_32 ?_
      rw [show (nI v) - 1 = nI (v - 1) from (by rw [show (1 : Int32) = nI 1 from rfl, pk_sub (by omega)])]
      refine k_calli (a := []) (z := moW q cI cJ M) (wc := []) (wc' := []) (w' := moW q cI cJ M) (va_runS (As := [.int x, .int (nI (v - 1))]) (rest := [.ref (q 1)]) ⟨hx, hb, hml, hown, hts⟩ (c_X5_p l D cI cJ x (nI (v - 1)) _) (cwS 2 hts gX5_pumpValue_X5_p rfl rfl rfl (by decide +kernel) ⟨Nat.le_of_ble_eq_true rfl, Nat.le_of_ble_eq_true rfl⟩) ⟨kB_blind, k_pre (a := []) (z := moW q cI cJ M) rfl hK hP hD⟩ rfl rfl hl.1 rfl (lv_room (Nat.le_of_ble_eq_true rfl)) dX5_pumpValue_33 ⟨Nat.zero_le _, Nat.zero_le _⟩) rfl rfl rfl hP hD hS hA (fun H locs hP hD hS => ?_)
      rw [show 48 + 8 * x + (nI (v - 1)) = nI (48 + 8 * x.toNatClampNeg + (v - 1)) from (by rw [← k_p, hp9])]
      refine va_lald (f := M.2.1 0) hx hb hK hP 1 1 rfl rfl (k_in (k := 48 + 8 * x.toNatClampNeg + (v - 1)) rfl (by omega) (by decide)) dX5_pumpValue_36 ?_
      rw [show (nI (48 + 8 * x.toNatClampNeg + (v - 1)) : Int32).toNatClampNeg = 48 + 8 * x.toNatClampNeg + (v - 1) from nI_clamp (by omega)]
      refine lv_l2i hx hb dX5_pumpValue_37 rfl ?_
      exact k_iret hx hb hr hlk hP hS dX5_pumpValue_38 rfl (by rw [A_X5_pumpValue_r, if_neg c_2_0, if_pos c_23_1]) (fun h => h)
    · have c_23_1 : ¬ 3 ≤ (nI v) := c_23_1
      refine lv_iload_n hx hb dX5_pumpValue_26 rfl (lv_at hl 2 rfl) ?_
      refine lv_goto (tgt := 33) hx hb dX5_pumpValue_27 (by decide) ?_
      refine k_calli (a := []) (z := moW q cI cJ M) (wc := []) (wc' := []) (w' := moW q cI cJ M) (va_runS (As := [.int x, .int (nI v)]) (rest := [.ref (q 1)]) ⟨hx, hb, hml, hown, hts⟩ (c_X5_p l D cI cJ x (nI v) _) (cwS 2 hts gX5_pumpValue_X5_p rfl rfl rfl (by decide +kernel) ⟨Nat.le_of_ble_eq_true rfl, Nat.le_of_ble_eq_true rfl⟩) ⟨kB_blind, k_pre (a := []) (z := moW q cI cJ M) rfl hK hP hD⟩ rfl rfl hl.1 rfl (lv_room (Nat.le_of_ble_eq_true rfl)) dX5_pumpValue_33 ⟨Nat.zero_le _, Nat.zero_le _⟩) rfl rfl rfl hP hD hS hA (fun H locs hP hD hS => ?_)
      rw [show 48 + 8 * x + (nI v) = nI (48 + 8 * x.toNatClampNeg + v) from (by rw [← k_p, hp9])]
      refine va_lald (f := M.2.1 0) hx hb hK hP 1 1 rfl rfl (k_in (k := 48 + 8 * x.toNatClampNeg + v) rfl (by omega) (by decide)) dX5_pumpValue_36 ?_
      rw [show (nI (48 + 8 * x.toNatClampNeg + v) : Int32).toNatClampNeg = 48 + 8 * x.toNatClampNeg + v from nI_clamp (by omega)]
      refine lv_l2i hx hb dX5_pumpValue_37 rfl ?_
      exact k_iret hx hb hr hlk hP hS dX5_pumpValue_38 rfl (by rw [A_X5_pumpValue_r, if_neg c_2_0, if_neg c_23_1]) (fun h => h)
  · have c_2_0 : (nI v) = 3 := c_2_0
    refine lv_aload_n hx hb dX5_pumpValue_5 rfl (lv_at hl 0 rfl) ?_
    refine va_get (D := D) (ci := 5) (v := .ref (q 1)) (C := RX5) (T := TX5) (N := 14) hx hb hts inX5 hown hK hP 0 rfl rfl 0 (by decide) (hts (.fieldLink RX5 7 "PumpOathsModel" "now" "[J") (List.mem_of_getElem? (i := 1) rfl)) (fun _ h9 => h9) rfl dX5_pumpValue_6 ?_
    refine lv_iload_n hx hb dX5_pumpValue_9 rfl (lv_at hl 1 rfl) ?_
    refine k_calli (a := List.take 1 (moW q cI cJ M)) (z := List.drop 2 (moW q cI cJ M)) (wc := rwW (q 1) cJ (M.2.1 0)) (wc' := rwW (q 1) cJ (M.2.1 0)) (w' := moW q cI cJ M) (va_runS (As := [.ref (q 1), .int x]) (rest := []) ⟨hx, hb, hml, hown, hts⟩ (c_X5_placeOf l D (q 1) cI cJ (M.2.1 0) x i0 hi0 hwx _) (cwS 2 hts gX5_pumpValue_X5_placeOf rfl rfl rfl (by decide +kernel) ⟨Nat.le_of_ble_eq_true rfl, Nat.le_of_ble_eq_true rfl⟩) ⟨kB_blind, k_pre (a := List.take 1 (moW q cI cJ M)) (z := List.drop 2 (moW q cI cJ M)) rfl hK hP hD⟩ rfl rfl hl.1 rfl (lv_room (Nat.le_of_ble_eq_true rfl)) dX5_pumpValue_10 ⟨Nat.zero_le _, Nat.zero_le _⟩) rfl rfl (rwW_ad _ _ _ _) hP hD hS hA (fun H locs hP hD hS => ?_)
    refine lv_goto (tgt := 38) hx hb dX5_pumpValue_13 (by decide) ?_
    exact k_iret hx hb hr hlk hP hS dX5_pumpValue_38 rfl (by rw [A_X5_pumpValue_r, if_pos c_2_0]) (fun h => h)

def A_X5_pump_r (M : MS) (x y : Int32) : Int32 := (if (m_isP (M.2.1 0) x) = true then (if (m_in y.toInt64 0 7) = true then A_X5_pumpValue_r (o_setI M 2 0) x y.toNatClampNeg else 0) else (if (m_in y.toInt64 0 7) = true then 0 else 0))
def A_X5_pump_s0 (M : MS) (x y : Int32) : MS := (if (m_isP (M.2.1 0) x) = true then (if (m_in y.toInt64 0 7) = true then o_setI M 2 0 else o_setI M 2 2) else (if (m_in y.toInt64 0 7) = true then o_setI M 2 1 else o_setI M 2 1))
set_option maxHeartbeats 1000000 in
set_option maxRecDepth 100000 in
theorem c_X5_pump (l : Launch) (D : va_G) (q : Nat → Nat) (cI cJ : ClassId) (M : MS) (x y : Int32) (n : Nat) (hn : M.2.1 0 7 = lN n) (hn6 : n ≤ 6) (hperm : ∀ j, j < n → ∃ i, i < 6 ∧ M.2.1 0 (96 + i) = lN j) : kI l yX5_pump wsX5_pump ({ frames := 2, cells := 0, slots := 0, locals := 46 } : Room) D [(cI, .int), (cJ, .long)] [.ref (q 0), .int x, .int y] (moW q cI cJ M) (A_X5_pump_r M x y) (moW q cI cJ (A_X5_pump_s0 M x y)) := by
  refine kBody.met (cc := cX5_pump) (maxL := 3) (ret := (some .int)) (by decide) rfl (Nat.le_of_ble_eq_true rfl) ?_
  intro p9 e9 s9 m9 below meth c9 A9 ls hx hb hr hml hts hown hlk hK hP hD hA hl
  have hown : s9.vm.findClass RX5 = some m9.cls := hown
  have inX5 : ∀ w ∈ wsX50, w ∈ wsX5_pump := fun w h => List.mem_cons_of_mem _ (List.mem_append_right _ (h))
  have hS : va_S A9 s9.heap s9.heap [] := va_S.rf
  have hl : lv_has ls 3 [(0, .ref (q 0)), (1, .int x), (2, .int y)] := hl
  refine lv_aload_n hx hb dX5_pump_0 rfl (lv_at hl 0 rfl) ?_
  refine lv_aload_n hx hb dX5_pump_1 rfl (lv_at hl 0 rfl) ?_
  refine lv_iload_n hx hb dX5_pump_2 rfl (lv_at hl 1 rfl) ?_
  refine k_calli (a := []) (z := []) (wc := moW q cI cJ M) (wc' := moW q cI cJ M) (w' := moW q cI cJ M) (va_runV (As := [.int x]) (rest := [.ref (q 0)]) ⟨hx, hb, hml, hown, hts⟩ (c_X5_isPump l D q cI cJ M x _) (cwV 1 hts gX5_pump_X5_isPump rfl rfl rfl (by decide +kernel) ⟨Nat.le_of_ble_eq_true rfl, Nat.le_of_ble_eq_true rfl⟩) ⟨kB_blind, va_recv hK hP (ci := 5) (q0 := 0) rfl rfl, k_pre (a := []) (z := []) (k_w0 _) hK hP hD⟩ rfl rfl hl.1 rfl (lv_room (Nat.le_of_ble_eq_true rfl)) dX5_pump_3 ⟨Nat.zero_le _, Nat.zero_le _⟩) (k_w0 _) (k_w0 _) (moW_ad _ _ _ _ _) hP hD hS hA (fun H locs hP hD hS => ?_)
  refine lv_if_ne (tgt := 13) hx hb dX5_pump_6 (by decide) (fun c_6_0 => ?_) (fun c_6_0 => ?_)
  · have c_6_0 : (m_isP (M.2.1 0) x) = true := bi_n.mp c_6_0
    obtain ⟨hp1, hp9⟩ := m_isPn c_6_0 hn hn6
    refine lv_iconst (v := 0) hx hb dX5_pump_13 (by decide) ?_
    refine lv_iload_n hx hb dX5_pump_14 rfl (lv_at hl 2 rfl) ?_
    refine lv_i2l hx hb dX5_pump_15 rfl ?_
    refine lv_lconst (v := 0) hx hb dX5_pump_16 (by decide) ?_
    refine lv_ldc2 (v := 7) hx hb hown (hts (.constantLong RX5 135 (7)) (List.mem_of_getElem? (i := 1) rfl)) dX5_pump_17 ?_
    refine k_calli (a := []) (z := moW q cI cJ M) (wc := []) (wc' := []) (w' := moW q cI cJ M) (va_runS (As := [.long y.toInt64, .long 0, .long 7]) (rest := [.int 0, .ref (q 0)]) ⟨hx, hb, hml, hown, hts⟩ (c_X5_in l D cI cJ y.toInt64 0 7 _) (cwS 3 hts gX5_pump_X5_in rfl rfl rfl (by decide +kernel) ⟨Nat.le_of_ble_eq_true rfl, Nat.le_of_ble_eq_true rfl⟩) ⟨kB_blind, k_pre (a := []) (z := moW q cI cJ M) rfl hK hP hD⟩ rfl rfl hl.1 rfl (lv_room (Nat.le_of_ble_eq_true rfl)) dX5_pump_20 ⟨Nat.zero_le _, Nat.zero_le _⟩) rfl rfl rfl hP hD hS hA (fun H locs hP hD hS => ?_)
    refine lv_if_ne (tgt := 30) hx hb dX5_pump_23 (by decide) (fun c_23_1 => ?_) (fun c_23_1 => ?_)
    · have c_23_1 : (m_in y.toInt64 0 7) = true := bi_n.mp c_23_1
      obtain ⟨hy1, hy9⟩ := m_inN (N := 7) c_23_1 rfl (by decide)
      refine lv_iconst (v := 0) hx hb dX5_pump_30 (by decide) ?_
      refine k_calli (a := []) (z := []) (wc := moW q cI cJ M) (wc' := moW q cI cJ (o_setI M 2 0)) (w' := moW q cI cJ (o_setI M 2 0)) (va_runV (As := [.int 0, .int 0]) (rest := []) ⟨hx, hb, hml, hown, hts⟩ (c_X5_goes00 l D q cI cJ M _) (cwV 2 hts gX5_pump_X5_goes rfl rfl rfl (by decide +kernel) ⟨Nat.le_of_ble_eq_true rfl, Nat.le_of_ble_eq_true rfl⟩) ⟨kB_blind, va_recv hK hP (ci := 5) (q0 := 0) rfl rfl, k_pre (a := []) (z := []) (k_w0 _) hK hP hD⟩ rfl rfl hl.1 rfl (lv_room (Nat.le_of_ble_eq_true rfl)) dX5_pump_31 ⟨Nat.zero_le _, Nat.zero_le _⟩) (k_w0 _) (k_w0 _) (moW_ad _ _ _ _ _) hP hD hS hA (fun H locs hP hD hS => ?_)
      refine lv_if_eq (tgt := 46) hx hb dX5_pump_34 (by decide) (fun h => absurd h (by decide)) (fun _ => ?_)
      refine lv_aload_n hx hb dX5_pump_37 rfl (lv_at hl 0 rfl) ?_
      refine lv_iload_n hx hb dX5_pump_38 rfl (lv_at hl 1 rfl) ?_
      refine lv_iload_n hx hb dX5_pump_39 rfl (lv_at hl 2 rfl) ?_
      refine k_top9 (v := nI y.toNatClampNeg) (hy9.symm) ?_
      obtain ⟨i0, hi0, hwx⟩ := hperm _ hp1
      rw [← nI_l (by omega), hp9] at hwx
      refine k_calli (a := []) (z := []) (wc := moW q cI cJ (o_setI M 2 0)) (wc' := moW q cI cJ (o_setI M 2 0)) (w' := moW q cI cJ (o_setI M 2 0)) (va_runV (As := [.int x, .int (nI y.toNatClampNeg)]) (rest := []) ⟨hx, hb, hml, hown, hts⟩ (c_X5_pumpValue l D q cI cJ (o_setI M 2 0) x y.toNatClampNeg n (by omega) hp1 hp9 hn6 i0 hi0 hwx _) (cwV 2 hts gX5_pump_X5_pumpValue rfl rfl rfl (by decide +kernel) ⟨Nat.le_of_ble_eq_true rfl, Nat.le_of_ble_eq_true rfl⟩) ⟨kB_blind, va_recv hK hP (ci := 5) (q0 := 0) rfl rfl, k_pre (a := []) (z := []) (k_w0 _) hK hP hD⟩ rfl rfl hl.1 rfl (lv_room (Nat.le_of_ble_eq_true rfl)) dX5_pump_40 ⟨Nat.zero_le _, Nat.zero_le _⟩) (k_w0 _) (k_w0 _) (moW_ad _ _ _ _ _) hP hD hS hA (fun H locs hP hD hS => ?_)
      refine lv_goto (tgt := 47) hx hb dX5_pump_43 (by decide) ?_
      exact k_iret hx hb hr hlk hP hS dX5_pump_47 rfl (by rw [A_X5_pump_r, if_pos c_6_0, if_pos c_23_1]) (k_P (congrArg (fun T9 => moW q cI cJ T9) (show (o_setI M 2 0) = (A_X5_pump_s0 M x y) from by rw [A_X5_pump_s0, if_pos c_6_0, if_pos c_23_1])))
    · have c_23_1 : (m_in y.toInt64 0 7) = false := bi_0.mp c_23_1
      refine lv_iconst (v := 1) hx hb dX5_pump_26 (by decide) ?_
      refine lv_goto (tgt := 31) hx hb dX5_pump_27 (by decide) ?_
      refine k_calli (a := []) (z := []) (wc := moW q cI cJ M) (wc' := moW q cI cJ (o_setI M 2 2)) (w' := moW q cI cJ (o_setI M 2 2)) (va_runV (As := [.int 0, .int 1]) (rest := []) ⟨hx, hb, hml, hown, hts⟩ (c_X5_goes01 l D q cI cJ M _) (cwV 2 hts gX5_pump_X5_goes rfl rfl rfl (by decide +kernel) ⟨Nat.le_of_ble_eq_true rfl, Nat.le_of_ble_eq_true rfl⟩) ⟨kB_blind, va_recv hK hP (ci := 5) (q0 := 0) rfl rfl, k_pre (a := []) (z := []) (k_w0 _) hK hP hD⟩ rfl rfl hl.1 rfl (lv_room (Nat.le_of_ble_eq_true rfl)) dX5_pump_31 ⟨Nat.zero_le _, Nat.zero_le _⟩) (k_w0 _) (k_w0 _) (moW_ad _ _ _ _ _) hP hD hS hA (fun H locs hP hD hS => ?_)
      refine lv_if_eq (tgt := 46) hx hb dX5_pump_34 (by decide) (fun _ => ?_) (fun h => absurd h (by decide))
      refine lv_iconst (v := 0) hx hb dX5_pump_46 (by decide) ?_
      exact k_iret hx hb hr hlk hP hS dX5_pump_47 rfl (by rw [A_X5_pump_r, if_pos c_6_0, if_neg (bi_nt c_23_1)]) (k_P (congrArg (fun T9 => moW q cI cJ T9) (show (o_setI M 2 2) = (A_X5_pump_s0 M x y) from by rw [A_X5_pump_s0, if_pos c_6_0, if_neg (bi_nt c_23_1)])))
  · have c_6_0 : (m_isP (M.2.1 0) x) = false := bi_0.mp c_6_0
    refine lv_iconst (v := 1) hx hb dX5_pump_9 (by decide) ?_
    refine lv_goto (tgt := 14) hx hb dX5_pump_10 (by decide) ?_
    refine lv_iload_n hx hb dX5_pump_14 rfl (lv_at hl 2 rfl) ?_
    refine lv_i2l hx hb dX5_pump_15 rfl ?_
    refine lv_lconst (v := 0) hx hb dX5_pump_16 (by decide) ?_
    refine lv_ldc2 (v := 7) hx hb hown (hts (.constantLong RX5 135 (7)) (List.mem_of_getElem? (i := 1) rfl)) dX5_pump_17 ?_
    refine k_calli (a := []) (z := moW q cI cJ M) (wc := []) (wc' := []) (w' := moW q cI cJ M) (va_runS (As := [.long y.toInt64, .long 0, .long 7]) (rest := [.int 1, .ref (q 0)]) ⟨hx, hb, hml, hown, hts⟩ (c_X5_in l D cI cJ y.toInt64 0 7 _) (cwS 3 hts gX5_pump_X5_in rfl rfl rfl (by decide +kernel) ⟨Nat.le_of_ble_eq_true rfl, Nat.le_of_ble_eq_true rfl⟩) ⟨kB_blind, k_pre (a := []) (z := moW q cI cJ M) rfl hK hP hD⟩ rfl rfl hl.1 rfl (lv_room (Nat.le_of_ble_eq_true rfl)) dX5_pump_20 ⟨Nat.zero_le _, Nat.zero_le _⟩) rfl rfl rfl hP hD hS hA (fun H locs hP hD hS => ?_)
    refine lv_if_ne (tgt := 30) hx hb dX5_pump_23 (by decide) (fun c_23_4 => ?_) (fun c_23_4 => ?_)
    · have c_23_4 : (m_in y.toInt64 0 7) = true := bi_n.mp c_23_4
      obtain ⟨hy1, hy9⟩ := m_inN (N := 7) c_23_4 rfl (by decide)
      refine lv_iconst (v := 0) hx hb dX5_pump_30 (by decide) ?_
      refine k_calli (a := []) (z := []) (wc := moW q cI cJ M) (wc' := moW q cI cJ (o_setI M 2 1)) (w' := moW q cI cJ (o_setI M 2 1)) (va_runV (As := [.int 1, .int 0]) (rest := []) ⟨hx, hb, hml, hown, hts⟩ (c_X5_goes1 l D q cI cJ M 0 _) (cwV 2 hts gX5_pump_X5_goes rfl rfl rfl (by decide +kernel) ⟨Nat.le_of_ble_eq_true rfl, Nat.le_of_ble_eq_true rfl⟩) ⟨kB_blind, va_recv hK hP (ci := 5) (q0 := 0) rfl rfl, k_pre (a := []) (z := []) (k_w0 _) hK hP hD⟩ rfl rfl hl.1 rfl (lv_room (Nat.le_of_ble_eq_true rfl)) dX5_pump_31 ⟨Nat.zero_le _, Nat.zero_le _⟩) (k_w0 _) (k_w0 _) (moW_ad _ _ _ _ _) hP hD hS hA (fun H locs hP hD hS => ?_)
      refine lv_if_eq (tgt := 46) hx hb dX5_pump_34 (by decide) (fun _ => ?_) (fun h => absurd h (by decide))
      refine lv_iconst (v := 0) hx hb dX5_pump_46 (by decide) ?_
      exact k_iret hx hb hr hlk hP hS dX5_pump_47 rfl (by rw [A_X5_pump_r, if_neg (bi_nt c_6_0), if_pos c_23_4]) (k_P (congrArg (fun T9 => moW q cI cJ T9) (show (o_setI M 2 1) = (A_X5_pump_s0 M x y) from by rw [A_X5_pump_s0, if_neg (bi_nt c_6_0), if_pos c_23_4])))
    · have c_23_4 : (m_in y.toInt64 0 7) = false := bi_0.mp c_23_4
      refine lv_iconst (v := 1) hx hb dX5_pump_26 (by decide) ?_
      refine lv_goto (tgt := 31) hx hb dX5_pump_27 (by decide) ?_
      refine k_calli (a := []) (z := []) (wc := moW q cI cJ M) (wc' := moW q cI cJ (o_setI M 2 1)) (w' := moW q cI cJ (o_setI M 2 1)) (va_runV (As := [.int 1, .int 1]) (rest := []) ⟨hx, hb, hml, hown, hts⟩ (c_X5_goes1 l D q cI cJ M 1 _) (cwV 2 hts gX5_pump_X5_goes rfl rfl rfl (by decide +kernel) ⟨Nat.le_of_ble_eq_true rfl, Nat.le_of_ble_eq_true rfl⟩) ⟨kB_blind, va_recv hK hP (ci := 5) (q0 := 0) rfl rfl, k_pre (a := []) (z := []) (k_w0 _) hK hP hD⟩ rfl rfl hl.1 rfl (lv_room (Nat.le_of_ble_eq_true rfl)) dX5_pump_31 ⟨Nat.zero_le _, Nat.zero_le _⟩) (k_w0 _) (k_w0 _) (moW_ad _ _ _ _ _) hP hD hS hA (fun H locs hP hD hS => ?_)
      refine lv_if_eq (tgt := 46) hx hb dX5_pump_34 (by decide) (fun _ => ?_) (fun h => absurd h (by decide))
      refine lv_iconst (v := 0) hx hb dX5_pump_46 (by decide) ?_
      exact k_iret hx hb hr hlk hP hS dX5_pump_47 rfl (by rw [A_X5_pump_r, if_neg (bi_nt c_6_0), if_neg (bi_nt c_23_4)]) (k_P (congrArg (fun T9 => moW q cI cJ T9) (show (o_setI M 2 1) = (A_X5_pump_s0 M x y) from by rw [A_X5_pump_s0, if_neg (bi_nt c_6_0), if_neg (bi_nt c_23_4)])))
