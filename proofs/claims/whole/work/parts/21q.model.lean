/-! ORDERS ARE CARRIED OUT, AND THE DIGEST -/
theorem k_look4 {x : Int32} {d : Int} {o2 o3 o4 o5 : Int} (h2 : ¬ x = 109) (h3 : ¬ x = 111) (h4 : ¬ x = 120) (h5 : ¬ x = 121) : Op.lookupswitch.offset [(109, o2), (111, o3), (120, o4), (121, o5)] d x.toInt = d := by
  have a2 := k_ne h2 (n := 109) rfl
  have a3 := k_ne h3 (n := 111) rfl
  have a4 := k_ne h4 (n := 120) rfl
  have a5 := k_ne h5 (n := 121) rfl
  simp [Op.lookupswitch.offset, a2, a3, a4, a5, Ne.symm a2, Ne.symm a3, Ne.symm a4, Ne.symm a5]
theorem k_look3 {x : Int32} {d : Int} {o1 o2 o3 : Int} (h1 : ¬ x = 100) (h2 : ¬ x = 109) (h3 : ¬ x = 111) : Op.lookupswitch.offset [(100, o1), (109, o2), (111, o3)] d x.toInt = d := by
  have a1 := k_ne h1 (n := 100) rfl
  have a2 := k_ne h2 (n := 109) rfl
  have a3 := k_ne h3 (n := 111) rfl
  simp [Op.lookupswitch.offset, a1, a2, a3, Ne.symm a1, Ne.symm a2, Ne.symm a3]

def A_X5_can_r (M : MS) (kk : Nat) : Int32 := (if (M.2.2 1) kk = 109 then (if 1000000 < (((M.2.1 0) 8) + (((M.2.2 3) kk).toInt64)) then 0 else 1) else (if (M.2.2 1) kk = 111 then bi (m_isP (M.2.1 0) ((M.2.2 2) kk)) else (if (M.2.2 1) kk = 120 then (if (m_isP (M.2.1 0) ((M.2.2 2) kk)) = true then (if ((M.2.1 0) (48 + 8 * (M.2.2 2 kk).toNatClampNeg + 2)) = 2 then 0 else 1) else 0) else (if (M.2.2 1) kk = 121 then (if (m_isP (M.2.1 0) ((M.2.2 2) kk)) = true then (if ((M.2.1 0) (48 + 8 * (M.2.2 2 kk).toNatClampNeg + 2)) = 2 then 1 else 0) else 0) else 1))))
set_option maxHeartbeats 1000000 in
set_option maxRecDepth 100000 in
theorem c_X5_can (l : Launch) (D : va_G) (q : Nat → Nat) (cI cJ : ClassId) (M : MS) (kk : Nat) (hkk : kk < 34) (n : Nat) (hn : M.2.1 0 7 = lN n) (hn6 : n ≤ 6) : kI l yX5_can wsX5_can ({ frames := 2, cells := 0, slots := 0, locals := 46 } : Room) D [(cI, .int), (cJ, .long)] [.ref (q 0), .int (nI kk)] (moW q cI cJ M) (A_X5_can_r M kk) (moW q cI cJ M) := by
  refine kBody.met (cc := cX5_can) (maxL := 2) (ret := (some .boolean)) (by decide) rfl (Nat.le_of_ble_eq_true rfl) ?_
  intro p9 e9 s9 m9 below meth c9 A9 ls hx hb hr hml hts hown hlk hK hP hD hA hl
  have hown : s9.vm.findClass RX5 = some m9.cls := hown
  have inX5 : ∀ w ∈ wsX50, w ∈ wsX5_can := fun w h => List.mem_cons_of_mem _ (List.mem_append_right _ (h))
  have hS : va_S A9 s9.heap s9.heap [] := va_S.rf
  have hl : lv_has ls 2 [(0, .ref (q 0)), (1, .int (nI kk))] := hl
  refine lv_aload_n hx hb dX5_can_0 rfl (lv_at hl 0 rfl) ?_
  refine va_get (D := D) (ci := 5) (v := .ref (q 5)) (C := RX5) (T := TX5) (N := 14) hx hb hts inX5 hown hK hP 0 rfl rfl 11 (by decide) (hts (.fieldLink RX5 23 "PumpOathsModel" "whats" "[I") (List.mem_of_getElem? (i := 1) rfl)) (fun _ h9 => h9) rfl dX5_can_1 ?_
  refine lv_iload_n hx hb dX5_can_4 rfl (lv_at hl 1 rfl) ?_
  refine va_iald (f := M.2.2 1) hx hb hK hP 5 0 rfl rfl (k_in (k := kk) rfl (by omega) (by decide)) dX5_can_5 ?_
  rw [show (nI kk : Int32).toNatClampNeg = kk from nI_clamp (by omega)]
  by_cases c_6_0 : (M.2.2 1) kk = 109
  · refine lv_lookup (off := 42) (tgt := 48) hx hb dX5_can_6 (by decide) (by rw [c_6_0]; decide) (by decide) ?_
    refine lv_aload_n hx hb dX5_can_48 rfl (lv_at hl 0 rfl) ?_
    refine va_get (D := D) (ci := 5) (v := .ref (q 1)) (C := RX5) (T := TX5) (N := 14) hx hb hts inX5 hown hK hP 0 rfl rfl 0 (by decide) (hts (.fieldLink RX5 7 "PumpOathsModel" "now" "[J") (List.mem_of_getElem? (i := 2) rfl)) (fun _ h9 => h9) rfl dX5_can_49 ?_
    refine lv_bipush (v := 8) hx hb dX5_can_52 (by decide) ?_
    refine va_lald (f := M.2.1 0) hx hb hK hP 1 1 rfl rfl (k_in (k := 8) rfl (by decide) (by decide)) dX5_can_54 ?_
    rw [show (8 : Int32).toNatClampNeg = 8 from rfl]
    refine lv_aload_n hx hb dX5_can_55 rfl (lv_at hl 0 rfl) ?_
    refine va_get (D := D) (ci := 5) (v := .ref (q 7)) (C := RX5) (T := TX5) (N := 14) hx hb hts inX5 hown hK hP 0 rfl rfl 13 (by decide) (hts (.fieldLink RX5 29 "PumpOathsModel" "seconds" "[I") (List.mem_of_getElem? (i := 3) rfl)) (fun _ h9 => h9) rfl dX5_can_56 ?_
    refine lv_iload_n hx hb dX5_can_59 rfl (lv_at hl 1 rfl) ?_
    refine va_iald (f := M.2.2 3) hx hb hK hP 7 0 rfl rfl (k_in (k := kk) rfl (by omega) (by decide)) dX5_can_60 ?_
    rw [show (nI kk : Int32).toNatClampNeg = kk from nI_clamp (by omega)]
    refine lv_i2l hx hb dX5_can_61 rfl ?_
    refine lv_ladd hx hb dX5_can_62 ?_
    refine lv_ldc2 (v := 1000000) hx hb hown (hts (.constantLong RX5 127 (1000000)) (List.mem_of_getElem? (i := 4) rfl)) dX5_can_63 ?_
    refine W.lcmp hx hb dX5_can_66 ?_
    refine lv_if_gt (tgt := 74) hx hb dX5_can_67 (by decide) (fun c_67_1 => ?_) (fun c_67_1 => ?_)
    · have c_67_1 : 1000000 < (((M.2.1 0) 8) + (((M.2.2 3) kk).toInt64)) := (lg_cmp_gt (((M.2.1 0) 8) + (((M.2.2 3) kk).toInt64)) 1000000).mp c_67_1
      refine lv_iconst (v := 0) hx hb dX5_can_74 (by decide) ?_
      exact k_iret hx hb hr hlk hP hS dX5_can_75 rfl (by rw [A_X5_can_r, if_pos c_6_0, if_pos c_67_1]) (fun h => h)
    · have c_67_1 : ¬ 1000000 < (((M.2.1 0) 8) + (((M.2.2 3) kk).toInt64)) := mt (lg_cmp_gt (((M.2.1 0) 8) + (((M.2.2 3) kk).toInt64)) 1000000).mpr c_67_1
      refine lv_iconst (v := 1) hx hb dX5_can_70 (by decide) ?_
      refine lv_goto (tgt := 75) hx hb dX5_can_71 (by decide) ?_
      exact k_iret hx hb hr hlk hP hS dX5_can_75 rfl (by rw [A_X5_can_r, if_pos c_6_0, if_neg c_67_1]) (fun h => h)
  by_cases c_6_2 : (M.2.2 1) kk = 111
  · refine lv_lookup (off := 70) (tgt := 76) hx hb dX5_can_6 (by decide) (by rw [c_6_2]; decide) (by decide) ?_
    refine lv_aload_n hx hb dX5_can_76 rfl (lv_at hl 0 rfl) ?_
    refine lv_aload_n hx hb dX5_can_77 rfl (lv_at hl 0 rfl) ?_
    refine va_get (D := D) (ci := 5) (v := .ref (q 6)) (C := RX5) (T := TX5) (N := 14) hx hb hts inX5 hown hK hP 0 rfl rfl 12 (by decide) (hts (.fieldLink RX5 26 "PumpOathsModel" "firsts" "[I") (List.mem_of_getElem? (i := 5) rfl)) (fun _ h9 => h9) rfl dX5_can_78 ?_
    refine lv_iload_n hx hb dX5_can_81 rfl (lv_at hl 1 rfl) ?_
    refine va_iald (f := M.2.2 2) hx hb hK hP 6 0 rfl rfl (k_in (k := kk) rfl (by omega) (by decide)) dX5_can_82 ?_
    rw [show (nI kk : Int32).toNatClampNeg = kk from nI_clamp (by omega)]
    refine k_calli (a := []) (z := []) (wc := moW q cI cJ M) (wc' := moW q cI cJ M) (w' := moW q cI cJ M) (va_runV (As := [.int ((M.2.2 2) kk)]) (rest := []) ⟨hx, hb, hml, hown, hts⟩ (c_X5_isPump l D q cI cJ M ((M.2.2 2) kk) _) (cwV 1 hts gX5_can_X5_isPump rfl rfl rfl (by decide +kernel) ⟨Nat.le_of_ble_eq_true rfl, Nat.le_of_ble_eq_true rfl⟩) ⟨kB_blind, va_recv hK hP (ci := 5) (q0 := 0) rfl rfl, k_pre (a := []) (z := []) (k_w0 _) hK hP hD⟩ rfl rfl hl.1 rfl (lv_room (Nat.le_of_ble_eq_true rfl)) dX5_can_83 ⟨Nat.zero_le _, Nat.zero_le _⟩) (k_w0 _) (k_w0 _) (moW_ad _ _ _ _ _) hP hD hS hA (fun H locs hP hD hS => ?_)
    exact k_iret hx hb hr hlk hP hS dX5_can_86 (bi_nar _) (by rw [A_X5_can_r, if_neg c_6_0, if_pos c_6_2]) (fun h => h)
  by_cases c_6_3 : (M.2.2 1) kk = 120
  · refine lv_lookup (off := 81) (tgt := 87) hx hb dX5_can_6 (by decide) (by rw [c_6_3]; decide) (by decide) ?_
    refine lv_aload_n hx hb dX5_can_87 rfl (lv_at hl 0 rfl) ?_
    refine lv_aload_n hx hb dX5_can_88 rfl (lv_at hl 0 rfl) ?_
    refine va_get (D := D) (ci := 5) (v := .ref (q 6)) (C := RX5) (T := TX5) (N := 14) hx hb hts inX5 hown hK hP 0 rfl rfl 12 (by decide) (hts (.fieldLink RX5 26 "PumpOathsModel" "firsts" "[I") (List.mem_of_getElem? (i := 5) rfl)) (fun _ h9 => h9) rfl dX5_can_89 ?_
    refine lv_iload_n hx hb dX5_can_92 rfl (lv_at hl 1 rfl) ?_
    refine va_iald (f := M.2.2 2) hx hb hK hP 6 0 rfl rfl (k_in (k := kk) rfl (by omega) (by decide)) dX5_can_93 ?_
    rw [show (nI kk : Int32).toNatClampNeg = kk from nI_clamp (by omega)]
    refine k_calli (a := []) (z := []) (wc := moW q cI cJ M) (wc' := moW q cI cJ M) (w' := moW q cI cJ M) (va_runV (As := [.int ((M.2.2 2) kk)]) (rest := []) ⟨hx, hb, hml, hown, hts⟩ (c_X5_isPump l D q cI cJ M ((M.2.2 2) kk) _) (cwV 1 hts gX5_can_X5_isPump rfl rfl rfl (by decide +kernel) ⟨Nat.le_of_ble_eq_true rfl, Nat.le_of_ble_eq_true rfl⟩) ⟨kB_blind, va_recv hK hP (ci := 5) (q0 := 0) rfl rfl, k_pre (a := []) (z := []) (k_w0 _) hK hP hD⟩ rfl rfl hl.1 rfl (lv_room (Nat.le_of_ble_eq_true rfl)) dX5_can_94 ⟨Nat.zero_le _, Nat.zero_le _⟩) (k_w0 _) (k_w0 _) (moW_ad _ _ _ _ _) hP hD hS hA (fun H locs hP hD hS => ?_)
    refine lv_if_eq (tgt := 126) hx hb dX5_can_97 (by decide) (fun c_97_4 => ?_) (fun c_97_4 => ?_)
    · have c_97_4 : (m_isP (M.2.1 0) ((M.2.2 2) kk)) = false := bi_0.mp c_97_4
      refine lv_iconst (v := 0) hx hb dX5_can_126 (by decide) ?_
      exact k_iret hx hb hr hlk hP hS dX5_can_127 rfl (by rw [A_X5_can_r, if_neg c_6_0, if_neg c_6_2, if_pos c_6_3, if_neg (bi_nt c_97_4)]) (fun h => h)
    · have c_97_4 : (m_isP (M.2.1 0) ((M.2.2 2) kk)) = true := bi_n.mp c_97_4
      obtain ⟨hp1, hp9⟩ := m_isPn c_97_4 hn hn6
      refine lv_aload_n hx hb dX5_can_100 rfl (lv_at hl 0 rfl) ?_
      refine va_get (D := D) (ci := 5) (v := .ref (q 1)) (C := RX5) (T := TX5) (N := 14) hx hb hts inX5 hown hK hP 0 rfl rfl 0 (by decide) (hts (.fieldLink RX5 7 "PumpOathsModel" "now" "[J") (List.mem_of_getElem? (i := 2) rfl)) (fun _ h9 => h9) rfl dX5_can_101 ?_
      refine lv_aload_n hx hb dX5_can_104 rfl (lv_at hl 0 rfl) ?_
      refine va_get (D := D) (ci := 5) (v := .ref (q 6)) (C := RX5) (T := TX5) (N := 14) hx hb hts inX5 hown hK hP 0 rfl rfl 12 (by decide) (hts (.fieldLink RX5 26 "PumpOathsModel" "firsts" "[I") (List.mem_of_getElem? (i := 5) rfl)) (fun _ h9 => h9) rfl dX5_can_105 ?_
      refine lv_iload_n hx hb dX5_can_108 rfl (lv_at hl 1 rfl) ?_
      refine va_iald (f := M.2.2 2) hx hb hK hP 6 0 rfl rfl (k_in (k := kk) rfl (by omega) (by decide)) dX5_can_109 ?_
      rw [show (nI kk : Int32).toNatClampNeg = kk from nI_clamp (by omega)]
      refine lv_iconst (v := 2) hx hb dX5_can_110 (by decide) ?_
      refine k_calli (a := []) (z := moW q cI cJ M) (wc := []) (wc' := []) (w' := moW q cI cJ M) (va_runS (As := [.int ((M.2.2 2) kk), .int 2]) (rest := [.ref (q 1)]) ⟨hx, hb, hml, hown, hts⟩ (c_X5_p l D cI cJ ((M.2.2 2) kk) 2 _) (cwS 2 hts gX5_can_X5_p rfl rfl rfl (by decide +kernel) ⟨Nat.le_of_ble_eq_true rfl, Nat.le_of_ble_eq_true rfl⟩) ⟨kB_blind, k_pre (a := []) (z := moW q cI cJ M) rfl hK hP hD⟩ rfl rfl hl.1 rfl (lv_room (Nat.le_of_ble_eq_true rfl)) dX5_can_111 ⟨Nat.zero_le _, Nat.zero_le _⟩) rfl rfl rfl hP hD hS hA (fun H locs hP hD hS => ?_)
      rw [show 48 + 8 * ((M.2.2 2) kk) + 2 = nI (48 + 8 * (M.2.2 2 kk).toNatClampNeg + 2) from (by rw [← k_p, hp9]; rfl)]
      refine va_lald (f := M.2.1 0) hx hb hK hP 1 1 rfl rfl (k_in (k := 48 + 8 * (M.2.2 2 kk).toNatClampNeg + 2) rfl (by omega) (by decide)) dX5_can_114 ?_
      rw [show (nI (48 + 8 * (M.2.2 2 kk).toNatClampNeg + 2) : Int32).toNatClampNeg = 48 + 8 * (M.2.2 2 kk).toNatClampNeg + 2 from nI_clamp (by omega)]
      refine lv_ldc2 (v := 2) hx hb hown (hts (.constantLong RX5 89 (2)) (List.mem_of_getElem? (i := 6) rfl)) dX5_can_115 ?_
      refine W.lcmp hx hb dX5_can_118 ?_
      refine lv_if_eq (tgt := 126) hx hb dX5_can_119 (by decide) (fun c_119_5 => ?_) (fun c_119_5 => ?_)
      · have c_119_5 : ((M.2.1 0) (48 + 8 * (M.2.2 2 kk).toNatClampNeg + 2)) = 2 := (lg_cmp_eq ((M.2.1 0) (48 + 8 * (M.2.2 2 kk).toNatClampNeg + 2)) 2).mp c_119_5
        refine lv_iconst (v := 0) hx hb dX5_can_126 (by decide) ?_
        exact k_iret hx hb hr hlk hP hS dX5_can_127 rfl (by rw [A_X5_can_r, if_neg c_6_0, if_neg c_6_2, if_pos c_6_3, if_pos c_97_4, if_pos c_119_5]) (fun h => h)
      · have c_119_5 : ¬ ((M.2.1 0) (48 + 8 * (M.2.2 2 kk).toNatClampNeg + 2)) = 2 := mt (lg_cmp_eq ((M.2.1 0) (48 + 8 * (M.2.2 2 kk).toNatClampNeg + 2)) 2).mpr c_119_5
        refine lv_iconst (v := 1) hx hb dX5_can_122 (by decide) ?_
        refine lv_goto (tgt := 127) hx hb dX5_can_123 (by decide) ?_
        exact k_iret hx hb hr hlk hP hS dX5_can_127 rfl (by rw [A_X5_can_r, if_neg c_6_0, if_neg c_6_2, if_pos c_6_3, if_pos c_97_4, if_neg c_119_5]) (fun h => h)
  by_cases c_6_6 : (M.2.2 1) kk = 121
  · refine lv_lookup (off := 122) (tgt := 128) hx hb dX5_can_6 (by decide) (by rw [c_6_6]; decide) (by decide) ?_
    refine lv_aload_n hx hb dX5_can_128 rfl (lv_at hl 0 rfl) ?_
    refine lv_aload_n hx hb dX5_can_129 rfl (lv_at hl 0 rfl) ?_
    refine va_get (D := D) (ci := 5) (v := .ref (q 6)) (C := RX5) (T := TX5) (N := 14) hx hb hts inX5 hown hK hP 0 rfl rfl 12 (by decide) (hts (.fieldLink RX5 26 "PumpOathsModel" "firsts" "[I") (List.mem_of_getElem? (i := 5) rfl)) (fun _ h9 => h9) rfl dX5_can_130 ?_
    refine lv_iload_n hx hb dX5_can_133 rfl (lv_at hl 1 rfl) ?_
    refine va_iald (f := M.2.2 2) hx hb hK hP 6 0 rfl rfl (k_in (k := kk) rfl (by omega) (by decide)) dX5_can_134 ?_
    rw [show (nI kk : Int32).toNatClampNeg = kk from nI_clamp (by omega)]
    refine k_calli (a := []) (z := []) (wc := moW q cI cJ M) (wc' := moW q cI cJ M) (w' := moW q cI cJ M) (va_runV (As := [.int ((M.2.2 2) kk)]) (rest := []) ⟨hx, hb, hml, hown, hts⟩ (c_X5_isPump l D q cI cJ M ((M.2.2 2) kk) _) (cwV 1 hts gX5_can_X5_isPump rfl rfl rfl (by decide +kernel) ⟨Nat.le_of_ble_eq_true rfl, Nat.le_of_ble_eq_true rfl⟩) ⟨kB_blind, va_recv hK hP (ci := 5) (q0 := 0) rfl rfl, k_pre (a := []) (z := []) (k_w0 _) hK hP hD⟩ rfl rfl hl.1 rfl (lv_room (Nat.le_of_ble_eq_true rfl)) dX5_can_135 ⟨Nat.zero_le _, Nat.zero_le _⟩) (k_w0 _) (k_w0 _) (moW_ad _ _ _ _ _) hP hD hS hA (fun H locs hP hD hS => ?_)
    refine lv_if_eq (tgt := 167) hx hb dX5_can_138 (by decide) (fun c_138_7 => ?_) (fun c_138_7 => ?_)
    · have c_138_7 : (m_isP (M.2.1 0) ((M.2.2 2) kk)) = false := bi_0.mp c_138_7
      refine lv_iconst (v := 0) hx hb dX5_can_167 (by decide) ?_
      exact k_iret hx hb hr hlk hP hS dX5_can_168 rfl (by rw [A_X5_can_r, if_neg c_6_0, if_neg c_6_2, if_neg c_6_3, if_pos c_6_6, if_neg (bi_nt c_138_7)]) (fun h => h)
    · have c_138_7 : (m_isP (M.2.1 0) ((M.2.2 2) kk)) = true := bi_n.mp c_138_7
      obtain ⟨hp1, hp9⟩ := m_isPn c_138_7 hn hn6
      refine lv_aload_n hx hb dX5_can_141 rfl (lv_at hl 0 rfl) ?_
      refine va_get (D := D) (ci := 5) (v := .ref (q 1)) (C := RX5) (T := TX5) (N := 14) hx hb hts inX5 hown hK hP 0 rfl rfl 0 (by decide) (hts (.fieldLink RX5 7 "PumpOathsModel" "now" "[J") (List.mem_of_getElem? (i := 2) rfl)) (fun _ h9 => h9) rfl dX5_can_142 ?_
      refine lv_aload_n hx hb dX5_can_145 rfl (lv_at hl 0 rfl) ?_
      refine va_get (D := D) (ci := 5) (v := .ref (q 6)) (C := RX5) (T := TX5) (N := 14) hx hb hts inX5 hown hK hP 0 rfl rfl 12 (by decide) (hts (.fieldLink RX5 26 "PumpOathsModel" "firsts" "[I") (List.mem_of_getElem? (i := 5) rfl)) (fun _ h9 => h9) rfl dX5_can_146 ?_
      refine lv_iload_n hx hb dX5_can_149 rfl (lv_at hl 1 rfl) ?_
      refine va_iald (f := M.2.2 2) hx hb hK hP 6 0 rfl rfl (k_in (k := kk) rfl (by omega) (by decide)) dX5_can_150 ?_
      rw [show (nI kk : Int32).toNatClampNeg = kk from nI_clamp (by omega)]
      refine lv_iconst (v := 2) hx hb dX5_can_151 (by decide) ?_
      refine k_calli (a := []) (z := moW q cI cJ M) (wc := []) (wc' := []) (w' := moW q cI cJ M) (va_runS (As := [.int ((M.2.2 2) kk), .int 2]) (rest := [.ref (q 1)]) ⟨hx, hb, hml, hown, hts⟩ (c_X5_p l D cI cJ ((M.2.2 2) kk) 2 _) (cwS 2 hts gX5_can_X5_p rfl rfl rfl (by decide +kernel) ⟨Nat.le_of_ble_eq_true rfl, Nat.le_of_ble_eq_true rfl⟩) ⟨kB_blind, k_pre (a := []) (z := moW q cI cJ M) rfl hK hP hD⟩ rfl rfl hl.1 rfl (lv_room (Nat.le_of_ble_eq_true rfl)) dX5_can_152 ⟨Nat.zero_le _, Nat.zero_le _⟩) rfl rfl rfl hP hD hS hA (fun H locs hP hD hS => ?_)
      rw [show 48 + 8 * ((M.2.2 2) kk) + 2 = nI (48 + 8 * (M.2.2 2 kk).toNatClampNeg + 2) from (by rw [← k_p, hp9]; rfl)]
      refine va_lald (f := M.2.1 0) hx hb hK hP 1 1 rfl rfl (k_in (k := 48 + 8 * (M.2.2 2 kk).toNatClampNeg + 2) rfl (by omega) (by decide)) dX5_can_155 ?_
      rw [show (nI (48 + 8 * (M.2.2 2 kk).toNatClampNeg + 2) : Int32).toNatClampNeg = 48 + 8 * (M.2.2 2 kk).toNatClampNeg + 2 from nI_clamp (by omega)]
      refine lv_ldc2 (v := 2) hx hb hown (hts (.constantLong RX5 89 (2)) (List.mem_of_getElem? (i := 6) rfl)) dX5_can_156 ?_
      refine W.lcmp hx hb dX5_can_159 ?_
      refine lv_if_ne (tgt := 167) hx hb dX5_can_160 (by decide) (fun c_160_8 => ?_) (fun c_160_8 => ?_)
      · have c_160_8 : ¬ ((M.2.1 0) (48 + 8 * (M.2.2 2 kk).toNatClampNeg + 2)) = 2 := mt (lg_cmp_eq ((M.2.1 0) (48 + 8 * (M.2.2 2 kk).toNatClampNeg + 2)) 2).mpr c_160_8
        refine lv_iconst (v := 0) hx hb dX5_can_167 (by decide) ?_
        exact k_iret hx hb hr hlk hP hS dX5_can_168 rfl (by rw [A_X5_can_r, if_neg c_6_0, if_neg c_6_2, if_neg c_6_3, if_pos c_6_6, if_pos c_138_7, if_neg c_160_8]) (fun h => h)
      · have c_160_8 : ((M.2.1 0) (48 + 8 * (M.2.2 2 kk).toNatClampNeg + 2)) = 2 := (lg_cmp_eq ((M.2.1 0) (48 + 8 * (M.2.2 2 kk).toNatClampNeg + 2)) 2).mp c_160_8
        refine lv_iconst (v := 1) hx hb dX5_can_163 (by decide) ?_
        refine lv_goto (tgt := 168) hx hb dX5_can_164 (by decide) ?_
        exact k_iret hx hb hr hlk hP hS dX5_can_168 rfl (by rw [A_X5_can_r, if_neg c_6_0, if_neg c_6_2, if_neg c_6_3, if_pos c_6_6, if_pos c_138_7, if_pos c_160_8]) (fun h => h)
  refine lv_lookup (off := 163) (tgt := 169) hx hb dX5_can_6 (by decide) (k_look4 c_6_0 c_6_2 c_6_3 c_6_6) (by decide) ?_
  refine lv_iconst (v := 1) hx hb dX5_can_169 (by decide) ?_
  exact k_iret hx hb hr hlk hP hS dX5_can_170 rfl (by rw [A_X5_can_r, if_neg c_6_0, if_neg c_6_2, if_neg c_6_3, if_neg c_6_6]) (fun h => h)

def A_X5_does_s0 (M : MS) (n t kk : Nat) : MS := (if (M.2.2 1) kk = 100 then o_setV M 0 (vp_updL (M.2.1 0) (24 + (M.2.2 2 kk).toNatClampNeg) (((M.2.2 3) kk).toInt64)) else (if (M.2.2 1) kk = 109 then o_setV M 0 (itr (m_goB n t) (M.2.2 3 kk).toNatClampNeg (M.2.1 0)) else (if (M.2.2 1) kk = 111 then o_setV M 0 (vp_updL (M.2.1 0) (48 + 8 * (M.2.2 2 kk).toNatClampNeg + 1) (((M.2.2 3) kk).toInt64)) else (if ((M.2.2 1) kk) = 120 then o_setV M 0 (vp_updL (M.2.1 0) (48 + 8 * (M.2.2 2 kk).toNatClampNeg + 2) 2) else o_setV M 0 (vp_updL (M.2.1 0) (48 + 8 * (M.2.2 2 kk).toNatClampNeg + 2) 0)))))
set_option maxHeartbeats 1000000 in
set_option maxRecDepth 100000 in
theorem c_X5_does (l : Launch) (D : va_G) (q : Nat → Nat) (cI cJ : ClassId) (M : MS) (kk : Nat) (hkk : kk < 34) (hfd : M.2.2 1 kk = 100 → ∃ j, j < 24 ∧ M.2.2 2 kk = nI j) (hfp : ¬ M.2.2 1 kk = 100 → ¬ M.2.2 1 kk = 109 → m_isP (M.2.1 0) (M.2.2 2 kk) = true) (n t : Nat) (hok : m_ok (M.2.1 0) n t) (hn6 : n ≤ 6) (htb : t < 2 ^ 38) : kV l yX5_does wsX5_does ({ frames := 4, cells := 0, slots := 0, locals := 90 } : Room) D [(cI, .int), (cJ, .long)] [.ref (q 0), .int (nI kk)] (moW q cI cJ M) (moW q cI cJ (A_X5_does_s0 M n t kk)) := by
  refine kBody.met (cc := cX5_does) (maxL := 3) (ret := none) (by decide) rfl (Nat.le_of_ble_eq_true rfl) ?_
  intro p9 e9 s9 m9 below meth c9 A9 ls hx hb hr hml hts hown hlk hK hP hD hA hl
  have hown : s9.vm.findClass RX5 = some m9.cls := hown
  have inX5 : ∀ w ∈ wsX50, w ∈ wsX5_does := fun w h => List.mem_cons_of_mem _ (List.mem_append_right _ (h))
  have hS : va_S A9 s9.heap s9.heap [] := va_S.rf
  have hl : lv_has ls 3 [(0, .ref (q 0)), (1, .int (nI kk))] := hl
  have hcl := k_clt (M.2.2 3 kk)
  refine lv_aload_n hx hb dX5_does_0 rfl (lv_at hl 0 rfl) ?_
  refine va_get (D := D) (ci := 5) (v := .ref (q 5)) (C := RX5) (T := TX5) (N := 14) hx hb hts inX5 hown hK hP 0 rfl rfl 11 (by decide) (hts (.fieldLink RX5 23 "PumpOathsModel" "whats" "[I") (List.mem_of_getElem? (i := 1) rfl)) (fun _ h9 => h9) rfl dX5_does_1 ?_
  refine lv_iload_n hx hb dX5_does_4 rfl (lv_at hl 1 rfl) ?_
  refine va_iald (f := M.2.2 1) hx hb hK hP 5 0 rfl rfl (k_in (k := kk) rfl (by omega) (by decide)) dX5_does_5 ?_
  rw [show (nI kk : Int32).toNatClampNeg = kk from nI_clamp (by omega)]
  by_cases c_6_0 : (M.2.2 1) kk = 100
  · refine lv_lookup (off := 87) (tgt := 93) hx hb dX5_does_6 (by decide) (by rw [c_6_0]; decide) (by decide) ?_
    obtain ⟨j9, hj9, ej9⟩ := hfd c_6_0
    have h9 : nI (M.2.2 2 kk).toNatClampNeg = M.2.2 2 kk := by rw [ej9, nI_clamp (by omega)]
    have hb9 : (M.2.2 2 kk).toNatClampNeg < 24 := by rw [ej9, nI_clamp (by omega)]; exact hj9
    refine lv_aload_n hx hb dX5_does_93 rfl (lv_at hl 0 rfl) ?_
    refine va_get (D := D) (ci := 5) (v := .ref (q 1)) (C := RX5) (T := TX5) (N := 14) hx hb hts inX5 hown hK hP 0 rfl rfl 0 (by decide) (hts (.fieldLink RX5 7 "PumpOathsModel" "now" "[J") (List.mem_of_getElem? (i := 3) rfl)) (fun _ h9 => h9) rfl dX5_does_94 ?_
    refine lv_bipush (v := 24) hx hb dX5_does_97 (by decide) ?_
    refine lv_aload_n hx hb dX5_does_99 rfl (lv_at hl 0 rfl) ?_
    refine va_get (D := D) (ci := 5) (v := .ref (q 6)) (C := RX5) (T := TX5) (N := 14) hx hb hts inX5 hown hK hP 0 rfl rfl 12 (by decide) (hts (.fieldLink RX5 26 "PumpOathsModel" "firsts" "[I") (List.mem_of_getElem? (i := 4) rfl)) (fun _ h9 => h9) rfl dX5_does_100 ?_
    refine lv_iload_n hx hb dX5_does_103 rfl (lv_at hl 1 rfl) ?_
    refine va_iald (f := M.2.2 2) hx hb hK hP 6 0 rfl rfl (k_in (k := kk) rfl (by omega) (by decide)) dX5_does_104 ?_
    rw [show (nI kk : Int32).toNatClampNeg = kk from nI_clamp (by omega)]
    refine lv_iadd hx hb dX5_does_105 ?_
    refine lv_aload_n hx hb dX5_does_106 rfl (lv_at hl 0 rfl) ?_
    refine va_get (D := D) (ci := 5) (v := .ref (q 7)) (C := RX5) (T := TX5) (N := 14) hx hb hts inX5 hown hK hP 0 rfl rfl 13 (by decide) (hts (.fieldLink RX5 29 "PumpOathsModel" "seconds" "[I") (List.mem_of_getElem? (i := 2) rfl)) (fun _ h9 => h9) rfl dX5_does_107 ?_
    refine lv_iload_n hx hb dX5_does_110 rfl (lv_at hl 1 rfl) ?_
    refine va_iald (f := M.2.2 3) hx hb hK hP 7 0 rfl rfl (k_in (k := kk) rfl (by omega) (by decide)) dX5_does_111 ?_
    rw [show (nI kk : Int32).toNatClampNeg = kk from nI_clamp (by omega)]
    refine lv_i2l hx hb dX5_does_112 rfl ?_
    refine va_last (f := M.2.1 0) hx hb hK hP hD hS 1 1 rfl rfl (k_in (k := 24 + (M.2.2 2 kk).toNatClampNeg) (show 24 + M.2.2 2 kk = nI (24 + (M.2.2 2 kk).toNatClampNeg) from by rw [← nI_add, h9]; rfl) (by omega) (by decide)) dX5_does_113 (fun H locs hP hD hS => ?_)
    rw [show (24 + ((M.2.2 2) kk) : Int32).toNatClampNeg = 24 + (M.2.2 2 kk).toNatClampNeg from k_cl (show 24 + M.2.2 2 kk = nI (24 + (M.2.2 2 kk).toNatClampNeg) from by rw [← nI_add, h9]; rfl) (by omega)] at hP hD
    have hP : va_P D vwCl (moW q cI cJ (o_setV M 0 (vp_updL (M.2.1 0) (24 + (M.2.2 2 kk).toNatClampNeg) (((M.2.2 3) kk).toInt64)))) H := hP
    have hD : va_D A9 (moW q cI cJ (o_setV M 0 (vp_updL (M.2.1 0) (24 + (M.2.2 2 kk).toNatClampNeg) (((M.2.2 3) kk).toInt64)))) := hD
    obtain ⟨T_2, hT_2⟩ : ∃ T9, T9 = vp_updL (M.2.1 0) (24 + (M.2.2 2 kk).toNatClampNeg) (((M.2.2 3) kk).toInt64) := ⟨_, rfl⟩
    rw [← hT_2] at hP hD
    refine lv_goto (tgt := 150) hx hb dX5_does_114 (by decide) ?_
    exact k_vret hx hb hr hlk hP hS dX5_does_150 (k_P (congrArg (fun T9 => moW q cI cJ T9) (show (o_setV M 0 T_2) = (A_X5_does_s0 M n t kk) from by rw [hT_2, A_X5_does_s0, if_pos c_6_0])))
  by_cases c_6_2 : (M.2.2 1) kk = 109
  · refine lv_lookup (off := 34) (tgt := 40) hx hb dX5_does_6 (by decide) (by rw [c_6_2]; decide) (by decide) ?_
    refine lv_iconst (v := 0) hx hb dX5_does_40 (by decide) ?_
    refine lv_istore_n (lv' := [(2, .int 0), (0, .ref (q 0)), (1, .int (nI kk))]) hx hb dX5_does_41 rfl hl (by decide) rfl (fun ls hl => ?_)
    have L_42_3 : ∀ (d : Nat) (k : Nat) (f : Nat → Int64), (M.2.2 3 kk).toNatClampNeg < k + d → k ≤ (M.2.2 3 kk).toNatClampNeg → ∀  (e42 : itr (m_goB n t) k (M.2.1 0) = f) (hq : m_ok f n (t + k)) (H : Heap) (locs : List Loc) (ls : Array Slot), va_P D vwCl (moW q cI cJ (o_setV M 0 f)) H → va_D A9 (moW q cI cJ (o_setV M 0 f)) → va_S A9 s9.heap H locs → lv_has ls 3 [(0, .ref (q 0)), (1, .int (nI kk)), (2, .int (nI k))] → W p9 l e9 ({ frames := 4, cells := 0, slots := 0, locals := 90 } : Room) s9 m9 (List.toArray [.ref (q 0), .int (nI kk)]) below meth c9 H locs 0 0 (MQ below (va_Qv (fun (_ : Unit) => True) (fun _ t9 => va_P D vwCl (moW q cI cJ (A_X5_does_s0 M n t kk)) t9.heap) A9) (List.toArray [.ref (q 0), .int (nI kk)]) s9 0 0 A9) (F0 m9 42 ls []) := by
      intro d
      induction d with
      | zero =>
        intro k f hf
        intro hkn; exact absurd hf (by omega)
      | succ d ih_42 =>
        intro k f hf_42 hkn_42 e42 hq H locs ls hP hD hS hl
        refine lv_iload_n hx hb dX5_does_42 rfl (lv_at hl 2 rfl) ?_
        refine lv_aload_n hx hb dX5_does_43 rfl (lv_at hl 0 rfl) ?_
        refine va_get (D := D) (ci := 5) (v := .ref (q 7)) (C := RX5) (T := TX5) (N := 14) hx hb hts inX5 hown hK hP 0 rfl rfl 13 (by decide) (hts (.fieldLink RX5 29 "PumpOathsModel" "seconds" "[I") (List.mem_of_getElem? (i := 2) rfl)) (fun _ h9 => h9) rfl dX5_does_44 ?_
        refine lv_iload_n hx hb dX5_does_47 rfl (lv_at hl 1 rfl) ?_
        refine va_iald (f := M.2.2 3) hx hb hK hP 7 0 rfl rfl (k_in (k := kk) rfl (by omega) (by decide)) dX5_does_48 ?_
        rw [show (nI kk : Int32).toNatClampNeg = kk from nI_clamp (by omega)]
        refine lv_icmp_ge (tgt := 65) hx hb dX5_does_49 (by decide) (fun c_49_4 => ?_) (fun c_49_4 => ?_)
        · have c_49_4 : ((M.2.2 3) kk) ≤ (nI k) := c_49_4
          have hke_42 : (M.2.2 3 kk).toNatClampNeg = k := (k_exit c_49_4 hkn_42).symm
          subst hke_42
          subst e42
          refine lv_goto (tgt := 150) hx hb dX5_does_65 (by decide) ?_
          exact k_vret hx hb hr hlk hP hS dX5_does_150 (k_P (congrArg (fun T9 => moW q cI cJ T9) (show (o_setV M 0 (itr (m_goB n t) (M.2.2 3 kk).toNatClampNeg (M.2.1 0))) = (A_X5_does_s0 M n t kk) from by rw [A_X5_does_s0, if_neg c_6_0, if_pos c_6_2])))
        · have c_49_4 : ¬ ((M.2.2 3) kk) ≤ (nI k) := c_49_4
          have hkl_42 : k < (M.2.2 3 kk).toNatClampNeg := k_body c_49_4 hkn_42
          refine lv_aload_n hx hb dX5_does_52 rfl (lv_at hl 0 rfl) ?_
          refine va_get (D := D) (ci := 5) (v := .ref (q 1)) (C := RX5) (T := TX5) (N := 14) hx hb hts inX5 hown hK hP 0 rfl rfl 0 (by decide) (hts (.fieldLink RX5 7 "PumpOathsModel" "now" "[J") (List.mem_of_getElem? (i := 3) rfl)) (fun _ h9 => h9) rfl dX5_does_53 ?_
          refine k_callv (a := List.take 1 (moW q cI cJ (o_setV M 0 f))) (z := List.drop 2 (moW q cI cJ (o_setV M 0 f))) (wc := rwW (q 1) cJ f) (wc' := rwW (q 1) cJ (m_pass f n (t + k))) (w' := moW q cI cJ (o_setV M 0 (m_pass f n (t + k)))) (va_runS (As := [.ref (q 1)]) (rest := []) ⟨hx, hb, hml, hown, hts⟩ (c_X5_passes l D (q 1) cI cJ f n hq.1 hn6 hq.2.1 (t + k) hq.2.2 (by omega) _) (cwS 1 hts gX5_does_X5_passes rfl rfl rfl (by decide +kernel) ⟨Nat.le_of_ble_eq_true rfl, Nat.le_of_ble_eq_true rfl⟩) ⟨kB_blind, k_pre (a := List.take 1 (moW q cI cJ (o_setV M 0 f))) (z := List.drop 2 (moW q cI cJ (o_setV M 0 f))) rfl hK hP hD⟩ rfl rfl hl.1 rfl (lv_room (Nat.le_of_ble_eq_true rfl)) dX5_does_56 ⟨Nat.zero_le _, Nat.zero_le _⟩) rfl rfl (rwW_ad _ _ _ _) hP hD hS hA (fun H locs hP hD hS => ?_)
          refine lv_iinc (v := (nI k) + 1) (lv' := [(2, .int ((nI k) + 1)), (0, .ref (q 0)), (1, .int (nI kk))]) hx hb dX5_does_59 hl (k := 2) rfl rfl (by decide) rfl (fun ls hl => ?_)
          refine lv_goto (tgt := 42) hx hb dX5_does_62 (by decide) ?_
          rw [show ((nI k) + 1) = (nI (k + 1)) from nI_1 _] at hl
          exact ih_42 (k + 1) (m_pass f n (t + k)) (by omega) (by omega) (by rw [itr_s, e42]; simp [m_goB, c_6_0, c_6_2, c_49_4]) (m_pass_ok hq hn6 (by omega)) _ _ _ hP hD hS (lv_sub hl [1, 2, 0] rfl)
    exact L_42_3 ((M.2.2 3 kk).toNatClampNeg + 1) 0 (M.2.1 0) (by omega) (by omega) (rfl) (hok) _ _ _ hP hD hS (lv_sub hl [1, 2, 0] rfl)
  by_cases c_6_5 : (M.2.2 1) kk = 111
  · refine lv_lookup (off := 62) (tgt := 68) hx hb dX5_does_6 (by decide) (by rw [c_6_5]; decide) (by decide) ?_
    obtain ⟨hp1, hp9⟩ := m_isPn (hfp (by rw [c_6_5]; decide) (by rw [c_6_5]; decide)) hok.1 hn6
    refine lv_aload_n hx hb dX5_does_68 rfl (lv_at hl 0 rfl) ?_
    refine va_get (D := D) (ci := 5) (v := .ref (q 1)) (C := RX5) (T := TX5) (N := 14) hx hb hts inX5 hown hK hP 0 rfl rfl 0 (by decide) (hts (.fieldLink RX5 7 "PumpOathsModel" "now" "[J") (List.mem_of_getElem? (i := 3) rfl)) (fun _ h9 => h9) rfl dX5_does_69 ?_
    refine lv_aload_n hx hb dX5_does_72 rfl (lv_at hl 0 rfl) ?_
    refine va_get (D := D) (ci := 5) (v := .ref (q 6)) (C := RX5) (T := TX5) (N := 14) hx hb hts inX5 hown hK hP 0 rfl rfl 12 (by decide) (hts (.fieldLink RX5 26 "PumpOathsModel" "firsts" "[I") (List.mem_of_getElem? (i := 4) rfl)) (fun _ h9 => h9) rfl dX5_does_73 ?_
    refine lv_iload_n hx hb dX5_does_76 rfl (lv_at hl 1 rfl) ?_
    refine va_iald (f := M.2.2 2) hx hb hK hP 6 0 rfl rfl (k_in (k := kk) rfl (by omega) (by decide)) dX5_does_77 ?_
    rw [show (nI kk : Int32).toNatClampNeg = kk from nI_clamp (by omega)]
    refine lv_iconst (v := 1) hx hb dX5_does_78 (by decide) ?_
    refine k_calli (a := []) (z := moW q cI cJ M) (wc := []) (wc' := []) (w' := moW q cI cJ M) (va_runS (As := [.int ((M.2.2 2) kk), .int 1]) (rest := [.ref (q 1)]) ⟨hx, hb, hml, hown, hts⟩ (c_X5_p l D cI cJ ((M.2.2 2) kk) 1 _) (cwS 2 hts gX5_does_X5_p rfl rfl rfl (by decide +kernel) ⟨Nat.le_of_ble_eq_true rfl, Nat.le_of_ble_eq_true rfl⟩) ⟨kB_blind, k_pre (a := []) (z := moW q cI cJ M) rfl hK hP hD⟩ rfl rfl hl.1 rfl (lv_room (Nat.le_of_ble_eq_true rfl)) dX5_does_79 ⟨Nat.zero_le _, Nat.zero_le _⟩) rfl rfl rfl hP hD hS hA (fun H locs hP hD hS => ?_)
    rw [show 48 + 8 * ((M.2.2 2) kk) + 1 = nI (48 + 8 * (M.2.2 2 kk).toNatClampNeg + 1) from (by rw [← k_p, hp9]; rfl)]
    refine lv_aload_n hx hb dX5_does_82 rfl (lv_at hl 0 rfl) ?_
    refine va_get (D := D) (ci := 5) (v := .ref (q 7)) (C := RX5) (T := TX5) (N := 14) hx hb hts inX5 hown hK hP 0 rfl rfl 13 (by decide) (hts (.fieldLink RX5 29 "PumpOathsModel" "seconds" "[I") (List.mem_of_getElem? (i := 2) rfl)) (fun _ h9 => h9) rfl dX5_does_83 ?_
    refine lv_iload_n hx hb dX5_does_86 rfl (lv_at hl 1 rfl) ?_
    refine va_iald (f := M.2.2 3) hx hb hK hP 7 0 rfl rfl (k_in (k := kk) rfl (by omega) (by decide)) dX5_does_87 ?_
    rw [show (nI kk : Int32).toNatClampNeg = kk from nI_clamp (by omega)]
    refine lv_i2l hx hb dX5_does_88 rfl ?_
    refine va_last (f := M.2.1 0) hx hb hK hP hD hS 1 1 rfl rfl (k_in (k := 48 + 8 * (M.2.2 2 kk).toNatClampNeg + 1) rfl (by omega) (by decide)) dX5_does_89 (fun H locs hP hD hS => ?_)
    rw [show (nI (48 + 8 * (M.2.2 2 kk).toNatClampNeg + 1) : Int32).toNatClampNeg = 48 + 8 * (M.2.2 2 kk).toNatClampNeg + 1 from nI_clamp (by omega)] at hP hD
    have hP : va_P D vwCl (moW q cI cJ (o_setV M 0 (vp_updL (M.2.1 0) (48 + 8 * (M.2.2 2 kk).toNatClampNeg + 1) (((M.2.2 3) kk).toInt64)))) H := hP
    have hD : va_D A9 (moW q cI cJ (o_setV M 0 (vp_updL (M.2.1 0) (48 + 8 * (M.2.2 2 kk).toNatClampNeg + 1) (((M.2.2 3) kk).toInt64)))) := hD
    obtain ⟨T_7, hT_7⟩ : ∃ T9, T9 = vp_updL (M.2.1 0) (48 + 8 * (M.2.2 2 kk).toNatClampNeg + 1) (((M.2.2 3) kk).toInt64) := ⟨_, rfl⟩
    rw [← hT_7] at hP hD
    refine lv_goto (tgt := 150) hx hb dX5_does_90 (by decide) ?_
    exact k_vret hx hb hr hlk hP hS dX5_does_150 (k_P (congrArg (fun T9 => moW q cI cJ T9) (show (o_setV M 0 T_7) = (A_X5_does_s0 M n t kk) from by rw [hT_7, A_X5_does_s0, if_neg c_6_0, if_neg c_6_2, if_pos c_6_5])))
  refine lv_lookup (off := 111) (tgt := 117) hx hb dX5_does_6 (by decide) (k_look3 c_6_0 c_6_2 c_6_5) (by decide) ?_
  obtain ⟨hp1, hp9⟩ := m_isPn (hfp c_6_0 c_6_2) hok.1 hn6
  refine lv_aload_n hx hb dX5_does_117 rfl (lv_at hl 0 rfl) ?_
  refine va_get (D := D) (ci := 5) (v := .ref (q 1)) (C := RX5) (T := TX5) (N := 14) hx hb hts inX5 hown hK hP 0 rfl rfl 0 (by decide) (hts (.fieldLink RX5 7 "PumpOathsModel" "now" "[J") (List.mem_of_getElem? (i := 3) rfl)) (fun _ h9 => h9) rfl dX5_does_118 ?_
  refine lv_aload_n hx hb dX5_does_121 rfl (lv_at hl 0 rfl) ?_
  refine va_get (D := D) (ci := 5) (v := .ref (q 6)) (C := RX5) (T := TX5) (N := 14) hx hb hts inX5 hown hK hP 0 rfl rfl 12 (by decide) (hts (.fieldLink RX5 26 "PumpOathsModel" "firsts" "[I") (List.mem_of_getElem? (i := 4) rfl)) (fun _ h9 => h9) rfl dX5_does_122 ?_
  refine lv_iload_n hx hb dX5_does_125 rfl (lv_at hl 1 rfl) ?_
  refine va_iald (f := M.2.2 2) hx hb hK hP 6 0 rfl rfl (k_in (k := kk) rfl (by omega) (by decide)) dX5_does_126 ?_
  rw [show (nI kk : Int32).toNatClampNeg = kk from nI_clamp (by omega)]
  refine lv_iconst (v := 2) hx hb dX5_does_127 (by decide) ?_
  refine k_calli (a := []) (z := moW q cI cJ M) (wc := []) (wc' := []) (w' := moW q cI cJ M) (va_runS (As := [.int ((M.2.2 2) kk), .int 2]) (rest := [.ref (q 1)]) ⟨hx, hb, hml, hown, hts⟩ (c_X5_p l D cI cJ ((M.2.2 2) kk) 2 _) (cwS 2 hts gX5_does_X5_p rfl rfl rfl (by decide +kernel) ⟨Nat.le_of_ble_eq_true rfl, Nat.le_of_ble_eq_true rfl⟩) ⟨kB_blind, k_pre (a := []) (z := moW q cI cJ M) rfl hK hP hD⟩ rfl rfl hl.1 rfl (lv_room (Nat.le_of_ble_eq_true rfl)) dX5_does_128 ⟨Nat.zero_le _, Nat.zero_le _⟩) rfl rfl rfl hP hD hS hA (fun H locs hP hD hS => ?_)
  rw [show 48 + 8 * ((M.2.2 2) kk) + 2 = nI (48 + 8 * (M.2.2 2 kk).toNatClampNeg + 2) from (by rw [← k_p, hp9]; rfl)]
  refine lv_aload_n hx hb dX5_does_131 rfl (lv_at hl 0 rfl) ?_
  refine va_get (D := D) (ci := 5) (v := .ref (q 5)) (C := RX5) (T := TX5) (N := 14) hx hb hts inX5 hown hK hP 0 rfl rfl 11 (by decide) (hts (.fieldLink RX5 23 "PumpOathsModel" "whats" "[I") (List.mem_of_getElem? (i := 1) rfl)) (fun _ h9 => h9) rfl dX5_does_132 ?_
  refine lv_iload_n hx hb dX5_does_135 rfl (lv_at hl 1 rfl) ?_
  refine va_iald (f := M.2.2 1) hx hb hK hP 5 0 rfl rfl (k_in (k := kk) rfl (by omega) (by decide)) dX5_does_136 ?_
  rw [show (nI kk : Int32).toNatClampNeg = kk from nI_clamp (by omega)]
  refine lv_bipush (v := 120) hx hb dX5_does_137 (by decide) ?_
  refine lv_icmp_ne (tgt := 148) hx hb dX5_does_139 (by decide) (fun c_139_7 => ?_) (fun c_139_7 => ?_)
  · have c_139_7 : ¬ ((M.2.2 1) kk) = 120 := c_139_7
    refine lv_lconst (v := 0) hx hb dX5_does_148 (by decide) ?_
    refine va_last (f := M.2.1 0) hx hb hK hP hD hS 1 1 rfl rfl (k_in (k := 48 + 8 * (M.2.2 2 kk).toNatClampNeg + 2) rfl (by omega) (by decide)) dX5_does_149 (fun H locs hP hD hS => ?_)
    rw [show (nI (48 + 8 * (M.2.2 2 kk).toNatClampNeg + 2) : Int32).toNatClampNeg = 48 + 8 * (M.2.2 2 kk).toNatClampNeg + 2 from nI_clamp (by omega)] at hP hD
    have hP : va_P D vwCl (moW q cI cJ (o_setV M 0 (vp_updL (M.2.1 0) (48 + 8 * (M.2.2 2 kk).toNatClampNeg + 2) 0))) H := hP
    have hD : va_D A9 (moW q cI cJ (o_setV M 0 (vp_updL (M.2.1 0) (48 + 8 * (M.2.2 2 kk).toNatClampNeg + 2) 0))) := hD
    obtain ⟨T_9, hT_9⟩ : ∃ T9, T9 = vp_updL (M.2.1 0) (48 + 8 * (M.2.2 2 kk).toNatClampNeg + 2) 0 := ⟨_, rfl⟩
    rw [← hT_9] at hP hD
    exact k_vret hx hb hr hlk hP hS dX5_does_150 (k_P (congrArg (fun T9 => moW q cI cJ T9) (show (o_setV M 0 T_9) = (A_X5_does_s0 M n t kk) from by rw [hT_9, A_X5_does_s0, if_neg c_6_0, if_neg c_6_2, if_neg c_6_5, if_neg c_139_7])))
  · have c_139_7 : ((M.2.2 1) kk) = 120 := c_139_7
    refine lv_ldc2 (v := 2) hx hb hown (hts (.constantLong RX5 89 (2)) (List.mem_of_getElem? (i := 5) rfl)) dX5_does_142 ?_
    refine lv_goto (tgt := 149) hx hb dX5_does_145 (by decide) ?_
    refine va_last (f := M.2.1 0) hx hb hK hP hD hS 1 1 rfl rfl (k_in (k := 48 + 8 * (M.2.2 2 kk).toNatClampNeg + 2) rfl (by omega) (by decide)) dX5_does_149 (fun H locs hP hD hS => ?_)
    rw [show (nI (48 + 8 * (M.2.2 2 kk).toNatClampNeg + 2) : Int32).toNatClampNeg = 48 + 8 * (M.2.2 2 kk).toNatClampNeg + 2 from nI_clamp (by omega)] at hP hD
    have hP : va_P D vwCl (moW q cI cJ (o_setV M 0 (vp_updL (M.2.1 0) (48 + 8 * (M.2.2 2 kk).toNatClampNeg + 2) 2))) H := hP
    have hD : va_D A9 (moW q cI cJ (o_setV M 0 (vp_updL (M.2.1 0) (48 + 8 * (M.2.2 2 kk).toNatClampNeg + 2) 2))) := hD
    obtain ⟨T_10, hT_10⟩ : ∃ T9, T9 = vp_updL (M.2.1 0) (48 + 8 * (M.2.2 2 kk).toNatClampNeg + 2) 2 := ⟨_, rfl⟩
    rw [← hT_10] at hP hD
    exact k_vret hx hb hr hlk hP hS dX5_does_150 (k_P (congrArg (fun T9 => moW q cI cJ T9) (show (o_setV M 0 T_10) = (A_X5_does_s0 M n t kk) from by rw [hT_10, A_X5_does_s0, if_neg c_6_0, if_neg c_6_2, if_neg c_6_5, if_pos c_139_7])))
