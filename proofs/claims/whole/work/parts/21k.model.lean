set_option maxHeartbeats 1000000 in
set_option maxRecDepth 100000 in
theorem c_X5_started (l : Launch) (D : va_G) (q : Nat → Nat) (cI cJ : ClassId) (M : MS) (n : Nat) (hn : M.2.1 0 7 = lN n) (hn6 : n ≤ 6) : kI l yX5_started wsX5_started ({ frames := 1, cells := 0, slots := 0, locals := 21 } : Room) D [(cI, .int), (cJ, .long)] [.ref (q 0)] (moW q cI cJ M) (o_started (M.2.1 1) (M.2.1 0) n) (moW q cI cJ M) := by
  refine kBody.met (cc := cX5_started) (maxL := 2) (ret := (some .int)) (by decide) rfl (Nat.le_of_ble_eq_true rfl) ?_
  intro p9 e9 s9 m9 below meth c9 A9 ls hx hb hr hml hts hown hlk hK hP hD hA hl
  have hown : s9.vm.findClass RX5 = some m9.cls := hown
  have inX5 : ∀ w ∈ wsX50, w ∈ wsX5_started := fun w h => List.mem_cons_of_mem _ (List.mem_append_right _ (h))
  have hS : va_S A9 s9.heap s9.heap [] := va_S.rf
  have hl : lv_has ls 2 [(0, .ref (q 0))] := hl
  refine lv_iconst (v := 0) hx hb dX5_started_0 (by decide) ?_
  refine lv_istore_n (lv' := [(1, .int 0), (0, .ref (q 0))]) hx hb dX5_started_1 rfl hl (by decide) rfl (fun ls hl => ?_)
  have L_2_0 : ∀ (d : Nat) (k : Nat), n < k + d → k ≤ n → ∀  (hno : ∀ i, i < k → o_startedP (M.2.1 1) (M.2.1 0) i = false) (H : Heap) (locs : List Loc) (ls : Array Slot), va_P D vwCl (moW q cI cJ M) H → va_D A9 (moW q cI cJ M) → va_S A9 s9.heap H locs → lv_has ls 2 [(0, .ref (q 0)), (1, .int (nI k))] → W p9 l e9 ({ frames := 1, cells := 0, slots := 0, locals := 21 } : Room) s9 m9 (List.toArray [.ref (q 0)]) below meth c9 H locs 0 0 (MQ below (va_Qi (fun r (_ : Unit) => r = (o_started (M.2.1 1) (M.2.1 0) n)) (fun _ t9 => va_P D vwCl (moW q cI cJ M) t9.heap) A9) (List.toArray [.ref (q 0)]) s9 0 0 A9) (F0 m9 2 ls []) := by
    intro d
    induction d with
    | zero =>
      intro k  hf
      intro hkn; exact absurd hf (by omega)
    | succ d ih_2 =>
      intro k  hf_2 hkn_2 hno H locs ls hP hD hS hl
      refine lv_iload_n hx hb dX5_started_2 rfl (lv_at hl 1 rfl) ?_
      refine lv_i2l hx hb dX5_started_3 rfl ?_
      refine lv_aload_n hx hb dX5_started_4 rfl (lv_at hl 0 rfl) ?_
      refine va_get (D := D) (ci := 5) (v := .ref (q 1)) (C := RX5) (T := TX5) (N := 14) hx hb hts inX5 hown hK hP 0 rfl rfl 0 (by decide) (hts (.fieldLink RX5 7 "PumpOathsModel" "now" "[J") (List.mem_of_getElem? (i := 1) rfl)) (fun _ h9 => h9) rfl dX5_started_5 ?_
      refine lv_bipush (v := 7) hx hb dX5_started_8 (by decide) ?_
      refine va_lald (f := M.2.1 0) hx hb hK hP 1 1 rfl rfl (k_in (k := 7) rfl (by decide) (by decide)) dX5_started_10 ?_
      rw [show (7 : Int32).toNatClampNeg = 7 from rfl]
      refine W.lcmp hx hb dX5_started_11 ?_
      refine lv_if_ge (tgt := 47) hx hb dX5_started_12 (by decide) (fun c_12_1 => ?_) (fun c_12_1 => ?_)
      · have c_12_1 : ((M.2.1 0) 7) ≤ ((nI k).toInt64) := (lg_cmp_ge ((nI k).toInt64) ((M.2.1 0) 7)).mp c_12_1
        have hke_2 : n = k := (k_exitL c_12_1 hn hkn_2 (by omega)).symm
        subst hke_2
        refine lv_iconst (v := (-1)) hx hb dX5_started_47 (by decide) ?_
        exact k_iret hx hb hr hlk hP hS dX5_started_48 rfl (by rw [o_started, frst_none hno, if_neg (Nat.lt_irrefl _)]) (fun h => h)
      · have c_12_1 : ¬ ((M.2.1 0) 7) ≤ ((nI k).toInt64) := mt (lg_cmp_ge ((nI k).toInt64) ((M.2.1 0) 7)).mpr c_12_1
        have hkl_2 : k < n := k_bodyL c_12_1 hn hkn_2 (by omega)
        refine lv_aload_n hx hb dX5_started_15 rfl (lv_at hl 0 rfl) ?_
        refine va_get (D := D) (ci := 5) (v := .ref (q 2)) (C := RX5) (T := TX5) (N := 14) hx hb hts inX5 hown hK hP 0 rfl rfl 1 (by decide) (hts (.fieldLink RX5 13 "PumpOathsModel" "tried" "[J") (List.mem_of_getElem? (i := 2) rfl)) (fun _ h9 => h9) rfl dX5_started_16 ?_
        refine lv_iload_n hx hb dX5_started_19 rfl (lv_at hl 1 rfl) ?_
        refine lv_iconst (v := 4) hx hb dX5_started_20 (by decide) ?_
        refine k_calli (a := []) (z := moW q cI cJ M) (wc := []) (wc' := []) (w' := moW q cI cJ M) (va_runS (As := [.int (nI k), .int 4]) (rest := [.ref (q 2)]) ⟨hx, hb, hml, hown, hts⟩ (c_X5_p l D cI cJ (nI k) 4 _) (cwS 2 hts gX5_started_X5_p rfl rfl rfl (by decide +kernel) ⟨Nat.le_of_ble_eq_true rfl, Nat.le_of_ble_eq_true rfl⟩) ⟨kB_blind, k_pre (a := []) (z := moW q cI cJ M) rfl hK hP hD⟩ rfl rfl hl.1 rfl (lv_room (Nat.le_of_ble_eq_true rfl)) dX5_started_21 ⟨Nat.zero_le _, Nat.zero_le _⟩) rfl rfl rfl hP hD hS hA (fun H locs hP hD hS => ?_)
        rw [show 48 + 8 * (nI k) + 4 = nI (48 + 8 * k + 4) from k_p k 4]
        refine va_lald (f := M.2.1 1) hx hb hK hP 2 1 rfl rfl (k_in (k := 48 + 8 * k + 4) rfl (by omega) (by decide)) dX5_started_24 ?_
        rw [show (nI (48 + 8 * k + 4) : Int32).toNatClampNeg = 48 + 8 * k + 4 from nI_clamp (by omega)]
        refine lv_aload_n hx hb dX5_started_25 rfl (lv_at hl 0 rfl) ?_
        refine va_get (D := D) (ci := 5) (v := .ref (q 1)) (C := RX5) (T := TX5) (N := 14) hx hb hts inX5 hown hK hP 0 rfl rfl 0 (by decide) (hts (.fieldLink RX5 7 "PumpOathsModel" "now" "[J") (List.mem_of_getElem? (i := 1) rfl)) (fun _ h9 => h9) rfl dX5_started_26 ?_
        refine lv_iload_n hx hb dX5_started_29 rfl (lv_at hl 1 rfl) ?_
        refine lv_iconst (v := 4) hx hb dX5_started_30 (by decide) ?_
        refine k_calli (a := []) (z := moW q cI cJ M) (wc := []) (wc' := []) (w' := moW q cI cJ M) (va_runS (As := [.int (nI k), .int 4]) (rest := [.ref (q 1), .long ((M.2.1 1) (48 + 8 * k + 4))]) ⟨hx, hb, hml, hown, hts⟩ (c_X5_p l D cI cJ (nI k) 4 _) (cwS 2 hts gX5_started_X5_p rfl rfl rfl (by decide +kernel) ⟨Nat.le_of_ble_eq_true rfl, Nat.le_of_ble_eq_true rfl⟩) ⟨kB_blind, k_pre (a := []) (z := moW q cI cJ M) rfl hK hP hD⟩ rfl rfl hl.1 rfl (lv_room (Nat.le_of_ble_eq_true rfl)) dX5_started_31 ⟨Nat.zero_le _, Nat.zero_le _⟩) rfl rfl rfl hP hD hS hA (fun H locs hP hD hS => ?_)
        rw [show 48 + 8 * (nI k) + 4 = nI (48 + 8 * k + 4) from k_p k 4]
        refine va_lald (f := M.2.1 0) hx hb hK hP 1 1 rfl rfl (k_in (k := 48 + 8 * k + 4) rfl (by omega) (by decide)) dX5_started_34 ?_
        rw [show (nI (48 + 8 * k + 4) : Int32).toNatClampNeg = 48 + 8 * k + 4 from nI_clamp (by omega)]
        refine W.lcmp hx hb dX5_started_35 ?_
        refine lv_if_le (tgt := 41) hx hb dX5_started_36 (by decide) (fun c_36_2 => ?_) (fun c_36_2 => ?_)
        · have c_36_2 : ((M.2.1 1) (48 + 8 * k + 4)) ≤ ((M.2.1 0) (48 + 8 * k + 4)) := (lg_cmp_le ((M.2.1 1) (48 + 8 * k + 4)) ((M.2.1 0) (48 + 8 * k + 4))).mp c_36_2
          refine lv_iinc (v := (nI k) + 1) (lv' := [(1, .int ((nI k) + 1)), (0, .ref (q 0))]) hx hb dX5_started_41 hl (k := 1) rfl rfl (by decide) rfl (fun ls hl => ?_)
          refine lv_goto (tgt := 2) hx hb dX5_started_44 (by decide) ?_
          rw [show ((nI k) + 1) = (nI (k + 1)) from nI_1 _] at hl
          exact ih_2 (k + 1) (by omega) (by omega) (k_ext hno (by simp [o_startedP, c_12_1, c_36_2])) _ _ _ hP hD hS (lv_sub hl [1, 0] rfl)
        · have c_36_2 : ¬ ((M.2.1 1) (48 + 8 * k + 4)) ≤ ((M.2.1 0) (48 + 8 * k + 4)) := mt (lg_cmp_le ((M.2.1 1) (48 + 8 * k + 4)) ((M.2.1 0) (48 + 8 * k + 4))).mpr c_36_2
          refine lv_iload_n hx hb dX5_started_39 rfl (lv_at hl 1 rfl) ?_
          exact k_iret hx hb hr hlk hP hS dX5_started_40 rfl (by rw [o_started, frst_some (by simp [o_startedP, c_12_1, c_36_2]) hno hkl_2, if_pos hkl_2]) (fun h => h)
  exact L_2_0 (n + 1) 0 (by omega) (by omega) (fun i hi => absurd hi (Nat.not_lt_zero _)) _ _ _ hP hD hS (lv_sub hl [1, 0] rfl)

set_option maxHeartbeats 1000000 in
set_option maxRecDepth 100000 in
theorem c_X5_nextStart (l : Launch) (D : va_G) (q : Nat → Nat) (cI cJ : ClassId) (M : MS) (n t : Nat) (hok : m_ok (M.2.1 0) n t) (hn6 : n ≤ 6) (htb : t < 2 ^ 38) : kI l yX5_nextStart wsX5_nextStart ({ frames := 4, cells := 0, slots := 0, locals := 90 } : Room) D [(cI, .int), (cJ, .long)] [.ref (q 0)] (moW q cI cJ M) (o_started (o_nsRow (M.2.1 0) n t) (M.2.1 0) n) (moW q cI cJ (o_setV (o_setI M 2 0) 1 (o_nsRow (M.2.1 0) n t))) := by
  refine kBody.met (cc := cX5_nextStart) (maxL := 2) (ret := (some .int)) (by decide) rfl (Nat.le_of_ble_eq_true rfl) ?_
  intro p9 e9 s9 m9 below meth c9 A9 ls hx hb hr hml hts hown hlk hK hP hD hA hl
  have hown : s9.vm.findClass RX5 = some m9.cls := hown
  have inX5 : ∀ w ∈ wsX50, w ∈ wsX5_nextStart := fun w h => List.mem_cons_of_mem _ (List.mem_append_right _ (h))
  have hS : va_S A9 s9.heap s9.heap [] := va_S.rf
  have hl : lv_has ls 2 [(0, .ref (q 0))] := hl
  refine lv_aload_n hx hb dX5_nextStart_0 rfl (lv_at hl 0 rfl) ?_
  refine lv_iconst (v := 0) hx hb dX5_nextStart_1 (by decide) ?_
  refine lv_iconst (v := 0) hx hb dX5_nextStart_2 (by decide) ?_
  refine k_calli (a := []) (z := []) (wc := moW q cI cJ M) (wc' := moW q cI cJ (o_setI M 2 0)) (w' := moW q cI cJ (o_setI M 2 0)) (va_runV (As := [.int 0, .int 0]) (rest := []) ⟨hx, hb, hml, hown, hts⟩ (c_X5_goes00 l D q cI cJ M _) (cwV 2 hts gX5_nextStart_X5_goes rfl rfl rfl (by decide +kernel) ⟨Nat.le_of_ble_eq_true rfl, Nat.le_of_ble_eq_true rfl⟩) ⟨kB_blind, va_recv hK hP (ci := 5) (q0 := 0) rfl rfl, k_pre (a := []) (z := []) (k_w0 _) hK hP hD⟩ rfl rfl hl.1 rfl (lv_room (Nat.le_of_ble_eq_true rfl)) dX5_nextStart_3 ⟨Nat.zero_le _, Nat.zero_le _⟩) (k_w0 _) (k_w0 _) (moW_ad _ _ _ _ _) hP hD hS hA (fun H locs hP hD hS => ?_)
  refine lv_pop hx hb dX5_nextStart_6 rfl ?_
  refine lv_aload_n hx hb dX5_nextStart_7 rfl (lv_at hl 0 rfl) ?_
  refine k_callv (a := []) (z := []) (wc := moW q cI cJ (o_setI M 2 0)) (wc' := moW q cI cJ (o_setV (o_setI M 2 0) 1 (M.2.1 0))) (w' := moW q cI cJ (o_setV (o_setI M 2 0) 1 (M.2.1 0))) (va_runV (As := []) (rest := []) ⟨hx, hb, hml, hown, hts⟩ (c_X5_tries l D q cI cJ (o_setI M 2 0) _) (cwV 0 hts gX5_nextStart_X5_tries rfl rfl rfl (by decide +kernel) ⟨Nat.le_of_ble_eq_true rfl, Nat.le_of_ble_eq_true rfl⟩) ⟨kB_blind, va_recv hK hP (ci := 5) (q0 := 0) rfl rfl, k_pre (a := []) (z := []) (k_w0 _) hK hP hD⟩ rfl rfl hl.1 rfl (lv_room (Nat.le_of_ble_eq_true rfl)) dX5_nextStart_8 ⟨Nat.zero_le _, Nat.zero_le _⟩) (k_w0 _) (k_w0 _) (moW_ad _ _ _ _ _) hP hD hS hA (fun H locs hP hD hS => ?_)
  refine lv_iconst (v := 0) hx hb dX5_nextStart_11 (by decide) ?_
  refine lv_istore_n (lv' := [(1, .int 0), (0, .ref (q 0))]) hx hb dX5_nextStart_12 rfl hl (by decide) rfl (fun ls hl => ?_)
  have L_13_0 : ∀ (d : Nat) (k : Nat) (g : Nat → Int64), 1440 < k + d → k ≤ 1440 → ∀  (e13 : itr (m_goB n t) k (M.2.1 0) = g) (hq : m_ok g n (t + k)) (hno : ∀ j, j < k → decide (¬ o_started (itr (m_goB n t) j (M.2.1 0)) (M.2.1 0) n = -1) = false) (H : Heap) (locs : List Loc) (ls : Array Slot), va_P D vwCl (moW q cI cJ (o_setV (o_setI M 2 0) 1 g)) H → va_D A9 (moW q cI cJ (o_setV (o_setI M 2 0) 1 g)) → va_S A9 s9.heap H locs → lv_has ls 2 [(0, .ref (q 0)), (1, .int (nI k))] → W p9 l e9 ({ frames := 4, cells := 0, slots := 0, locals := 90 } : Room) s9 m9 (List.toArray [.ref (q 0)]) below meth c9 H locs 0 0 (MQ below (va_Qi (fun r (_ : Unit) => r = (o_started (o_nsRow (M.2.1 0) n t) (M.2.1 0) n)) (fun _ t9 => va_P D vwCl (moW q cI cJ (o_setV (o_setI M 2 0) 1 (o_nsRow (M.2.1 0) n t))) t9.heap) A9) (List.toArray [.ref (q 0)]) s9 0 0 A9) (F0 m9 13 ls []) := by
    intro d
    induction d with
    | zero =>
      intro k g hf
      intro hkn; exact absurd hf (by omega)
    | succ d ih_13 =>
      intro k g hf_13 hkn_13 e13 hq hno H locs ls hP hD hS hl
      refine lv_iload_n hx hb dX5_nextStart_13 rfl (lv_at hl 1 rfl) ?_
      refine lv_sipush (v := 1440) hx hb dX5_nextStart_14 (by decide) ?_
      refine lv_icmp_ge (tgt := 41) hx hb dX5_nextStart_17 (by decide) (fun c_17_1 => ?_) (fun c_17_1 => ?_)
      · have c_17_1 : 1440 ≤ (nI k) := c_17_1
        have hR : o_nsRow (M.2.1 0) n t = g := by
          have hke : k = 1440 := k_exitN c_17_1 rfl hkn_13 (by decide)
          have ha : o_nsAt (M.2.1 0) n t = 1440 := frst_none (by rw [← hke]; exact hno)
          rw [o_nsRow, ha, ← hke, e13]
        refine lv_aload_n hx hb dX5_nextStart_41 rfl (lv_at hl 0 rfl) ?_
        refine k_calli (a := []) (z := []) (wc := moW q cI cJ (o_setV (o_setI M 2 0) 1 g)) (wc' := moW q cI cJ (o_setV (o_setI M 2 0) 1 g)) (w' := moW q cI cJ (o_setV (o_setI M 2 0) 1 g)) (va_runV (As := []) (rest := []) ⟨hx, hb, hml, hown, hts⟩ (c_X5_started l D q cI cJ (o_setV (o_setI M 2 0) 1 g) n hok.1 hn6 _) (cwV 0 hts gX5_nextStart_X5_started rfl rfl rfl (by decide +kernel) ⟨Nat.le_of_ble_eq_true rfl, Nat.le_of_ble_eq_true rfl⟩) ⟨kB_blind, va_recv hK hP (ci := 5) (q0 := 0) rfl rfl, k_pre (a := []) (z := []) (k_w0 _) hK hP hD⟩ rfl rfl hl.1 rfl (lv_room (Nat.le_of_ble_eq_true rfl)) dX5_nextStart_42 ⟨Nat.zero_le _, Nat.zero_le _⟩) (k_w0 _) (k_w0 _) (moW_ad _ _ _ _ _) hP hD hS hA (fun H locs hP hD hS => ?_)
        rw [show o_started ((o_setV (o_setI M 2 0) 1 g).2.1 1) ((o_setV (o_setI M 2 0) 1 g).2.1 0) n = o_started g (M.2.1 0) n from rfl]
        exact k_iret hx hb hr hlk hP hS dX5_nextStart_45 rfl (by rw [hR]) (k_P (by rw [hR]))
      · have c_17_1 : ¬ 1440 ≤ (nI k) := c_17_1
        have hkl_13 : k < 1440 := k_bodyN c_17_1 rfl hkn_13 (by decide)
        refine lv_aload_n hx hb dX5_nextStart_20 rfl (lv_at hl 0 rfl) ?_
        refine k_calli (a := []) (z := []) (wc := moW q cI cJ (o_setV (o_setI M 2 0) 1 g)) (wc' := moW q cI cJ (o_setV (o_setI M 2 0) 1 g)) (w' := moW q cI cJ (o_setV (o_setI M 2 0) 1 g)) (va_runV (As := []) (rest := []) ⟨hx, hb, hml, hown, hts⟩ (c_X5_started l D q cI cJ (o_setV (o_setI M 2 0) 1 g) n hok.1 hn6 _) (cwV 0 hts gX5_nextStart_X5_started rfl rfl rfl (by decide +kernel) ⟨Nat.le_of_ble_eq_true rfl, Nat.le_of_ble_eq_true rfl⟩) ⟨kB_blind, va_recv hK hP (ci := 5) (q0 := 0) rfl rfl, k_pre (a := []) (z := []) (k_w0 _) hK hP hD⟩ rfl rfl hl.1 rfl (lv_room (Nat.le_of_ble_eq_true rfl)) dX5_nextStart_21 ⟨Nat.zero_le _, Nat.zero_le _⟩) (k_w0 _) (k_w0 _) (moW_ad _ _ _ _ _) hP hD hS hA (fun H locs hP hD hS => ?_)
        rw [show o_started ((o_setV (o_setI M 2 0) 1 g).2.1 1) ((o_setV (o_setI M 2 0) 1 g).2.1 0) n = o_started g (M.2.1 0) n from rfl]
        refine lv_iconst (v := (-1)) hx hb dX5_nextStart_24 (by decide) ?_
        refine lv_icmp_ne (tgt := 41) hx hb dX5_nextStart_25 (by decide) (fun c_25_2 => ?_) (fun c_25_2 => ?_)
        · have c_25_2 : ¬ (o_started g (M.2.1 0) n) = (-1) := c_25_2
          have hR : o_nsRow (M.2.1 0) n t = g := by
            have ha : o_nsAt (M.2.1 0) n t = k := frst_some (by rw [e13]; simpa using c_25_2) hno hkl_13
            rw [o_nsRow, ha, e13]
          refine lv_aload_n hx hb dX5_nextStart_41 rfl (lv_at hl 0 rfl) ?_
          refine k_calli (a := []) (z := []) (wc := moW q cI cJ (o_setV (o_setI M 2 0) 1 g)) (wc' := moW q cI cJ (o_setV (o_setI M 2 0) 1 g)) (w' := moW q cI cJ (o_setV (o_setI M 2 0) 1 g)) (va_runV (As := []) (rest := []) ⟨hx, hb, hml, hown, hts⟩ (c_X5_started l D q cI cJ (o_setV (o_setI M 2 0) 1 g) n hok.1 hn6 _) (cwV 0 hts gX5_nextStart_X5_started rfl rfl rfl (by decide +kernel) ⟨Nat.le_of_ble_eq_true rfl, Nat.le_of_ble_eq_true rfl⟩) ⟨kB_blind, va_recv hK hP (ci := 5) (q0 := 0) rfl rfl, k_pre (a := []) (z := []) (k_w0 _) hK hP hD⟩ rfl rfl hl.1 rfl (lv_room (Nat.le_of_ble_eq_true rfl)) dX5_nextStart_42 ⟨Nat.zero_le _, Nat.zero_le _⟩) (k_w0 _) (k_w0 _) (moW_ad _ _ _ _ _) hP hD hS hA (fun H locs hP hD hS => ?_)
          rw [show o_started ((o_setV (o_setI M 2 0) 1 g).2.1 1) ((o_setV (o_setI M 2 0) 1 g).2.1 0) n = o_started g (M.2.1 0) n from rfl]
          exact k_iret hx hb hr hlk hP hS dX5_nextStart_45 rfl (by rw [hR]) (k_P (by rw [hR]))
        · have c_25_2 : (o_started g (M.2.1 0) n) = (-1) := c_25_2
          refine lv_aload_n hx hb dX5_nextStart_28 rfl (lv_at hl 0 rfl) ?_
          refine va_get (D := D) (ci := 5) (v := .ref (q 2)) (C := RX5) (T := TX5) (N := 14) hx hb hts inX5 hown hK hP 0 rfl rfl 1 (by decide) (hts (.fieldLink RX5 13 "PumpOathsModel" "tried" "[J") (List.mem_of_getElem? (i := 1) rfl)) (fun _ h9 => h9) rfl dX5_nextStart_29 ?_
          refine k_callv (a := List.take 2 (moW q cI cJ (o_setV (o_setI M 2 0) 1 g))) (z := List.drop 3 (moW q cI cJ (o_setV (o_setI M 2 0) 1 g))) (wc := rwW (q 2) cJ g) (wc' := rwW (q 2) cJ (m_pass g n (t + k))) (w' := moW q cI cJ (o_setV (o_setI M 2 0) 1 (m_pass g n (t + k)))) (va_runS (As := [.ref (q 2)]) (rest := []) ⟨hx, hb, hml, hown, hts⟩ (c_X5_passes l D (q 2) cI cJ g n hq.1 hn6 hq.2.1 (t + k) hq.2.2 (by omega) _) (cwS 1 hts gX5_nextStart_X5_passes rfl rfl rfl (by decide +kernel) ⟨Nat.le_of_ble_eq_true rfl, Nat.le_of_ble_eq_true rfl⟩) ⟨kB_blind, k_pre (a := List.take 2 (moW q cI cJ (o_setV (o_setI M 2 0) 1 g))) (z := List.drop 3 (moW q cI cJ (o_setV (o_setI M 2 0) 1 g))) rfl hK hP hD⟩ rfl rfl hl.1 rfl (lv_room (Nat.le_of_ble_eq_true rfl)) dX5_nextStart_32 ⟨Nat.zero_le _, Nat.zero_le _⟩) rfl rfl (rwW_ad _ _ _ _) hP hD hS hA (fun H locs hP hD hS => ?_)
          refine lv_iinc (v := (nI k) + 1) (lv' := [(1, .int ((nI k) + 1)), (0, .ref (q 0))]) hx hb dX5_nextStart_35 hl (k := 1) rfl rfl (by decide) rfl (fun ls hl => ?_)
          refine lv_goto (tgt := 13) hx hb dX5_nextStart_38 (by decide) ?_
          rw [show ((nI k) + 1) = (nI (k + 1)) from nI_1 _] at hl
          exact ih_13 (k + 1) (m_pass g n (t + k)) (by omega) (by omega) (by rw [itr_s, e13]; simp [m_goB, c_17_1, c_25_2]) (m_pass_ok hq hn6 (by omega)) (k_ext hno (by rw [e13]; simpa using c_25_2)) _ _ _ hP hD hS (lv_sub hl [1, 0] rfl)
  exact L_13_0 (1440 + 1) 0 (M.2.1 0) (by omega) (by omega) (rfl) (hok) (fun j hj => absurd hj (Nat.not_lt_zero _)) _ _ _ hP hD hS (lv_sub hl [1, 0] rfl)
