theorem o_fail_I (M : MS) (x : Int32) {k : Nat} (h : k ≠ 4) : (o_fail M x).1 k = M.1 k := pk_un h
theorem o_sign_3 (M : MS) (x : Int32) : (A_X5_sign_s0 M x).1 3 = M.1 3 ∨ (A_X5_sign_s0 M x).1 3 = M.1 3 + 1 := by
  unfold A_X5_sign_s0
  split
  · split
    · exact Or.inr rfl
    · exact Or.inl (o_fail_I _ _ (by decide))
  · exact Or.inl rfl
theorem o_sign_I (M : MS) (x : Int32) {k : Nat} (h : k ≠ 4) (h3 : k ≠ 3) : (A_X5_sign_s0 M x).1 k = M.1 k := by
  unfold A_X5_sign_s0
  split
  · split
    · exact pk_un h3
    · exact o_fail_I _ _ h
  · rfl
theorem o_digit_3 (M : MS) (x : Int32) : (A_X5_digit_s0 M x).1 3 = M.1 3 ∨ (A_X5_digit_s0 M x).1 3 = M.1 3 + 1 := by
  unfold A_X5_digit_s0
  repeat' split
  all_goals first | exact Or.inr rfl | exact Or.inl rfl | exact Or.inl (o_fail_I _ _ (by decide))
theorem o_digit_I (M : MS) (x : Int32) {k : Nat} (h : k ≠ 4) (h3 : k ≠ 3) (h5 : k ≠ 5) : (A_X5_digit_s0 M x).1 k = M.1 k := by
  unfold A_X5_digit_s0
  repeat' split
  all_goals first | exact (pk_un h3).trans (pk_un h5) | exact (o_fail_I _ _ h).trans (pk_un h5)

set_option maxHeartbeats 1000000 in
set_option maxRecDepth 100000 in
theorem c_X5_readsNumber (l : Launch) (D : va_G) (q : Nat → Nat) (cI cJ : ClassId) (M : MS) (dd : Nat) (lo hi : Int32) (hdd : dd ≤ 4) (le : Nat) (hle : M.1 1 = nI le) (hle1 : le ≤ 100) (hav : tB M 900) : kV l yX5_readsNumber wsX5_readsNumber ({ frames := 2, cells := 0, slots := 0, locals := 45 } : Room) D [(cI, .int), (cJ, .long)] [.ref (q 0), .int (nI dd), .int lo, .int hi] (moW q cI cJ M) (moW q cI cJ (o_num M dd lo hi)) := by
  refine kBody.met (cc := cX5_readsNumber) (maxL := 5) (ret := none) (by decide) rfl (Nat.le_of_ble_eq_true rfl) ?_
  intro p9 e9 s9 m9 below meth c9 A9 ls hx hb hr hml hts hown hlk hK hP hD hA hl
  have hown : s9.vm.findClass RX5 = some m9.cls := hown
  have inX5 : ∀ w ∈ wsX50, w ∈ wsX5_readsNumber := fun w h => List.mem_cons_of_mem _ (List.mem_append_right _ (h))
  have hS : va_S A9 s9.heap s9.heap [] := va_S.rf
  have hl : lv_has ls 5 [(0, .ref (q 0)), (1, .int (nI dd)), (2, .int lo), (3, .int hi)] := hl
  obtain ⟨av, hav1, hav3⟩ := hav
  refine lv_aload_n hx hb dX5_readsNumber_0 rfl (lv_at hl 0 rfl) ?_
  refine va_get (D := D) (ci := 5) (v := .int (M.1 3)) (C := RX5) (T := TX5) (N := 14) hx hb hts inX5 hown hK hP 0 rfl rfl 7 (by decide) (hts (.fieldLink RX5 170 "PumpOathsModel" "at" "I") (List.mem_of_getElem? (i := 1) rfl)) (fun _ h9 => h9) rfl dX5_readsNumber_1 ?_
  refine lv_istore (lv' := [(4, .int (M.1 3)), (0, .ref (q 0)), (1, .int (nI dd)), (2, .int lo), (3, .int hi)]) hx hb dX5_readsNumber_4 hl (by decide) rfl (fun ls hl => ?_)
  refine lv_aload_n hx hb dX5_readsNumber_6 rfl (lv_at hl 1 rfl) ?_
  refine lv_iconst (v := 0) hx hb dX5_readsNumber_7 (by decide) ?_
  refine va_put (D := D) (ci := 5) (v := .int 0) (ty := .int) (C := RX5) (T := TX5) (N := 14) hx hb hts inX5 tyX5 tyX5_ok nmX5 hown hK hP hD hS 0 rfl rfl 9 (by decide) (hts (.fieldLink RX5 186 "PumpOathsModel" "number" "I") (List.mem_of_getElem? (i := 2) rfl)) (fun _ h9 => h9) rfl (by decide +kernel) rfl rfl (Nat.le_of_ble_eq_true rfl) dX5_readsNumber_8 (fun H locs hP hD hS => ?_)
  have hP : va_P D vwCl (moW q cI cJ (o_setI M 5 0)) H := hP
  have hD : va_D A9 (moW q cI cJ (o_setI M 5 0)) := hD
  have L_11_0 : ∀ (d : Nat) (k : Nat) (U : MS), dd + 1 < k + d → k ≤ dd + 1 → ∀  (e11 : itr (o_rnB (nI dd) (M.1 3)) k (o_setI M 5 0) = U) (hle2 : U.1 1 = nI le) (hw : U.1 4 = -1 → U.1 3 = nI (av + k) ∧ k ≤ dd) (H : Heap) (locs : List Loc) (ls : Array Slot), va_P D vwCl (moW q cI cJ U) H → va_D A9 (moW q cI cJ U) → va_S A9 s9.heap H locs → lv_has ls 5 [(0, .ref (q 0)), (1, .int (nI dd)), (2, .int lo), (3, .int hi), (4, .int (M.1 3))] → W p9 l e9 ({ frames := 2, cells := 0, slots := 0, locals := 45 } : Room) s9 m9 (List.toArray [.ref (q 0), .int (nI dd), .int lo, .int hi]) below meth c9 H locs 0 0 (MQ below (va_Qv (fun (_ : Unit) => True) (fun _ t9 => va_P D vwCl (moW q cI cJ (o_num M dd lo hi)) t9.heap) A9) (List.toArray [.ref (q 0), .int (nI dd), .int lo, .int hi]) s9 0 0 A9) (F0 m9 11 ls []) := by
    intro d
    induction d with
    | zero =>
      intro k U hf
      intro hkn; exact absurd hf (by omega)
    | succ d ih_11 =>
      intro k U hf_11 hkn_11 e11 hle2 hw H locs ls hP hD hS hl
      refine lv_aload_n hx hb dX5_readsNumber_11 rfl (lv_at hl 0 rfl) ?_
      refine va_get (D := D) (ci := 5) (v := .int (U.1 4)) (C := RX5) (T := TX5) (N := 14) hx hb hts inX5 hown hK hP 0 rfl rfl 8 (by decide) (hts (.fieldLink RX5 180 "PumpOathsModel" "wrong" "I") (List.mem_of_getElem? (i := 3) rfl)) (fun _ h9 => h9) rfl dX5_readsNumber_12 ?_
      refine lv_iconst (v := (-1)) hx hb dX5_readsNumber_15 (by decide) ?_
      refine lv_icmp_ne (tgt := 80) hx hb dX5_readsNumber_16 (by decide) (fun c_16_1 => ?_) (fun c_16_1 => ?_)
      · have c_16_1 : ¬ (U.1 4) = (-1) := c_16_1
        have eL : o_numL M dd = U := itr_stop e11 (fun j => by simp [o_rnB, c_16_1]) _ hkn_11
        refine lv_aload_n hx hb dX5_readsNumber_80 rfl (lv_at hl 0 rfl) ?_
        refine va_get (D := D) (ci := 5) (v := .int (U.1 4)) (C := RX5) (T := TX5) (N := 14) hx hb hts inX5 hown hK hP 0 rfl rfl 8 (by decide) (hts (.fieldLink RX5 180 "PumpOathsModel" "wrong" "I") (List.mem_of_getElem? (i := 3) rfl)) (fun _ h9 => h9) rfl dX5_readsNumber_81 ?_
        refine lv_iconst (v := (-1)) hx hb dX5_readsNumber_84 (by decide) ?_
        refine lv_icmp_ne (tgt := 129) hx hb dX5_readsNumber_85 (by decide) (fun c_85_2 => ?_) (fun c_85_2 => ?_)
        · have c_85_2 : ¬ (U.1 4) = (-1) := c_85_2
          exact k_vret hx hb hr hlk hP hS dX5_readsNumber_129 (k_P (congrArg (fun T9 => moW q cI cJ T9) (by rw [o_num, eL, o_num2]; simp [c_16_1, c_85_2])))
        · have c_85_2 : (U.1 4) = (-1) := c_85_2
          exact absurd c_85_2 c_16_1
      · have c_16_1 : (U.1 4) = (-1) := c_16_1
        have c16 := c_16_1
        obtain ⟨hat2, hkd⟩ := hw c_16_1
        refine lv_aload_n hx hb dX5_readsNumber_19 rfl (lv_at hl 0 rfl) ?_
        refine k_calli (a := []) (z := []) (wc := moW q cI cJ U) (wc' := moW q cI cJ U) (w' := moW q cI cJ U) (va_runV (As := []) (rest := []) ⟨hx, hb, hml, hown, hts⟩ (c_X5_isDigit l D q cI cJ U le hle2 hle1 (⟨av + k, by omega, hat2⟩) _) (cwV 0 hts gX5_readsNumber_X5_isDigit rfl rfl rfl (by decide +kernel) ⟨Nat.le_of_ble_eq_true rfl, Nat.le_of_ble_eq_true rfl⟩) ⟨kB_blind, va_recv hK hP (ci := 5) (q0 := 0) rfl rfl, k_pre (a := []) (z := []) (k_w0 _) hK hP hD⟩ rfl rfl hl.1 rfl (lv_room (Nat.le_of_ble_eq_true rfl)) dX5_readsNumber_20 ⟨Nat.zero_le _, Nat.zero_le _⟩) (k_w0 _) (k_w0 _) (moW_ad _ _ _ _ _) hP hD hS hA (fun H locs hP hD hS => ?_)
        refine lv_if_eq (tgt := 80) hx hb dX5_readsNumber_23 (by decide) (fun c_23_3 => ?_) (fun c_23_3 => ?_)
        · have c_23_3 : (o_dig U) = false := bi_0.mp c_23_3
          have eL : o_numL M dd = U := itr_stop e11 (fun j => by simp [o_rnB, c_23_3]) _ hkn_11
          refine lv_aload_n hx hb dX5_readsNumber_80 rfl (lv_at hl 0 rfl) ?_
          refine va_get (D := D) (ci := 5) (v := .int (U.1 4)) (C := RX5) (T := TX5) (N := 14) hx hb hts inX5 hown hK hP 0 rfl rfl 8 (by decide) (hts (.fieldLink RX5 180 "PumpOathsModel" "wrong" "I") (List.mem_of_getElem? (i := 3) rfl)) (fun _ h9 => h9) rfl dX5_readsNumber_81 ?_
          refine lv_iconst (v := (-1)) hx hb dX5_readsNumber_84 (by decide) ?_
          refine lv_icmp_ne (tgt := 129) hx hb dX5_readsNumber_85 (by decide) (fun c_85_4 => ?_) (fun c_85_4 => ?_)
          · have c_85_4 : ¬ (U.1 4) = (-1) := c_85_4
            exact absurd c_16_1 c_85_4
          · have c_85_4 : (U.1 4) = (-1) := c_85_4
            refine lv_aload_n hx hb dX5_readsNumber_88 rfl (lv_at hl 0 rfl) ?_
            refine va_get (D := D) (ci := 5) (v := .int (U.1 3)) (C := RX5) (T := TX5) (N := 14) hx hb hts inX5 hown hK hP 0 rfl rfl 7 (by decide) (hts (.fieldLink RX5 170 "PumpOathsModel" "at" "I") (List.mem_of_getElem? (i := 1) rfl)) (fun _ h9 => h9) rfl dX5_readsNumber_89 ?_
            refine lv_iload hx hb dX5_readsNumber_92 (lv_at hl 4 rfl) ?_
            refine lv_icmp_ne (tgt := 108) hx hb dX5_readsNumber_94 (by decide) (fun c_94_5 => ?_) (fun c_94_5 => ?_)
            · have c_94_5 : ¬ (U.1 3) = (M.1 3) := c_94_5
              refine lv_aload_n hx hb dX5_readsNumber_108 rfl (lv_at hl 0 rfl) ?_
              refine va_get (D := D) (ci := 5) (v := .int (U.1 5)) (C := RX5) (T := TX5) (N := 14) hx hb hts inX5 hown hK hP 0 rfl rfl 9 (by decide) (hts (.fieldLink RX5 186 "PumpOathsModel" "number" "I") (List.mem_of_getElem? (i := 2) rfl)) (fun _ h9 => h9) rfl dX5_readsNumber_109 ?_
              refine lv_i2l hx hb dX5_readsNumber_112 rfl ?_
              refine lv_iload_n hx hb dX5_readsNumber_113 rfl (lv_at hl 2 rfl) ?_
              refine lv_i2l hx hb dX5_readsNumber_114 rfl ?_
              refine lv_iload_n hx hb dX5_readsNumber_115 rfl (lv_at hl 3 rfl) ?_
              refine lv_i2l hx hb dX5_readsNumber_116 rfl ?_
              refine k_calli (a := []) (z := moW q cI cJ U) (wc := []) (wc' := []) (w' := moW q cI cJ U) (va_runS (As := [.long ((U.1 5).toInt64), .long lo.toInt64, .long hi.toInt64]) (rest := []) ⟨hx, hb, hml, hown, hts⟩ (c_X5_in l D cI cJ ((U.1 5).toInt64) lo.toInt64 hi.toInt64 _) (cwS 3 hts gX5_readsNumber_X5_in rfl rfl rfl (by decide +kernel) ⟨Nat.le_of_ble_eq_true rfl, Nat.le_of_ble_eq_true rfl⟩) ⟨kB_blind, k_pre (a := []) (z := moW q cI cJ U) rfl hK hP hD⟩ rfl rfl hl.1 rfl (lv_room (Nat.le_of_ble_eq_true rfl)) dX5_readsNumber_117 ⟨Nat.zero_le _, Nat.zero_le _⟩) rfl rfl rfl hP hD hS hA (fun H locs hP hD hS => ?_)
              refine lv_if_ne (tgt := 129) hx hb dX5_readsNumber_120 (by decide) (fun c_120_6 => ?_) (fun c_120_6 => ?_)
              · have c_120_6 : (m_in ((U.1 5).toInt64) lo.toInt64 hi.toInt64) = true := bi_n.mp c_120_6
                exact k_vret hx hb hr hlk hP hS dX5_readsNumber_129 (k_P (congrArg (fun T9 => moW q cI cJ T9) (by rw [o_num, eL, o_num2]; simp [c_16_1, c_23_3, c_85_4, c_94_5, c_120_6])))
              · have c_120_6 : (m_in ((U.1 5).toInt64) lo.toInt64 hi.toInt64) = false := bi_0.mp c_120_6
                refine lv_aload_n hx hb dX5_readsNumber_123 rfl (lv_at hl 0 rfl) ?_
                refine lv_iload hx hb dX5_readsNumber_124 (lv_at hl 4 rfl) ?_
                refine k_callv (a := []) (z := []) (wc := moW q cI cJ U) (wc' := moW q cI cJ (o_fail U (M.1 3))) (w' := moW q cI cJ (o_fail U (M.1 3))) (va_runV (As := [.int (M.1 3)]) (rest := []) ⟨hx, hb, hml, hown, hts⟩ (c_X5_fails l D q cI cJ U (M.1 3) _) (cwV 1 hts gX5_readsNumber_X5_fails rfl rfl rfl (by decide +kernel) ⟨Nat.le_of_ble_eq_true rfl, Nat.le_of_ble_eq_true rfl⟩) ⟨kB_blind, va_recv hK hP (ci := 5) (q0 := 0) rfl rfl, k_pre (a := []) (z := []) (k_w0 _) hK hP hD⟩ rfl rfl hl.1 rfl (lv_room (Nat.le_of_ble_eq_true rfl)) dX5_readsNumber_126 ⟨Nat.zero_le _, Nat.zero_le _⟩) (k_w0 _) (k_w0 _) (moW_ad _ _ _ _ _) hP hD hS hA (fun H locs hP hD hS => ?_)
                exact k_vret hx hb hr hlk hP hS dX5_readsNumber_129 (k_P (congrArg (fun T9 => moW q cI cJ T9) (by rw [o_num, eL, o_num2]; simp [c_16_1, c_23_3, c_85_4, c_94_5, c_120_6])))
            · have c_94_5 : (U.1 3) = (M.1 3) := c_94_5
              refine lv_aload_n hx hb dX5_readsNumber_97 rfl (lv_at hl 0 rfl) ?_
              refine lv_aload_n hx hb dX5_readsNumber_98 rfl (lv_at hl 0 rfl) ?_
              refine va_get (D := D) (ci := 5) (v := .int (U.1 3)) (C := RX5) (T := TX5) (N := 14) hx hb hts inX5 hown hK hP 0 rfl rfl 7 (by decide) (hts (.fieldLink RX5 170 "PumpOathsModel" "at" "I") (List.mem_of_getElem? (i := 1) rfl)) (fun _ h9 => h9) rfl dX5_readsNumber_99 ?_
              refine k_callv (a := []) (z := []) (wc := moW q cI cJ U) (wc' := moW q cI cJ (o_fail U (U.1 3))) (w' := moW q cI cJ (o_fail U (U.1 3))) (va_runV (As := [.int (U.1 3)]) (rest := []) ⟨hx, hb, hml, hown, hts⟩ (c_X5_fails l D q cI cJ U (U.1 3) _) (cwV 1 hts gX5_readsNumber_X5_fails rfl rfl rfl (by decide +kernel) ⟨Nat.le_of_ble_eq_true rfl, Nat.le_of_ble_eq_true rfl⟩) ⟨kB_blind, va_recv hK hP (ci := 5) (q0 := 0) rfl rfl, k_pre (a := []) (z := []) (k_w0 _) hK hP hD⟩ rfl rfl hl.1 rfl (lv_room (Nat.le_of_ble_eq_true rfl)) dX5_readsNumber_102 ⟨Nat.zero_le _, Nat.zero_le _⟩) (k_w0 _) (k_w0 _) (moW_ad _ _ _ _ _) hP hD hS hA (fun H locs hP hD hS => ?_)
              refine lv_goto (tgt := 129) hx hb dX5_readsNumber_105 (by decide) ?_
              exact k_vret hx hb hr hlk hP hS dX5_readsNumber_129 (k_P (congrArg (fun T9 => moW q cI cJ T9) (by rw [o_num, eL, o_num2]; simp [c_16_1, c_23_3, c_85_4, c_94_5])))
        · have c_23_3 : (o_dig U) = true := bi_n.mp c_23_3
          refine lv_aload_n hx hb dX5_readsNumber_26 rfl (lv_at hl 0 rfl) ?_
          refine va_get (D := D) (ci := 5) (v := .int (U.1 3)) (C := RX5) (T := TX5) (N := 14) hx hb hts inX5 hown hK hP 0 rfl rfl 7 (by decide) (hts (.fieldLink RX5 170 "PumpOathsModel" "at" "I") (List.mem_of_getElem? (i := 1) rfl)) (fun _ h9 => h9) rfl dX5_readsNumber_27 ?_
          refine lv_iload hx hb dX5_readsNumber_30 (lv_at hl 4 rfl) ?_
          refine lv_isub hx hb dX5_readsNumber_32 ?_
          refine lv_iload_n hx hb dX5_readsNumber_33 rfl (lv_at hl 1 rfl) ?_
          refine lv_icmp_ne (tgt := 48) hx hb dX5_readsNumber_34 (by decide) (fun c_34_7 => ?_) (fun c_34_7 => ?_)
          · have c_34_7 : ¬ ((U.1 3) - (M.1 3)) = (nI dd) := c_34_7
            refine lv_aload_n hx hb dX5_readsNumber_48 rfl (lv_at hl 0 rfl) ?_
            refine lv_bipush (v := 10) hx hb dX5_readsNumber_49 (by decide) ?_
            refine lv_aload_n hx hb dX5_readsNumber_51 rfl (lv_at hl 0 rfl) ?_
            refine va_get (D := D) (ci := 5) (v := .int (U.1 5)) (C := RX5) (T := TX5) (N := 14) hx hb hts inX5 hown hK hP 0 rfl rfl 9 (by decide) (hts (.fieldLink RX5 186 "PumpOathsModel" "number" "I") (List.mem_of_getElem? (i := 2) rfl)) (fun _ h9 => h9) rfl dX5_readsNumber_52 ?_
            refine lv_imul hx hb dX5_readsNumber_55 ?_
            refine lv_aload_n hx hb dX5_readsNumber_56 rfl (lv_at hl 0 rfl) ?_
            refine k_calli (a := []) (z := []) (wc := moW q cI cJ U) (wc' := moW q cI cJ U) (w' := moW q cI cJ U) (va_runV (As := []) (rest := [.int (10 * (U.1 5)), .ref (q 0)]) ⟨hx, hb, hml, hown, hts⟩ (c_X5_look9 l D q cI cJ U le hle2 hle1 (⟨av + k, by omega, hat2⟩) _) (cwV 0 hts gX5_readsNumber_X5_look rfl rfl rfl (by decide +kernel) ⟨Nat.le_of_ble_eq_true rfl, Nat.le_of_ble_eq_true rfl⟩) ⟨kB_blind, va_recv hK hP (ci := 5) (q0 := 0) rfl rfl, k_pre (a := []) (z := []) (k_w0 _) hK hP hD⟩ rfl rfl hl.1 rfl (lv_room (Nat.le_of_ble_eq_true rfl)) dX5_readsNumber_57 ⟨Nat.zero_le _, Nat.zero_le _⟩) (k_w0 _) (k_w0 _) (moW_ad _ _ _ _ _) hP hD hS hA (fun H locs hP hD hS => ?_)
            refine lv_iadd hx hb dX5_readsNumber_60 ?_
            refine lv_bipush (v := 48) hx hb dX5_readsNumber_61 (by decide) ?_
            refine lv_isub hx hb dX5_readsNumber_63 ?_
            refine va_put (D := D) (ci := 5) (v := .int (((10 * (U.1 5)) + (o_look U)) - 48)) (ty := .int) (C := RX5) (T := TX5) (N := 14) hx hb hts inX5 tyX5 tyX5_ok nmX5 hown hK hP hD hS 0 rfl rfl 9 (by decide) (hts (.fieldLink RX5 186 "PumpOathsModel" "number" "I") (List.mem_of_getElem? (i := 2) rfl)) (fun _ h9 => h9) rfl (by decide +kernel) rfl rfl (Nat.le_of_ble_eq_true rfl) dX5_readsNumber_64 (fun H locs hP hD hS => ?_)
            have hP : va_P D vwCl (moW q cI cJ (o_setI U 5 (((10 * (U.1 5)) + (o_look U)) - 48))) H := hP
            have hD : va_D A9 (moW q cI cJ (o_setI U 5 (((10 * (U.1 5)) + (o_look U)) - 48))) := hD
            refine lv_aload_n hx hb dX5_readsNumber_67 rfl (lv_at hl 0 rfl) ?_
            refine lv_dup hx hb dX5_readsNumber_68 rfl ?_
            refine va_get (D := D) (ci := 5) (v := .int (U.1 3)) (C := RX5) (T := TX5) (N := 14) hx hb hts inX5 hown hK hP 0 rfl rfl 7 (by decide) (hts (.fieldLink RX5 170 "PumpOathsModel" "at" "I") (List.mem_of_getElem? (i := 1) rfl)) (fun _ h9 => h9) rfl dX5_readsNumber_69 ?_
            refine lv_iconst (v := 1) hx hb dX5_readsNumber_72 (by decide) ?_
            refine lv_iadd hx hb dX5_readsNumber_73 ?_
            refine va_put (D := D) (ci := 5) (v := .int ((U.1 3) + 1)) (ty := .int) (C := RX5) (T := TX5) (N := 14) hx hb hts inX5 tyX5 tyX5_ok nmX5 hown hK hP hD hS 0 rfl rfl 7 (by decide) (hts (.fieldLink RX5 170 "PumpOathsModel" "at" "I") (List.mem_of_getElem? (i := 1) rfl)) (fun _ h9 => h9) rfl (by decide +kernel) rfl rfl (Nat.le_of_ble_eq_true rfl) dX5_readsNumber_74 (fun H locs hP hD hS => ?_)
            have hP : va_P D vwCl (moW q cI cJ (o_setI (o_setI U 5 (((10 * (U.1 5)) + (o_look U)) - 48)) 3 ((U.1 3) + 1))) H := hP
            have hD : va_D A9 (moW q cI cJ (o_setI (o_setI U 5 (((10 * (U.1 5)) + (o_look U)) - 48)) 3 ((U.1 3) + 1))) := hD
            refine lv_goto (tgt := 11) hx hb dX5_readsNumber_77 (by decide) ?_
            exact ih_11 (k + 1) (o_setI (o_setI U 5 (((10 * (U.1 5)) + (o_look U)) - 48)) 3 ((U.1 3) + 1)) (by omega) (by omega) (by rw [itr_s, e11]; simp [o_rnB, c_16_1, c_23_3, c_34_7]) (by first | exact hle2 | exact (o_fail_I _ _ (by decide)).trans hle2) (by first | (exact fun h9 => absurd (show U.1 3 = -1 by simpa [o_fail, o_setI, pk_us, c16] using h9) (by rw [hat2]; exact nI_m1 (by omega))) | (exact fun h9 => ⟨(show U.1 3 + 1 = _ from by rw [hat2]; exact nI_1 _), by rcases Nat.lt_or_ge k dd with q9 | q9; (exact q9); (exact absurd (by rw [hat2, hav3, pk_sub (by omega), show av + k - av = dd by omega]) c_34_7)⟩)) _ _ _ hP hD hS (lv_sub hl [0, 1, 2, 3, 4] rfl)
          · have c_34_7 : ((U.1 3) - (M.1 3)) = (nI dd) := c_34_7
            refine lv_aload_n hx hb dX5_readsNumber_37 rfl (lv_at hl 0 rfl) ?_
            refine lv_aload_n hx hb dX5_readsNumber_38 rfl (lv_at hl 0 rfl) ?_
            refine va_get (D := D) (ci := 5) (v := .int (U.1 3)) (C := RX5) (T := TX5) (N := 14) hx hb hts inX5 hown hK hP 0 rfl rfl 7 (by decide) (hts (.fieldLink RX5 170 "PumpOathsModel" "at" "I") (List.mem_of_getElem? (i := 1) rfl)) (fun _ h9 => h9) rfl dX5_readsNumber_39 ?_
            refine k_callv (a := []) (z := []) (wc := moW q cI cJ U) (wc' := moW q cI cJ (o_fail U (U.1 3))) (w' := moW q cI cJ (o_fail U (U.1 3))) (va_runV (As := [.int (U.1 3)]) (rest := []) ⟨hx, hb, hml, hown, hts⟩ (c_X5_fails l D q cI cJ U (U.1 3) _) (cwV 1 hts gX5_readsNumber_X5_fails rfl rfl rfl (by decide +kernel) ⟨Nat.le_of_ble_eq_true rfl, Nat.le_of_ble_eq_true rfl⟩) ⟨kB_blind, va_recv hK hP (ci := 5) (q0 := 0) rfl rfl, k_pre (a := []) (z := []) (k_w0 _) hK hP hD⟩ rfl rfl hl.1 rfl (lv_room (Nat.le_of_ble_eq_true rfl)) dX5_readsNumber_42 ⟨Nat.zero_le _, Nat.zero_le _⟩) (k_w0 _) (k_w0 _) (moW_ad _ _ _ _ _) hP hD hS hA (fun H locs hP hD hS => ?_)
            refine lv_goto (tgt := 11) hx hb dX5_readsNumber_45 (by decide) ?_
            exact ih_11 (k + 1) (o_fail U (U.1 3)) (by omega) (by omega) (by rw [itr_s, e11]; simp [o_rnB, c_16_1, c_23_3, c_34_7]) (by first | exact hle2 | exact (o_fail_I _ _ (by decide)).trans hle2) (by first | (exact fun h9 => absurd (show U.1 3 = -1 by simpa [o_fail, o_setI, pk_us, c16] using h9) (by rw [hat2]; exact nI_m1 (by omega))) | (exact fun h9 => ⟨(show U.1 3 + 1 = _ from by rw [hat2]; exact nI_1 _), by rcases Nat.lt_or_ge k dd with q9 | q9; (exact q9); (exact absurd (by rw [hat2, hav3, pk_sub (by omega), show av + k - av = dd by omega]) c_34_7)⟩)) _ _ _ hP hD hS (lv_sub hl [0, 1, 2, 3, 4] rfl)
  exact L_11_0 (dd + 1 + 1) 0 (o_setI M 5 0) (by omega) (by omega) (rfl) (hle) (fun _ => ⟨hav3, Nat.zero_le _⟩) _ _ _ hP hD hS (lv_sub hl [1, 2, 3, 4, 0] rfl)
