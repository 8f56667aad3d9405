set_option maxHeartbeats 1000000 in
set_option maxRecDepth 100000 in
theorem c_X5_carryOut (l : Launch) (D : va_G) (q : Nat → Nat) (cI cJ : ClassId) (M : MS) (st : Nat) (hst : M.1 0 = nI st) (hst4 : st ≤ 4) (n t : Nat) (hok : m_ok (M.2.1 0) n t) (hn6 : n ≤ 6) (htb : t < 2 ^ 37) (le : Nat) (hle : M.1 1 = nI le) (hle1 : le ≤ 100) : kI l yX5_carryOut wsX5_carryOut ({ frames := 5, cells := 0, slots := 0, locals := 112 } : Room) D [(cI, .int), (cJ, .long)] [.ref (q 0)] (moW q cI cJ M) (o_carryR M st n) (moW q cI cJ (o_carry M st n)) := by
  refine kBody.met (cc := cX5_carryOut) (maxL := 2) (ret := (some .int)) (by decide) rfl (Nat.le_of_ble_eq_true rfl) ?_
  intro p9 e9 s9 m9 below meth c9 A9 ls hx hb hr hml hts hown hlk hK hP hD hA hl
  have hown : s9.vm.findClass RX5 = some m9.cls := hown
  have inX5 : ∀ w ∈ wsX50, w ∈ wsX5_carryOut := fun w h => List.mem_cons_of_mem _ (List.mem_append_right _ (h))
  have hS : va_S A9 s9.heap s9.heap [] := va_S.rf
  have hl : lv_has ls 2 [(0, .ref (q 0))] := hl
  refine lv_aload_n hx hb dX5_carryOut_0 rfl (lv_at hl 0 rfl) ?_
  refine lv_iconst (v := 0) hx hb dX5_carryOut_1 (by decide) ?_
  refine lv_iconst (v := 0) hx hb dX5_carryOut_2 (by decide) ?_
  refine k_calli (a := []) (z := []) (wc := moW q cI cJ M) (wc' := moW q cI cJ (o_setI M 2 0)) (w' := moW q cI cJ (o_setI M 2 0)) (va_runV (As := [.int 0, .int 0]) (rest := []) ⟨hx, hb, hml, hown, hts⟩ (c_X5_goes00 l D q cI cJ M _) (cwV 2 hts gX5_carryOut_X5_goes rfl rfl rfl (by decide +kernel) ⟨Nat.le_of_ble_eq_true rfl, Nat.le_of_ble_eq_true rfl⟩) ⟨kB_blind, va_recv hK hP (ci := 5) (q0 := 0) rfl rfl, k_pre (a := []) (z := []) (k_w0 _) hK hP hD⟩ rfl rfl hl.1 rfl (lv_room (Nat.le_of_ble_eq_true rfl)) dX5_carryOut_3 ⟨Nat.zero_le _, Nat.zero_le _⟩) (k_w0 _) (k_w0 _) (moW_ad _ _ _ _ _) hP hD hS hA (fun H locs hP hD hS => ?_)
  refine lv_pop hx hb dX5_carryOut_6 rfl ?_
  refine lv_aload_n hx hb dX5_carryOut_7 rfl (lv_at hl 0 rfl) ?_
  refine lv_iconst (v := 0) hx hb dX5_carryOut_8 (by decide) ?_
  refine va_put (D := D) (ci := 5) (v := .int 0) (ty := .int) (C := RX5) (T := TX5) (N := 14) hx hb hts inX5 tyX5 tyX5_ok nmX5 hown hK hP hD hS 0 rfl rfl 7 (by decide) (hts (.fieldLink RX5 170 "PumpOathsModel" "at" "I") (List.mem_of_getElem? (i := 1) rfl)) (fun _ h9 => h9) rfl (by decide +kernel) rfl rfl (Nat.le_of_ble_eq_true rfl) dX5_carryOut_9 (fun H locs hP hD hS => ?_)
  have hP : va_P D vwCl (moW q cI cJ (o_setI (o_setI M 2 0) 3 0)) H := hP
  have hD : va_D A9 (moW q cI cJ (o_setI (o_setI M 2 0) 3 0)) := hD
  refine lv_aload_n hx hb dX5_carryOut_12 rfl (lv_at hl 0 rfl) ?_
  refine lv_iconst (v := (-1)) hx hb dX5_carryOut_13 (by decide) ?_
  refine va_put (D := D) (ci := 5) (v := .int (-1)) (ty := .int) (C := RX5) (T := TX5) (N := 14) hx hb hts inX5 tyX5 tyX5_ok nmX5 hown hK hP hD hS 0 rfl rfl 8 (by decide) (hts (.fieldLink RX5 180 "PumpOathsModel" "wrong" "I") (List.mem_of_getElem? (i := 2) rfl)) (fun _ h9 => h9) rfl (by decide +kernel) rfl rfl (Nat.le_of_ble_eq_true rfl) dX5_carryOut_14 (fun H locs hP hD hS => ?_)
  have hP : va_P D vwCl (moW q cI cJ (o_setI (o_setI (o_setI M 2 0) 3 0) 4 (-1))) H := hP
  have hD : va_D A9 (moW q cI cJ (o_setI (o_setI (o_setI M 2 0) 3 0) 4 (-1))) := hD
  refine lv_aload_n hx hb dX5_carryOut_17 rfl (lv_at hl 0 rfl) ?_
  refine lv_iconst (v := 0) hx hb dX5_carryOut_18 (by decide) ?_
  refine va_put (D := D) (ci := 5) (v := .int 0) (ty := .int) (C := RX5) (T := TX5) (N := 14) hx hb hts inX5 tyX5 tyX5_ok nmX5 hown hK hP hD hS 0 rfl rfl 10 (by decide) (hts (.fieldLink RX5 196 "PumpOathsModel" "orders" "I") (List.mem_of_getElem? (i := 3) rfl)) (fun _ h9 => h9) rfl (by decide +kernel) rfl rfl (Nat.le_of_ble_eq_true rfl) dX5_carryOut_19 (fun H locs hP hD hS => ?_)
  have hP : va_P D vwCl (moW q cI cJ (o_setI (o_setI (o_setI (o_setI M 2 0) 3 0) 4 (-1)) 6 0)) H := hP
  have hD : va_D A9 (moW q cI cJ (o_setI (o_setI (o_setI (o_setI M 2 0) 3 0) 4 (-1)) 6 0)) := hD
  have L_22_0 : ∀ (d : Nat) (k : Nat) (U : MS), 34 < k + d → k ≤ 34 → ∀  (e22 : itr o_rdB k (o_rd0 M) = U) (hle2 : U.1 1 = nI le) (hst2 : U.1 0 = nI st) (hV2 : U.2.1 = M.2.1) (hw : U.1 4 = -1 → U.1 6 = nI k ∧ (∃ a, 3 * k ≤ a ∧ a < 2000 ∧ U.1 3 = nI a) ∧ ∀ i, i < k → o_fact U i) (H : Heap) (locs : List Loc) (ls : Array Slot), va_P D vwCl (moW q cI cJ U) H → va_D A9 (moW q cI cJ U) → va_S A9 s9.heap H locs → lv_has ls 2 [(0, .ref (q 0))] → W p9 l e9 ({ frames := 5, cells := 0, slots := 0, locals := 112 } : Room) s9 m9 (List.toArray [.ref (q 0)]) below meth c9 H locs 0 0 (MQ below (va_Qi (fun r (_ : Unit) => r = (o_carryR M st n)) (fun _ t9 => va_P D vwCl (moW q cI cJ (o_carry M st n)) t9.heap) A9) (List.toArray [.ref (q 0)]) s9 0 0 A9) (F0 m9 22 ls []) := by
    intro d
    induction d with
    | zero =>
      intro k U hf
      intro hkn; exact absurd hf (by omega)
    | succ d ih_22 =>
      intro k U hf_22 hkn_22 e22 hle2 hst2 hV2 hw H locs ls hP hD hS hl
      refine lv_aload_n hx hb dX5_carryOut_22 rfl (lv_at hl 0 rfl) ?_
      refine va_get (D := D) (ci := 5) (v := .int (U.1 4)) (C := RX5) (T := TX5) (N := 14) hx hb hts inX5 hown hK hP 0 rfl rfl 8 (by decide) (hts (.fieldLink RX5 180 "PumpOathsModel" "wrong" "I") (List.mem_of_getElem? (i := 2) rfl)) (fun _ h9 => h9) rfl dX5_carryOut_23 ?_
      refine lv_iconst (v := (-1)) hx hb dX5_carryOut_26 (by decide) ?_
      refine lv_icmp_ne (tgt := 48) hx hb dX5_carryOut_27 (by decide) (fun c_27_1 => ?_) (fun c_27_1 => ?_)
      · have c_27_1 : ¬ (U.1 4) = (-1) := c_27_1
        have eL : o_rd M = U := itr_stop e22 (fun j => by simp [o_rdB, c_27_1]) _ hkn_22
        refine lv_aload_n hx hb dX5_carryOut_48 rfl (lv_at hl 0 rfl) ?_
        refine va_get (D := D) (ci := 5) (v := .int (U.1 4)) (C := RX5) (T := TX5) (N := 14) hx hb hts inX5 hown hK hP 0 rfl rfl 8 (by decide) (hts (.fieldLink RX5 180 "PumpOathsModel" "wrong" "I") (List.mem_of_getElem? (i := 2) rfl)) (fun _ h9 => h9) rfl dX5_carryOut_49 ?_
        refine lv_iconst (v := (-1)) hx hb dX5_carryOut_52 (by decide) ?_
        refine lv_icmp_eq (tgt := 64) hx hb dX5_carryOut_53 (by decide) (fun c_53_2 => ?_) (fun c_53_2 => ?_)
        · have c_53_2 : (U.1 4) = (-1) := c_53_2
          exact absurd c_53_2 c_27_1
        · have c_53_2 : ¬ (U.1 4) = (-1) := c_53_2
          refine lv_bipush (v := (-10)) hx hb dX5_carryOut_56 (by decide) ?_
          refine lv_aload_n hx hb dX5_carryOut_58 rfl (lv_at hl 0 rfl) ?_
          refine va_get (D := D) (ci := 5) (v := .int (U.1 4)) (C := RX5) (T := TX5) (N := 14) hx hb hts inX5 hown hK hP 0 rfl rfl 8 (by decide) (hts (.fieldLink RX5 180 "PumpOathsModel" "wrong" "I") (List.mem_of_getElem? (i := 2) rfl)) (fun _ h9 => h9) rfl dX5_carryOut_59 ?_
          refine lv_isub hx hb dX5_carryOut_62 ?_
          exact k_iret hx hb hr hlk hP hS dX5_carryOut_63 rfl (by rw [o_carryR, eL]; exact (if_neg c_27_1).symm) (k_P (congrArg (fun T9 => moW q cI cJ T9) (by rw [o_carry, eL]; exact (if_neg c_27_1).symm)))
      · have c_27_1 : (U.1 4) = (-1) := c_27_1
        have c27 := c_27_1
        refine lv_aload_n hx hb dX5_carryOut_30 rfl (lv_at hl 0 rfl) ?_
        refine va_get (D := D) (ci := 5) (v := .int (U.1 3)) (C := RX5) (T := TX5) (N := 14) hx hb hts inX5 hown hK hP 0 rfl rfl 7 (by decide) (hts (.fieldLink RX5 170 "PumpOathsModel" "at" "I") (List.mem_of_getElem? (i := 1) rfl)) (fun _ h9 => h9) rfl dX5_carryOut_31 ?_
        refine lv_aload_n hx hb dX5_carryOut_34 rfl (lv_at hl 0 rfl) ?_
        refine va_get (D := D) (ci := 5) (v := .int (U.1 1)) (C := RX5) (T := TX5) (N := 14) hx hb hts inX5 hown hK hP 0 rfl rfl 5 (by decide) (hts (.fieldLink RX5 167 "PumpOathsModel" "letters" "I") (List.mem_of_getElem? (i := 4) rfl)) (fun _ h9 => h9) rfl dX5_carryOut_35 ?_
        refine lv_icmp_ge (tgt := 48) hx hb dX5_carryOut_38 (by decide) (fun c_38_3 => ?_) (fun c_38_3 => ?_)
        · have c_38_3 : (U.1 1) ≤ (U.1 3) := c_38_3
          have eL : o_rd M = U := itr_stop e22 (fun j => by simp [o_rdB, c_38_3]) _ hkn_22
          obtain ⟨h6, -, hfa⟩ := hw c27
          refine lv_aload_n hx hb dX5_carryOut_48 rfl (lv_at hl 0 rfl) ?_
          refine va_get (D := D) (ci := 5) (v := .int (U.1 4)) (C := RX5) (T := TX5) (N := 14) hx hb hts inX5 hown hK hP 0 rfl rfl 8 (by decide) (hts (.fieldLink RX5 180 "PumpOathsModel" "wrong" "I") (List.mem_of_getElem? (i := 2) rfl)) (fun _ h9 => h9) rfl dX5_carryOut_49 ?_
          refine lv_iconst (v := (-1)) hx hb dX5_carryOut_52 (by decide) ?_
          refine lv_icmp_eq (tgt := 64) hx hb dX5_carryOut_53 (by decide) (fun c_53_4 => ?_) (fun c_53_4 => ?_)
          · have c_53_4 : (U.1 4) = (-1) := c_53_4
            refine lv_aload_n hx hb dX5_carryOut_64 rfl (lv_at hl 0 rfl) ?_
            refine k_callv (a := []) (z := []) (wc := moW q cI cJ U) (wc' := moW q cI cJ (o_save U st)) (w' := moW q cI cJ (o_save U st)) (va_runV (As := []) (rest := []) ⟨hx, hb, hml, hown, hts⟩ (c_X5_saves l D q cI cJ U st hst2 hst4 _) (cwV 0 hts gX5_carryOut_X5_saves rfl rfl rfl (by decide +kernel) ⟨Nat.le_of_ble_eq_true rfl, Nat.le_of_ble_eq_true rfl⟩) ⟨kB_blind, va_recv hK hP (ci := 5) (q0 := 0) rfl rfl, k_pre (a := []) (z := []) (k_w0 _) hK hP hD⟩ rfl rfl hl.1 rfl (lv_room (Nat.le_of_ble_eq_true rfl)) dX5_carryOut_65 ⟨Nat.zero_le _, Nat.zero_le _⟩) (k_w0 _) (k_w0 _) (moW_ad _ _ _ _ _) hP hD hS hA (fun H locs hP hD hS => ?_)
            have e8 : (o_save U st).2.1 0 = M.2.1 0 := (o_save_V _ _ _ (by decide)).trans (congrFun hV2 0)
            have tm8 : o_tm (o_save U st) = t := by rw [o_tm, e8, hok.2.2]; exact lN_cl (by omega)
            have ok8 : m_ok ((o_save U st).2.1 0) n (o_tm (o_save U st)) := by rw [tm8, e8]; exact hok
            refine lv_iconst (v := 0) hx hb dX5_carryOut_68 (by decide) ?_
            refine lv_istore_n (lv' := [(1, .int 0), (0, .ref (q 0))]) hx hb dX5_carryOut_69 rfl hl (by decide) rfl (fun ls hl => ?_)
            have L_70_5 : ∀ (d : Nat) (i : Nat) (V : MS), k < i + d → i ≤ k → ∀  (e70 : itr (o_doB n) i (o_save U st) = V) (hVA : V.2.2 = U.2.2) (hV6 : V.1 6 = nI k) (hokV : m_ok (V.2.1 0) n (o_tm V)) (hbV : o_tm V ≤ t + i * 2147483648) (hno : ∀ j, j < i → decide (A_X5_can_r (itr (o_doB n) j (o_save U st)) j = 0) = false) (H : Heap) (locs : List Loc) (ls : Array Slot), va_P D vwCl (moW q cI cJ V) H → va_D A9 (moW q cI cJ V) → va_S A9 s9.heap H locs → lv_has ls 2 [(0, .ref (q 0)), (1, .int (nI i))] → W p9 l e9 ({ frames := 5, cells := 0, slots := 0, locals := 112 } : Room) s9 m9 (List.toArray [.ref (q 0)]) below meth c9 H locs 0 0 (MQ below (va_Qi (fun r (_ : Unit) => r = (o_carryR M st n)) (fun _ t9 => va_P D vwCl (moW q cI cJ (o_carry M st n)) t9.heap) A9) (List.toArray [.ref (q 0)]) s9 0 0 A9) (F0 m9 70 ls []) := by
              intro d
              induction d with
              | zero =>
                intro i V hf
                intro hkn; exact absurd hf (by omega)
              | succ d ih_70 =>
                intro i V hf_70 hkn_70 e70 hVA hV6 hokV hbV hno H locs ls hP hD hS hl
                refine lv_iload_n hx hb dX5_carryOut_70 rfl (lv_at hl 1 rfl) ?_
                refine lv_aload_n hx hb dX5_carryOut_71 rfl (lv_at hl 0 rfl) ?_
                refine va_get (D := D) (ci := 5) (v := .int (V.1 6)) (C := RX5) (T := TX5) (N := 14) hx hb hts inX5 hown hK hP 0 rfl rfl 10 (by decide) (hts (.fieldLink RX5 196 "PumpOathsModel" "orders" "I") (List.mem_of_getElem? (i := 3) rfl)) (fun _ h9 => h9) rfl dX5_carryOut_72 ?_
                refine lv_icmp_ge (tgt := 97) hx hb dX5_carryOut_75 (by decide) (fun c_75_6 => ?_) (fun c_75_6 => ?_)
                · have c_75_6 : (V.1 6) ≤ (nI i) := c_75_6
                  have hke_70 : i = k := k_exitN c_75_6 hV6 hkn_70 (by omega)
                  have hD : o_done (o_save U st) n k = i := by first | exact frst_some (by rw [e70]; simpa using c83) hno hkl_70 | (rw [o_done, ← hke_70]; exact frst_none hno)
                  refine lv_iload_n hx hb dX5_carryOut_97 rfl (lv_at hl 1 rfl) ?_
                  exact k_iret hx hb hr hlk hP hS dX5_carryOut_98 rfl (by rw [o_carryR, eL, if_pos c27, h6, nI_clamp (by omega), hD]) (k_P (congrArg (fun T9 => moW q cI cJ T9) (by rw [o_carry, eL, if_pos c27, h6, nI_clamp (by omega), hD, e70])))
                · have c_75_6 : ¬ (V.1 6) ≤ (nI i) := c_75_6
                  have hkl_70 : i < k := k_bodyN c_75_6 hV6 hkn_70 (by omega)
                  have hfi : o_fact V i := by
                    unfold o_fact
                    rw [hVA]
                    exact hfa i hkl_70
                  refine lv_aload_n hx hb dX5_carryOut_78 rfl (lv_at hl 0 rfl) ?_
                  refine lv_iload_n hx hb dX5_carryOut_79 rfl (lv_at hl 1 rfl) ?_
                  refine k_calli (a := []) (z := []) (wc := moW q cI cJ V) (wc' := moW q cI cJ V) (w' := moW q cI cJ V) (va_runV (As := [.int (nI i)]) (rest := []) ⟨hx, hb, hml, hown, hts⟩ (c_X5_can l D q cI cJ V i (by omega) n hokV.1 hn6 _) (cwV 1 hts gX5_carryOut_X5_can rfl rfl rfl (by decide +kernel) ⟨Nat.le_of_ble_eq_true rfl, Nat.le_of_ble_eq_true rfl⟩) ⟨kB_blind, va_recv hK hP (ci := 5) (q0 := 0) rfl rfl, k_pre (a := []) (z := []) (k_w0 _) hK hP hD⟩ rfl rfl hl.1 rfl (lv_room (Nat.le_of_ble_eq_true rfl)) dX5_carryOut_80 ⟨Nat.zero_le _, Nat.zero_le _⟩) (k_w0 _) (k_w0 _) (moW_ad _ _ _ _ _) hP hD hS hA (fun H locs hP hD hS => ?_)
                  refine lv_if_eq (tgt := 97) hx hb dX5_carryOut_83 (by decide) (fun c_83_7 => ?_) (fun c_83_7 => ?_)
                  · have c_83_7 : (A_X5_can_r V i) = 0 := c_83_7
                    have c83 := c_83_7
                    have hD : o_done (o_save U st) n k = i := by first | exact frst_some (by rw [e70]; simpa using c83) hno hkl_70 | (rw [o_done, ← hke_70]; exact frst_none hno)
                    refine lv_iload_n hx hb dX5_carryOut_97 rfl (lv_at hl 1 rfl) ?_
                    exact k_iret hx hb hr hlk hP hS dX5_carryOut_98 rfl (by rw [o_carryR, eL, if_pos c27, h6, nI_clamp (by omega), hD]) (k_P (congrArg (fun T9 => moW q cI cJ T9) (by rw [o_carry, eL, if_pos c27, h6, nI_clamp (by omega), hD, e70])))
                  · have c_83_7 : ¬ (A_X5_can_r V i) = 0 := c_83_7
                    have c83 := c_83_7
                    obtain ⟨t2, l1, l2, ok2⟩ := does_ok (k := i) hokV hn6 (by omega) hfi (can_isP c83 hfi)
                    refine lv_aload_n hx hb dX5_carryOut_86 rfl (lv_at hl 0 rfl) ?_
                    refine lv_iload_n hx hb dX5_carryOut_87 rfl (lv_at hl 1 rfl) ?_
                    refine k_callv (a := []) (z := []) (wc := moW q cI cJ V) (wc' := moW q cI cJ (A_X5_does_s0 V n (o_tm V) i)) (w' := moW q cI cJ (A_X5_does_s0 V n (o_tm V) i)) (va_runV (As := [.int (nI i)]) (rest := []) ⟨hx, hb, hml, hown, hts⟩ (c_X5_does l D q cI cJ V i (by omega) hfi.2 (can_isP c83 hfi) n (o_tm V) hokV hn6 (by omega) _) (cwV 1 hts gX5_carryOut_X5_does rfl rfl rfl (by decide +kernel) ⟨Nat.le_of_ble_eq_true rfl, Nat.le_of_ble_eq_true rfl⟩) ⟨kB_blind, va_recv hK hP (ci := 5) (q0 := 0) rfl rfl, k_pre (a := []) (z := []) (k_w0 _) hK hP hD⟩ rfl rfl hl.1 rfl (lv_room (Nat.le_of_ble_eq_true rfl)) dX5_carryOut_88 ⟨Nat.zero_le _, Nat.zero_le _⟩) (k_w0 _) (k_w0 _) (moW_ad _ _ _ _ _) hP hD hS hA (fun H locs hP hD hS => ?_)
                    refine lv_iinc (v := (nI i) + 1) (lv' := [(1, .int ((nI i) + 1)), (0, .ref (q 0))]) hx hb dX5_carryOut_91 hl (k := 1) rfl rfl (by decide) rfl (fun ls hl => ?_)
                    refine lv_goto (tgt := 70) hx hb dX5_carryOut_94 (by decide) ?_
                    rw [show ((nI i) + 1) = (nI (i + 1)) from nI_1 _] at hl
                    exact ih_70 (i + 1) (A_X5_does_s0 V n (o_tm V) i) (by omega) (by omega) (by rw [itr_s, e70]; simp [o_doB, c_27_1, c_38_3, c_53_4, c_75_6, c_83_7]) ((does_2 _ _ _ _).1.trans hVA) ((congrFun (does_2 _ _ _ _).2 6).trans hV6) (by rw [m_ok_tm ok2 (by omega)]; exact ok2) (by rw [m_ok_tm ok2 (by omega)]; omega) (k_ext hno (by rw [e70]; simpa using c83)) _ _ _ hP hD hS (lv_sub hl [1, 0] rfl)
            exact L_70_5 (k + 1) 0 (o_save U st) (by omega) (by omega) (rfl) (o_save_A _ _) ((o_save_I _ _ _ (by decide)).trans h6) (ok8) (by rw [tm8]; omega) (fun j hj => absurd hj (Nat.not_lt_zero _)) _ _ _ hP hD hS (lv_sub hl [1, 0] rfl)
          · have c_53_4 : ¬ (U.1 4) = (-1) := c_53_4
            exact absurd c_27_1 c_53_4
        · have c_38_3 : ¬ (U.1 1) ≤ (U.1 3) := c_38_3
          obtain ⟨h6, ⟨a, h3k, ha2, hat⟩, hfa⟩ := hw c27
          have hal : a < le := by
            have c9 := c_38_3
            rw [hle2, hat] at c9
            rcases Nat.lt_or_ge a le with q9 | q9
            · exact q9
            · exact absurd (nI_le q9 (by omega)) c9
          refine lv_aload_n hx hb dX5_carryOut_41 rfl (lv_at hl 0 rfl) ?_
          refine k_callv (a := []) (z := []) (wc := moW q cI cJ U) (wc' := moW q cI cJ (A_X5_readsOrder_s0 U k)) (w' := moW q cI cJ (A_X5_readsOrder_s0 U k)) (va_runV (As := []) (rest := []) ⟨hx, hb, hml, hown, hts⟩ (c_X5_readsOrder l D q cI cJ U k h6 (by omega) le hle2 hle1 ⟨a, by omega, hat⟩ _) (cwV 0 hts gX5_carryOut_X5_readsOrder rfl rfl rfl (by decide +kernel) ⟨Nat.le_of_ble_eq_true rfl, Nat.le_of_ble_eq_true rfl⟩) ⟨kB_blind, va_recv hK hP (ci := 5) (q0 := 0) rfl rfl, k_pre (a := []) (z := []) (k_w0 _) hK hP hD⟩ rfl rfl hl.1 rfl (lv_room (Nat.le_of_ble_eq_true rfl)) dX5_carryOut_42 ⟨Nat.zero_le _, Nat.zero_le _⟩) (k_w0 _) (k_w0 _) (moW_ad _ _ _ _ _) hP hD hS hA (fun H locs hP hD hS => ?_)
          have ok9 := o_order_ok (M := U) k (b := 100) ⟨a, by omega, hat⟩ (by decide) h6
          refine lv_goto (tgt := 22) hx hb dX5_carryOut_45 (by decide) ?_
          exact ih_22 (k + 1) (A_X5_readsOrder_s0 U k) (by omega) (by omega) (by rw [itr_s, e22]; simp [o_rdB, c_27_1, c_38_3]) (ok9.1.trans hle2) ((o_order_0 _ _).trans hst2) (ok9.2.1.trans hV2) (fun h9 => by obtain ⟨m4, g6, ⟨x, y, l1, u1, p1, q1⟩, gf, gk⟩ := ok9.2.2.2 h9; exact ⟨g6, ⟨y, by have e9 : a = x := (nI_eq (by omega) (by omega)).mp (hat.symm.trans p1); omega, u1, q1⟩, fun j9 hj => by rcases Nat.lt_or_ge j9 k with q9 | q9; (have ff := hfa j9 q9; have gg := gk j9 (by omega); exact ⟨by rw [gg.1]; exact ff.1, by rw [gg.1, gg.2]; exact ff.2⟩); (have e9 : j9 = k := by omega); (subst e9; exact gf)⟩) _ _ _ hP hD hS (lv_sub hl [0] rfl)
  exact L_22_0 (34 + 1) 0 (o_setI (o_setI (o_setI (o_setI M 2 0) 3 0) 4 (-1)) 6 0) (by omega) (by omega) (rfl) (hle) (hst) (rfl) (fun _ => ⟨rfl, ⟨0, by omega, by omega, rfl⟩, fun i hi => absurd hi (Nat.not_lt_zero _)⟩) _ _ _ hP hD hS (lv_sub hl [0] rfl)
