set_option maxHeartbeats 1000000 in
set_option maxRecDepth 100000 in
theorem c_X5_emptyIn (l : Launch) (D : va_G) (q : Nat → Nat) (cI cJ : ClassId) (M : MS) (n t : Nat) (hok : m_ok (M.2.1 0) n t) (hn6 : n ≤ 6) (htb : t < 2 ^ 38) : kI l yX5_emptyIn wsX5_emptyIn ({ frames := 4, cells := 0, slots := 0, locals := 90 } : Room) D [(cI, .int), (cJ, .long)] [.ref (q 0)] (moW q cI cJ M) (o_emptyInR M n t) (moW q cI cJ (o_emptyIn M n t)) := by
  refine kBody.met (cc := cX5_emptyIn) (maxL := 2) (ret := (some .int)) (by decide) rfl (Nat.le_of_ble_eq_true rfl) ?_
  intro p9 e9 s9 m9 below meth c9 A9 ls hx hb hr hml hts hown hlk hK hP hD hA hl
  have hown : s9.vm.findClass RX5 = some m9.cls := hown
  have inX5 : ∀ w ∈ wsX50, w ∈ wsX5_emptyIn := fun w h => List.mem_cons_of_mem _ (List.mem_append_right _ (h))
  have hS : va_S A9 s9.heap s9.heap [] := va_S.rf
  have hl : lv_has ls 2 [(0, .ref (q 0))] := hl
  refine lv_aload_n hx hb dX5_emptyIn_0 rfl (lv_at hl 0 rfl) ?_
  refine lv_iconst (v := 0) hx hb dX5_emptyIn_1 (by decide) ?_
  refine lv_iconst (v := 0) hx hb dX5_emptyIn_2 (by decide) ?_
  refine k_calli (a := []) (z := []) (wc := moW q cI cJ M) (wc' := moW q cI cJ (o_setI M 2 0)) (w' := moW q cI cJ (o_setI M 2 0)) (va_runV (As := [.int 0, .int 0]) (rest := []) ⟨hx, hb, hml, hown, hts⟩ (c_X5_goes00 l D q cI cJ M _) (cwV 2 hts gX5_emptyIn_X5_goes rfl rfl rfl (by decide +kernel) ⟨Nat.le_of_ble_eq_true rfl, Nat.le_of_ble_eq_true rfl⟩) ⟨kB_blind, va_recv hK hP (ci := 5) (q0 := 0) rfl rfl, k_pre (a := []) (z := []) (k_w0 _) hK hP hD⟩ rfl rfl hl.1 rfl (lv_room (Nat.le_of_ble_eq_true rfl)) dX5_emptyIn_3 ⟨Nat.zero_le _, Nat.zero_le _⟩) (k_w0 _) (k_w0 _) (moW_ad _ _ _ _ _) hP hD hS hA (fun H locs hP hD hS => ?_)
  refine lv_pop hx hb dX5_emptyIn_6 rfl ?_
  refine lv_aload_n hx hb dX5_emptyIn_7 rfl (lv_at hl 0 rfl) ?_
  refine k_callv (a := []) (z := []) (wc := moW q cI cJ (o_setI M 2 0)) (wc' := moW q cI cJ (o_setV (o_setI M 2 0) 1 (M.2.1 0))) (w' := moW q cI cJ (o_setV (o_setI M 2 0) 1 (M.2.1 0))) (va_runV (As := []) (rest := []) ⟨hx, hb, hml, hown, hts⟩ (c_X5_tries l D q cI cJ (o_setI M 2 0) _) (cwV 0 hts gX5_emptyIn_X5_tries rfl rfl rfl (by decide +kernel) ⟨Nat.le_of_ble_eq_true rfl, Nat.le_of_ble_eq_true rfl⟩) ⟨kB_blind, va_recv hK hP (ci := 5) (q0 := 0) rfl rfl, k_pre (a := []) (z := []) (k_w0 _) hK hP hD⟩ rfl rfl hl.1 rfl (lv_room (Nat.le_of_ble_eq_true rfl)) dX5_emptyIn_8 ⟨Nat.zero_le _, Nat.zero_le _⟩) (k_w0 _) (k_w0 _) (moW_ad _ _ _ _ _) hP hD hS hA (fun H locs hP hD hS => ?_)
  refine lv_iconst (v := 0) hx hb dX5_emptyIn_11 (by decide) ?_
  refine lv_istore_n (lv' := [(1, .int 0), (0, .ref (q 0))]) hx hb dX5_emptyIn_12 rfl hl (by decide) rfl (fun ls hl => ?_)
  have L_13_0 : ∀ (d : Nat) (k : Nat) (f : Nat → Int64), n < k + d → k ≤ n → ∀  (e13 : itr (o_piB 2 2) k (M.2.1 0) = f) (H : Heap) (locs : List Loc) (ls : Array Slot), va_P D vwCl (moW q cI cJ (o_setV (o_setI M 2 0) 1 f)) H → va_D A9 (moW q cI cJ (o_setV (o_setI M 2 0) 1 f)) → va_S A9 s9.heap H locs → lv_has ls 2 [(0, .ref (q 0)), (1, .int (nI k))] → W p9 l e9 ({ frames := 4, cells := 0, slots := 0, locals := 90 } : Room) s9 m9 (List.toArray [.ref (q 0)]) below meth c9 H locs 0 0 (MQ below (va_Qi (fun r (_ : Unit) => r = (o_emptyInR M n t)) (fun _ t9 => va_P D vwCl (moW q cI cJ (o_emptyIn M n t)) t9.heap) A9) (List.toArray [.ref (q 0)]) s9 0 0 A9) (F0 m9 13 ls []) := by
    intro d
    induction d with
    | zero =>
      intro k f hf
      intro hkn; exact absurd hf (by omega)
    | succ d ih_13 =>
      intro k f hf_13 hkn_13 e13 H locs ls hP hD hS hl
      refine lv_iload_n hx hb dX5_emptyIn_13 rfl (lv_at hl 1 rfl) ?_
      refine lv_i2l hx hb dX5_emptyIn_14 rfl ?_
      refine lv_aload_n hx hb dX5_emptyIn_15 rfl (lv_at hl 0 rfl) ?_
      refine va_get (D := D) (ci := 5) (v := .ref (q 1)) (C := RX5) (T := TX5) (N := 14) hx hb hts inX5 hown hK hP 0 rfl rfl 0 (by decide) (hts (.fieldLink RX5 7 "PumpOathsModel" "now" "[J") (List.mem_of_getElem? (i := 1) rfl)) (fun _ h9 => h9) rfl dX5_emptyIn_16 ?_
      refine lv_bipush (v := 7) hx hb dX5_emptyIn_19 (by decide) ?_
      refine va_lald (f := M.2.1 0) hx hb hK hP 1 1 rfl rfl (k_in (k := 7) rfl (by decide) (by decide)) dX5_emptyIn_21 ?_
      rw [show (7 : Int32).toNatClampNeg = 7 from rfl]
      refine W.lcmp hx hb dX5_emptyIn_22 ?_
      refine lv_if_ge (tgt := 45) hx hb dX5_emptyIn_23 (by decide) (fun c_23_1 => ?_) (fun c_23_1 => ?_)
      · have c_23_1 : ((M.2.1 0) 7) ≤ ((nI k).toInt64) := (lg_cmp_ge ((nI k).toInt64) ((M.2.1 0) 7)).mp c_23_1
        have hke_13 : n = k := (k_exitL c_23_1 hok.1 hkn_13 (by omega)).symm
        subst hke_13
        refine lv_iconst (v := 0) hx hb dX5_emptyIn_45 (by decide) ?_
        refine lv_istore_n (lv' := [(1, .int 0), (0, .ref (q 0))]) hx hb dX5_emptyIn_46 rfl hl (by decide) rfl (fun ls hl => ?_)
        have L_47_2 : ∀ (d : Nat) (k : Nat) (g : Nat → Int64), 1441 < k + d → k ≤ 1441 → ∀  (e47 : itr (m_goB n t) k f = g) (hq : m_ok g n (t + k)) (hno : ∀ j, j < k → decide (o_emRow (M.2.1 0) n t j 1 = 0) = false) (H : Heap) (locs : List Loc) (ls : Array Slot), va_P D vwCl (moW q cI cJ (o_setV (o_setI M 2 0) 1 g)) H → va_D A9 (moW q cI cJ (o_setV (o_setI M 2 0) 1 g)) → va_S A9 s9.heap H locs → lv_has ls 2 [(0, .ref (q 0)), (1, .int (nI k))] → W p9 l e9 ({ frames := 4, cells := 0, slots := 0, locals := 90 } : Room) s9 m9 (List.toArray [.ref (q 0)]) below meth c9 H locs 0 0 (MQ below (va_Qi (fun r (_ : Unit) => r = (o_emptyInR M n t)) (fun _ t9 => va_P D vwCl (moW q cI cJ (o_emptyIn M n t)) t9.heap) A9) (List.toArray [.ref (q 0)]) s9 0 0 A9) (F0 m9 47 ls []) := by
          intro d
          induction d with
          | zero =>
            intro k g hf
            intro hkn; exact absurd hf (by omega)
          | succ d ih_47 =>
            intro k g hf_47 hkn_47 e47 hq hno H locs ls hP hD hS hl
            refine lv_iload_n hx hb dX5_emptyIn_47 rfl (lv_at hl 1 rfl) ?_
            refine lv_sipush (v := 1441) hx hb dX5_emptyIn_48 (by decide) ?_
            refine lv_icmp_ge (tgt := 80) hx hb dX5_emptyIn_51 (by decide) (fun c_51_3 => ?_) (fun c_51_3 => ?_)
            · have c_51_3 : 1441 ≤ (nI k) := c_51_3
              have hke_47 : k = 1441 := k_exitN c_51_3 rfl hkn_47 (by decide)
              refine lv_iconst (v := (-1)) hx hb dX5_emptyIn_80 (by decide) ?_
              exact k_iret hx hb hr hlk hP hS dX5_emptyIn_81 rfl (by have ha : o_emAt (M.2.1 0) n t = 1441 := frst_none (by rw [← hke_47]; exact hno); rw [o_emptyInR, ha, if_neg (by decide)]) (k_P (congrArg (fun T9 => moW q cI cJ T9) (by have ha : o_emAt (M.2.1 0) n t = 1441 := frst_none (by rw [← hke_47]; exact hno); rw [o_emptyIn, ha, o_emRow, e13, ← hke_47, e47])))
            · have c_51_3 : ¬ 1441 ≤ (nI k) := c_51_3
              have hkl_47 : k < 1441 := k_bodyN c_51_3 rfl hkn_47 (by decide)
              refine lv_aload_n hx hb dX5_emptyIn_54 rfl (lv_at hl 0 rfl) ?_
              refine va_get (D := D) (ci := 5) (v := .ref (q 2)) (C := RX5) (T := TX5) (N := 14) hx hb hts inX5 hown hK hP 0 rfl rfl 1 (by decide) (hts (.fieldLink RX5 13 "PumpOathsModel" "tried" "[J") (List.mem_of_getElem? (i := 2) rfl)) (fun _ h9 => h9) rfl dX5_emptyIn_55 ?_
              refine lv_iconst (v := 1) hx hb dX5_emptyIn_58 (by decide) ?_
              refine va_lald (f := g) hx hb hK hP 2 1 rfl rfl (k_in (k := 1) rfl (by decide) (by decide)) dX5_emptyIn_59 ?_
              rw [show (1 : Int32).toNatClampNeg = 1 from rfl]
              refine lv_lconst (v := 0) hx hb dX5_emptyIn_60 (by decide) ?_
              refine W.lcmp hx hb dX5_emptyIn_61 ?_
              refine lv_if_ne (tgt := 67) hx hb dX5_emptyIn_62 (by decide) (fun c_62_4 => ?_) (fun c_62_4 => ?_)
              · have c_62_4 : ¬ (g 1) = 0 := mt (lg_cmp_eq (g 1) 0).mpr c_62_4
                refine lv_aload_n hx hb dX5_emptyIn_67 rfl (lv_at hl 0 rfl) ?_
                refine va_get (D := D) (ci := 5) (v := .ref (q 2)) (C := RX5) (T := TX5) (N := 14) hx hb hts inX5 hown hK hP 0 rfl rfl 1 (by decide) (hts (.fieldLink RX5 13 "PumpOathsModel" "tried" "[J") (List.mem_of_getElem? (i := 2) rfl)) (fun _ h9 => h9) rfl dX5_emptyIn_68 ?_
                refine k_callv (a := List.take 2 (moW q cI cJ (o_setV (o_setI M 2 0) 1 g))) (z := List.drop 3 (moW q cI cJ (o_setV (o_setI M 2 0) 1 g))) (wc := rwW (q 2) cJ g) (wc' := rwW (q 2) cJ (m_pass g n (t + k))) (w' := moW q cI cJ (o_setV (o_setI M 2 0) 1 (m_pass g n (t + k)))) (va_runS (As := [.ref (q 2)]) (rest := []) ⟨hx, hb, hml, hown, hts⟩ (c_X5_passes l D (q 2) cI cJ g n hq.1 hn6 hq.2.1 (t + k) hq.2.2 (by omega) _) (cwS 1 hts gX5_emptyIn_X5_passes rfl rfl rfl (by decide +kernel) ⟨Nat.le_of_ble_eq_true rfl, Nat.le_of_ble_eq_true rfl⟩) ⟨kB_blind, k_pre (a := List.take 2 (moW q cI cJ (o_setV (o_setI M 2 0) 1 g))) (z := List.drop 3 (moW q cI cJ (o_setV (o_setI M 2 0) 1 g))) rfl hK hP hD⟩ rfl rfl hl.1 rfl (lv_room (Nat.le_of_ble_eq_true rfl)) dX5_emptyIn_71 ⟨Nat.zero_le _, Nat.zero_le _⟩) rfl rfl (rwW_ad _ _ _ _) hP hD hS hA (fun H locs hP hD hS => ?_)
                refine lv_iinc (v := (nI k) + 1) (lv' := [(1, .int ((nI k) + 1)), (0, .ref (q 0))]) hx hb dX5_emptyIn_74 hl (k := 1) rfl rfl (by decide) rfl (fun ls hl => ?_)
                refine lv_goto (tgt := 47) hx hb dX5_emptyIn_77 (by decide) ?_
                rw [show ((nI k) + 1) = (nI (k + 1)) from nI_1 _] at hl
                exact ih_47 (k + 1) (m_pass g n (t + k)) (by omega) (by omega) (by rw [itr_s, e47]; simp [m_goB, c_23_1, c_51_3, c_62_4]) (m_pass_ok hq hn6 (by omega)) (k_ext hno (by rw [o_emRow, e13, e47]; simpa using c_62_4)) _ _ _ hP hD hS (lv_sub hl [1, 0] rfl)
              · have c_62_4 : (g 1) = 0 := (lg_cmp_eq (g 1) 0).mp c_62_4
                refine lv_iload_n hx hb dX5_emptyIn_65 rfl (lv_at hl 1 rfl) ?_
                exact k_iret hx hb hr hlk hP hS dX5_emptyIn_66 rfl (by have ha : o_emAt (M.2.1 0) n t = k := frst_some (by rw [o_emRow, e13, e47]; simpa using c_62_4) hno hkl_47; rw [o_emptyInR, ha, if_pos hkl_47]) (k_P (congrArg (fun T9 => moW q cI cJ T9) (by have ha : o_emAt (M.2.1 0) n t = k := frst_some (by rw [o_emRow, e13, e47]; simpa using c_62_4) hno hkl_47; rw [o_emptyIn, ha, o_emRow, e13, e47])))
        exact L_47_2 (1441 + 1) 0 f (by omega) (by omega) (rfl) (by rw [← e13]; exact o_pi_ok (by decide) hn6 hok) (fun j hj => absurd hj (Nat.not_lt_zero _)) _ _ _ hP hD hS (lv_sub hl [1, 0] rfl)
      · have c_23_1 : ¬ ((M.2.1 0) 7) ≤ ((nI k).toInt64) := mt (lg_cmp_ge ((nI k).toInt64) ((M.2.1 0) 7)).mpr c_23_1
        have hkl_13 : k < n := k_bodyL c_23_1 hok.1 hkn_13 (by omega)
        refine lv_aload_n hx hb dX5_emptyIn_26 rfl (lv_at hl 0 rfl) ?_
        refine va_get (D := D) (ci := 5) (v := .ref (q 2)) (C := RX5) (T := TX5) (N := 14) hx hb hts inX5 hown hK hP 0 rfl rfl 1 (by decide) (hts (.fieldLink RX5 13 "PumpOathsModel" "tried" "[J") (List.mem_of_getElem? (i := 2) rfl)) (fun _ h9 => h9) rfl dX5_emptyIn_27 ?_
        refine lv_iload_n hx hb dX5_emptyIn_30 rfl (lv_at hl 1 rfl) ?_
        refine lv_iconst (v := 2) hx hb dX5_emptyIn_31 (by decide) ?_
        refine k_calli (a := []) (z := moW q cI cJ (o_setV (o_setI M 2 0) 1 f)) (wc := []) (wc' := []) (w' := moW q cI cJ (o_setV (o_setI M 2 0) 1 f)) (va_runS (As := [.int (nI k), .int 2]) (rest := [.ref (q 2)]) ⟨hx, hb, hml, hown, hts⟩ (c_X5_p l D cI cJ (nI k) 2 _) (cwS 2 hts gX5_emptyIn_X5_p rfl rfl rfl (by decide +kernel) ⟨Nat.le_of_ble_eq_true rfl, Nat.le_of_ble_eq_true rfl⟩) ⟨kB_blind, k_pre (a := []) (z := moW q cI cJ (o_setV (o_setI M 2 0) 1 f)) rfl hK hP hD⟩ rfl rfl hl.1 rfl (lv_room (Nat.le_of_ble_eq_true rfl)) dX5_emptyIn_32 ⟨Nat.zero_le _, Nat.zero_le _⟩) rfl rfl rfl hP hD hS hA (fun H locs hP hD hS => ?_)
        rw [show 48 + 8 * (nI k) + 2 = nI (48 + 8 * k + 2) from k_p k 2]
        refine lv_ldc2 (v := 2) hx hb hown (hts (.constantLong RX5 89 (2)) (List.mem_of_getElem? (i := 3) rfl)) dX5_emptyIn_35 ?_
        refine va_last (f := f) hx hb hK hP hD hS 2 1 rfl rfl (k_in (k := 48 + 8 * k + 2) rfl (by omega) (by decide)) dX5_emptyIn_38 (fun H locs hP hD hS => ?_)
        rw [show (nI (48 + 8 * k + 2) : Int32).toNatClampNeg = 48 + 8 * k + 2 from nI_clamp (by omega)] at hP hD
        have hP : va_P D vwCl (moW q cI cJ (o_setV (o_setI M 2 0) 1 (vp_updL f (48 + 8 * k + 2) 2))) H := hP
        have hD : va_D A9 (moW q cI cJ (o_setV (o_setI M 2 0) 1 (vp_updL f (48 + 8 * k + 2) 2))) := hD
        refine lv_iinc (v := (nI k) + 1) (lv' := [(1, .int ((nI k) + 1)), (0, .ref (q 0))]) hx hb dX5_emptyIn_39 hl (k := 1) rfl rfl (by decide) rfl (fun ls hl => ?_)
        refine lv_goto (tgt := 13) hx hb dX5_emptyIn_42 (by decide) ?_
        rw [show ((nI k) + 1) = (nI (k + 1)) from nI_1 _] at hl
        exact ih_13 (k + 1) (vp_updL f (48 + 8 * k + 2) 2) (by omega) (by omega) (by rw [itr_s, e13]; simp [o_piB, c_23_1]) _ _ _ hP hD hS (lv_sub hl [1, 0] rfl)
  exact L_13_0 (n + 1) 0 (M.2.1 0) (by omega) (by omega) (rfl) _ _ _ hP hD hS (lv_sub hl [1, 0] rfl)
