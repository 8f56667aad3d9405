set_option maxHeartbeats 1000000 in
set_option maxRecDepth 100000 in
theorem c_X5_oathFor (l : Launch) (D : va_G) (q : Nat → Nat) (cI cJ : ClassId) (M : MS) (x : Int32) (n t : Nat) (hok : m_ok (M.2.1 0) n t) (hn6 : n ≤ 6) (htb : t < 2 ^ 38) : kI l yX5_oathFor wsX5_oathFor ({ frames := 5, cells := 0, slots := 0, locals := 112 } : Room) D [(cI, .int), (cJ, .long)] [.ref (q 0), .int x] (moW q cI cJ M) (o_oathForR M n t x) (moW q cI cJ (o_oathFor M n t x)) := by
  refine kBody.met (cc := cX5_oathFor) (maxL := 4) (ret := (some .int)) (by decide) rfl (Nat.le_of_ble_eq_true rfl) ?_
  intro p9 e9 s9 m9 below meth c9 A9 ls hx hb hr hml hts hown hlk hK hP hD hA hl
  have hown : s9.vm.findClass RX5 = some m9.cls := hown
  have inX5 : ∀ w ∈ wsX50, w ∈ wsX5_oathFor := fun w h => List.mem_cons_of_mem _ (List.mem_append_right _ (h))
  have hS : va_S A9 s9.heap s9.heap [] := va_S.rf
  have hl : lv_has ls 4 [(0, .ref (q 0)), (1, .int x)] := hl
  refine lv_aload_n hx hb dX5_oathFor_0 rfl (lv_at hl 0 rfl) ?_
  refine lv_iload_n hx hb dX5_oathFor_1 rfl (lv_at hl 1 rfl) ?_
  refine lv_i2l hx hb dX5_oathFor_2 rfl ?_
  refine lv_lconst (v := 1) hx hb dX5_oathFor_3 (by decide) ?_
  refine lv_ldc2 (v := 1440) hx hb hown (hts (.constantLong RX5 107 (1440)) (List.mem_of_getElem? (i := 1) rfl)) dX5_oathFor_4 ?_
  refine k_calli (a := []) (z := moW q cI cJ M) (wc := []) (wc' := []) (w' := moW q cI cJ M) (va_runS (As := [.long x.toInt64, .long 1, .long 1440]) (rest := [.ref (q 0)]) ⟨hx, hb, hml, hown, hts⟩ (c_X5_in l D cI cJ x.toInt64 1 1440 _) (cwS 3 hts gX5_oathFor_X5_in rfl rfl rfl (by decide +kernel) ⟨Nat.le_of_ble_eq_true rfl, Nat.le_of_ble_eq_true rfl⟩) ⟨kB_blind, k_pre (a := []) (z := moW q cI cJ M) rfl hK hP hD⟩ rfl rfl hl.1 rfl (lv_room (Nat.le_of_ble_eq_true rfl)) dX5_oathFor_7 ⟨Nat.zero_le _, Nat.zero_le _⟩) rfl rfl rfl hP hD hS hA (fun H locs hP hD hS => ?_)
  refine lv_if_ne (tgt := 17) hx hb dX5_oathFor_10 (by decide) (fun c_10_0 => ?_) (fun c_10_0 => ?_)
  · have c_10_0 : (m_in x.toInt64 1 1440) = true := bi_n.mp c_10_0
    refine lv_iconst (v := 0) hx hb dX5_oathFor_17 (by decide) ?_
    refine lv_iconst (v := 0) hx hb dX5_oathFor_18 (by decide) ?_
    refine k_calli (a := []) (z := []) (wc := moW q cI cJ M) (wc' := moW q cI cJ (o_setI M 2 0)) (w' := moW q cI cJ (o_setI M 2 0)) (va_runV (As := [.int 0, .int 0]) (rest := []) ⟨hx, hb, hml, hown, hts⟩ (c_X5_goes00 l D q cI cJ M _) (cwV 2 hts gX5_oathFor_X5_goes rfl rfl rfl (by decide +kernel) ⟨Nat.le_of_ble_eq_true rfl, Nat.le_of_ble_eq_true rfl⟩) ⟨kB_blind, va_recv hK hP (ci := 5) (q0 := 0) rfl rfl, k_pre (a := []) (z := []) (k_w0 _) hK hP hD⟩ rfl rfl hl.1 rfl (lv_room (Nat.le_of_ble_eq_true rfl)) dX5_oathFor_19 ⟨Nat.zero_le _, Nat.zero_le _⟩) (k_w0 _) (k_w0 _) (moW_ad _ _ _ _ _) hP hD hS hA (fun H locs hP hD hS => ?_)
    refine lv_if_ne (tgt := 27) hx hb dX5_oathFor_22 (by decide) (fun _ => ?_) (fun h => absurd h (by decide))
    refine lv_iconst (v := 1) hx hb dX5_oathFor_27 (by decide) ?_
    refine lv_istore_n (lv' := [(2, .int 1), (0, .ref (q 0)), (1, .int x)]) hx hb dX5_oathFor_28 rfl hl (by decide) rfl (fun ls hl => ?_)
    have L_29_2 : ∀ (d : Nat) (i : Nat) (g : Nat → Int64), 12 < i + d → i ≤ 12 → ∀  (hno : ∀ j, j < i → decide (o_ofRow (M.2.1 0) n t x.toNatClampNeg (j + 1) 9 = M.2.1 0 9) = false) (hg : i = 0 ∨ o_ofRow (M.2.1 0) n t x.toNatClampNeg i = g) (H : Heap) (locs : List Loc) (ls : Array Slot), va_P D vwCl (moW q cI cJ (o_setV (o_setI M 2 0) 1 g)) H → va_D A9 (moW q cI cJ (o_setV (o_setI M 2 0) 1 g)) → va_S A9 s9.heap H locs → lv_has ls 4 [(0, .ref (q 0)), (1, .int x), (2, .int (nI (i + 1)))] → W p9 l e9 ({ frames := 5, cells := 0, slots := 0, locals := 112 } : Room) s9 m9 (List.toArray [.ref (q 0), .int x]) below meth c9 H locs 0 0 (MQ below (va_Qi (fun r (_ : Unit) => r = (o_oathForR M n t x)) (fun _ t9 => va_P D vwCl (moW q cI cJ (o_oathFor M n t x)) t9.heap) A9) (List.toArray [.ref (q 0), .int x]) s9 0 0 A9) (F0 m9 29 ls []) := by
      intro d
      induction d with
      | zero =>
        intro i g hf
        intro hkn; exact absurd hf (by omega)
      | succ d ih_29 =>
        intro i g hf_29 hkn_29 hno hg H locs ls hP hD hS hl
        refine lv_iload_n hx hb dX5_oathFor_29 rfl (lv_at hl 2 rfl) ?_
        refine lv_bipush (v := 13) hx hb dX5_oathFor_30 (by decide) ?_
        refine lv_icmp_ge (tgt := 103) hx hb dX5_oathFor_32 (by decide) (fun c_32_3 => ?_) (fun c_32_3 => ?_)
        · have c_32_3 : 13 ≤ (nI (i + 1)) := c_32_3
          have hke_29 : i = 12 := by
            rcases Nat.lt_or_ge i 12 with q9 | q9
            · exact absurd (show nI 13 ≤ nI (i + 1) from c_32_3) (nI_ge (by omega) (by decide))
            · omega
          refine lv_iconst (v := (-1)) hx hb dX5_oathFor_103 (by decide) ?_
          exact k_iret hx hb hr hlk hP hS dX5_oathFor_104 rfl (by have ha : o_ofAt (M.2.1 0) n t x.toNatClampNeg = 12 := frst_none (by rw [← hke_29]; exact hno); rw [o_oathForR, if_pos c_10_0, ha, if_neg (by decide)]) (k_P (congrArg (fun T9 => moW q cI cJ T9) (by have ha : o_ofAt (M.2.1 0) n t x.toNatClampNeg = 12 := frst_none (by rw [← hke_29]; exact hno); rw [o_oathFor, if_pos c_10_0, ha, if_neg (by decide)]; exact hg.elim (fun q9 => by omega) (fun q9 => by rw [← q9, hke_29]))))
        · have c_32_3 : ¬ 13 ≤ (nI (i + 1)) := c_32_3
          have hkl_29 : i < 12 := by
            rcases Nat.lt_or_ge i 12 with q9 | q9
            · exact q9
            · exact absurd (show nI 13 ≤ nI (i + 1) from nI_le (by omega) (by omega)) c_32_3
          refine lv_aload_n hx hb dX5_oathFor_35 rfl (lv_at hl 0 rfl) ?_
          refine k_callv (a := []) (z := []) (wc := moW q cI cJ (o_setV (o_setI M 2 0) 1 g)) (wc' := moW q cI cJ (o_setV (o_setI M 2 0) 1 (M.2.1 0))) (w' := moW q cI cJ (o_setV (o_setI M 2 0) 1 (M.2.1 0))) (va_runV (As := []) (rest := []) ⟨hx, hb, hml, hown, hts⟩ (c_X5_tries l D q cI cJ (o_setV (o_setI M 2 0) 1 g) _) (cwV 0 hts gX5_oathFor_X5_tries rfl rfl rfl (by decide +kernel) ⟨Nat.le_of_ble_eq_true rfl, Nat.le_of_ble_eq_true rfl⟩) ⟨kB_blind, va_recv hK hP (ci := 5) (q0 := 0) rfl rfl, k_pre (a := []) (z := []) (k_w0 _) hK hP hD⟩ rfl rfl hl.1 rfl (lv_room (Nat.le_of_ble_eq_true rfl)) dX5_oathFor_36 ⟨Nat.zero_le _, Nat.zero_le _⟩) (k_w0 _) (k_w0 _) (moW_ad _ _ _ _ _) hP hD hS hA (fun H locs hP hD hS => ?_)
          refine lv_iconst (v := 0) hx hb dX5_oathFor_39 (by decide) ?_
          refine lv_istore_n (lv' := [(3, .int 0), (0, .ref (q 0)), (1, .int x), (2, .int (nI (i + 1)))]) hx hb dX5_oathFor_40 rfl hl (by decide) rfl (fun ls hl => ?_)
          have L_41_4 : ∀ (d : Nat) (k : Nat) (f : Nat → Int64), n < k + d → k ≤ n → ∀  (e41 : itr (o_piB 1 (nI (i + 1)).toInt64) k (M.2.1 0) = f) (H : Heap) (locs : List Loc) (ls : Array Slot), va_P D vwCl (moW q cI cJ (o_setV (o_setI M 2 0) 1 f)) H → va_D A9 (moW q cI cJ (o_setV (o_setI M 2 0) 1 f)) → va_S A9 s9.heap H locs → lv_has ls 4 [(0, .ref (q 0)), (1, .int x), (2, .int (nI (i + 1))), (3, .int (nI k))] → W p9 l e9 ({ frames := 5, cells := 0, slots := 0, locals := 112 } : Room) s9 m9 (List.toArray [.ref (q 0), .int x]) below meth c9 H locs 0 0 (MQ below (va_Qi (fun r (_ : Unit) => r = (o_oathForR M n t x)) (fun _ t9 => va_P D vwCl (moW q cI cJ (o_oathFor M n t x)) t9.heap) A9) (List.toArray [.ref (q 0), .int x]) s9 0 0 A9) (F0 m9 41 ls []) := by
            intro d
            induction d with
            | zero =>
              intro k f hf
              intro hkn; exact absurd hf (by omega)
            | succ d ih_41 =>
              intro k f hf_41 hkn_41 e41 H locs ls hP hD hS hl
              refine lv_iload_n hx hb dX5_oathFor_41 rfl (lv_at hl 3 rfl) ?_
              refine lv_i2l hx hb dX5_oathFor_42 rfl ?_
              refine lv_aload_n hx hb dX5_oathFor_43 rfl (lv_at hl 0 rfl) ?_
              refine va_get (D := D) (ci := 5) (v := .ref (q 1)) (C := RX5) (T := TX5) (N := 14) hx hb hts inX5 hown hK hP 0 rfl rfl 0 (by decide) (hts (.fieldLink RX5 7 "PumpOathsModel" "now" "[J") (List.mem_of_getElem? (i := 2) rfl)) (fun _ h9 => h9) rfl dX5_oathFor_44 ?_
              refine lv_bipush (v := 7) hx hb dX5_oathFor_47 (by decide) ?_
              refine va_lald (f := M.2.1 0) hx hb hK hP 1 1 rfl rfl (k_in (k := 7) rfl (by decide) (by decide)) dX5_oathFor_49 ?_
              rw [show (7 : Int32).toNatClampNeg = 7 from rfl]
              refine W.lcmp hx hb dX5_oathFor_50 ?_
              refine lv_if_ge (tgt := 72) hx hb dX5_oathFor_51 (by decide) (fun c_51_5 => ?_) (fun c_51_5 => ?_)
              · have c_51_5 : ((M.2.1 0) 7) ≤ ((nI k).toInt64) := (lg_cmp_ge ((nI k).toInt64) ((M.2.1 0) 7)).mp c_51_5
                have hke_41 : n = k := (k_exitL c_51_5 hok.1 hkn_41 (by omega)).symm
                subst hke_41
                refine lv_aload_n hx hb dX5_oathFor_72 rfl (lv_at hl 0 rfl) ?_
                refine lv_iload_n hx hb dX5_oathFor_73 rfl (lv_at hl 1 rfl) ?_
                refine k_callv (a := []) (z := []) (wc := moW q cI cJ (o_setV (o_setI M 2 0) 1 f)) (wc' := moW q cI cJ (o_setV (o_setI M 2 0) 1 (itr (m_goB n t) x.toNatClampNeg f))) (w' := moW q cI cJ (o_setV (o_setI M 2 0) 1 (itr (m_goB n t) x.toNatClampNeg f))) (va_runV (As := [.int x]) (rest := []) ⟨hx, hb, hml, hown, hts⟩ (c_X5_goesOn l D q cI cJ (o_setV (o_setI M 2 0) 1 f) x n t (by rw [← e41]; exact o_pi_ok (by decide) hn6 hok) hn6 htb _) (cwV 1 hts gX5_oathFor_X5_goesOn rfl rfl rfl (by decide +kernel) ⟨Nat.le_of_ble_eq_true rfl, Nat.le_of_ble_eq_true rfl⟩) ⟨kB_blind, va_recv hK hP (ci := 5) (q0 := 0) rfl rfl, k_pre (a := []) (z := []) (k_w0 _) hK hP hD⟩ rfl rfl hl.1 rfl (lv_room (Nat.le_of_ble_eq_true rfl)) dX5_oathFor_74 ⟨Nat.zero_le _, Nat.zero_le _⟩) (k_w0 _) (k_w0 _) (moW_ad _ _ _ _ _) hP hD hS hA (fun H locs hP hD hS => ?_)
                refine lv_aload_n hx hb dX5_oathFor_77 rfl (lv_at hl 0 rfl) ?_
                refine va_get (D := D) (ci := 5) (v := .ref (q 2)) (C := RX5) (T := TX5) (N := 14) hx hb hts inX5 hown hK hP 0 rfl rfl 1 (by decide) (hts (.fieldLink RX5 13 "PumpOathsModel" "tried" "[J") (List.mem_of_getElem? (i := 3) rfl)) (fun _ h9 => h9) rfl dX5_oathFor_78 ?_
                refine lv_bipush (v := 9) hx hb dX5_oathFor_81 (by decide) ?_
                refine va_lald (f := itr (m_goB n t) x.toNatClampNeg f) hx hb hK hP 2 1 rfl rfl (k_in (k := 9) rfl (by decide) (by decide)) dX5_oathFor_83 ?_
                rw [show (9 : Int32).toNatClampNeg = 9 from rfl]
                refine lv_aload_n hx hb dX5_oathFor_84 rfl (lv_at hl 0 rfl) ?_
                refine va_get (D := D) (ci := 5) (v := .ref (q 1)) (C := RX5) (T := TX5) (N := 14) hx hb hts inX5 hown hK hP 0 rfl rfl 0 (by decide) (hts (.fieldLink RX5 7 "PumpOathsModel" "now" "[J") (List.mem_of_getElem? (i := 2) rfl)) (fun _ h9 => h9) rfl dX5_oathFor_85 ?_
                refine lv_bipush (v := 9) hx hb dX5_oathFor_88 (by decide) ?_
                refine va_lald (f := M.2.1 0) hx hb hK hP 1 1 rfl rfl (k_in (k := 9) rfl (by decide) (by decide)) dX5_oathFor_90 ?_
                rw [show (9 : Int32).toNatClampNeg = 9 from rfl]
                refine W.lcmp hx hb dX5_oathFor_91 ?_
                refine lv_if_ne (tgt := 97) hx hb dX5_oathFor_92 (by decide) (fun c_92_6 => ?_) (fun c_92_6 => ?_)
                · have c_92_6 : ¬ ((itr (m_goB n t) x.toNatClampNeg f) 9) = ((M.2.1 0) 9) := mt (lg_cmp_eq ((itr (m_goB n t) x.toNatClampNeg f) 9) ((M.2.1 0) 9)).mpr c_92_6
                  refine lv_iinc (v := (nI (i + 1)) + 1) (lv' := [(2, .int ((nI (i + 1)) + 1)), (0, .ref (q 0)), (1, .int x), (3, .int (nI n))]) hx hb dX5_oathFor_97 hl (k := 2) rfl rfl (by decide) rfl (fun ls hl => ?_)
                  refine lv_goto (tgt := 29) hx hb dX5_oathFor_100 (by decide) ?_
                  rw [show ((nI (i + 1)) + 1) = (nI ((i + 1) + 1)) from nI_1 _] at hl
                  exact ih_29 (i + 1) (itr (m_goB n t) x.toNatClampNeg f) (by omega) (by omega) (k_ext hno (by rw [o_ofRow, e41]; simpa using c_92_6)) (Or.inr (by rw [o_ofRow, e41])) _ _ _ hP hD hS (lv_sub hl [1, 2, 0] rfl)
                · have c_92_6 : ((itr (m_goB n t) x.toNatClampNeg f) 9) = ((M.2.1 0) 9) := (lg_cmp_eq ((itr (m_goB n t) x.toNatClampNeg f) 9) ((M.2.1 0) 9)).mp c_92_6
                  refine lv_iload_n hx hb dX5_oathFor_95 rfl (lv_at hl 2 rfl) ?_
                  exact k_iret hx hb hr hlk hP hS dX5_oathFor_96 rfl (by have ha : o_ofAt (M.2.1 0) n t x.toNatClampNeg = i := frst_some (by rw [o_ofRow, e41]; simpa using c_92_6) hno hkl_29; rw [o_oathForR, if_pos c_10_0, ha, if_pos hkl_29]) (k_P (congrArg (fun T9 => moW q cI cJ T9) (by have ha : o_ofAt (M.2.1 0) n t x.toNatClampNeg = i := frst_some (by rw [o_ofRow, e41]; simpa using c_92_6) hno hkl_29; rw [o_oathFor, if_pos c_10_0, ha, if_pos hkl_29, o_ofRow, e41])))
              · have c_51_5 : ¬ ((M.2.1 0) 7) ≤ ((nI k).toInt64) := mt (lg_cmp_ge ((nI k).toInt64) ((M.2.1 0) 7)).mpr c_51_5
                have hkl_41 : k < n := k_bodyL c_51_5 hok.1 hkn_41 (by omega)
                refine lv_aload_n hx hb dX5_oathFor_54 rfl (lv_at hl 0 rfl) ?_
                refine va_get (D := D) (ci := 5) (v := .ref (q 2)) (C := RX5) (T := TX5) (N := 14) hx hb hts inX5 hown hK hP 0 rfl rfl 1 (by decide) (hts (.fieldLink RX5 13 "PumpOathsModel" "tried" "[J") (List.mem_of_getElem? (i := 3) rfl)) (fun _ h9 => h9) rfl dX5_oathFor_55 ?_
                refine lv_iload_n hx hb dX5_oathFor_58 rfl (lv_at hl 3 rfl) ?_
                refine lv_iconst (v := 1) hx hb dX5_oathFor_59 (by decide) ?_
                refine k_calli (a := []) (z := moW q cI cJ (o_setV (o_setI M 2 0) 1 f)) (wc := []) (wc' := []) (w' := moW q cI cJ (o_setV (o_setI M 2 0) 1 f)) (va_runS (As := [.int (nI k), .int 1]) (rest := [.ref (q 2)]) ⟨hx, hb, hml, hown, hts⟩ (c_X5_p l D cI cJ (nI k) 1 _) (cwS 2 hts gX5_oathFor_X5_p rfl rfl rfl (by decide +kernel) ⟨Nat.le_of_ble_eq_true rfl, Nat.le_of_ble_eq_true rfl⟩) ⟨kB_blind, k_pre (a := []) (z := moW q cI cJ (o_setV (o_setI M 2 0) 1 f)) rfl hK hP hD⟩ rfl rfl hl.1 rfl (lv_room (Nat.le_of_ble_eq_true rfl)) dX5_oathFor_60 ⟨Nat.zero_le _, Nat.zero_le _⟩) rfl rfl rfl hP hD hS hA (fun H locs hP hD hS => ?_)
                rw [show 48 + 8 * (nI k) + 1 = nI (48 + 8 * k + 1) from k_p k 1]
                refine lv_iload_n hx hb dX5_oathFor_63 rfl (lv_at hl 2 rfl) ?_
                refine lv_i2l hx hb dX5_oathFor_64 rfl ?_
                refine va_last (f := f) hx hb hK hP hD hS 2 1 rfl rfl (k_in (k := 48 + 8 * k + 1) rfl (by omega) (by decide)) dX5_oathFor_65 (fun H locs hP hD hS => ?_)
                rw [show (nI (48 + 8 * k + 1) : Int32).toNatClampNeg = 48 + 8 * k + 1 from nI_clamp (by omega)] at hP hD
                have hP : va_P D vwCl (moW q cI cJ (o_setV (o_setI M 2 0) 1 (vp_updL f (48 + 8 * k + 1) ((nI (i + 1)).toInt64)))) H := hP
                have hD : va_D A9 (moW q cI cJ (o_setV (o_setI M 2 0) 1 (vp_updL f (48 + 8 * k + 1) ((nI (i + 1)).toInt64)))) := hD
                refine lv_iinc (v := (nI k) + 1) (lv' := [(3, .int ((nI k) + 1)), (0, .ref (q 0)), (1, .int x), (2, .int (nI (i + 1)))]) hx hb dX5_oathFor_66 hl (k := 3) rfl rfl (by decide) rfl (fun ls hl => ?_)
                refine lv_goto (tgt := 41) hx hb dX5_oathFor_69 (by decide) ?_
                rw [show ((nI k) + 1) = (nI (k + 1)) from nI_1 _] at hl
                exact ih_41 (k + 1) (vp_updL f (48 + 8 * k + 1) ((nI (i + 1)).toInt64)) (by omega) (by omega) (by rw [itr_s, e41]; simp [o_piB, c_10_0, c_32_3, c_51_5]) _ _ _ hP hD hS (lv_sub hl [1, 2, 3, 0] rfl)
          exact L_41_4 (n + 1) 0 (M.2.1 0) (by omega) (by omega) (rfl) _ _ _ hP hD hS (lv_sub hl [1, 2, 3, 0] rfl)
    exact L_29_2 (12 + 1) 0 (M.2.1 1) (by omega) (by omega) (fun j hj => absurd hj (Nat.not_lt_zero _)) (Or.inl rfl) _ _ _ hP hD hS (lv_sub hl [1, 2, 0] rfl)
  · have c_10_0 : (m_in x.toInt64 1 1440) = false := bi_0.mp c_10_0
    refine lv_iconst (v := 1) hx hb dX5_oathFor_13 (by decide) ?_
    refine lv_goto (tgt := 18) hx hb dX5_oathFor_14 (by decide) ?_
    refine lv_iconst (v := 0) hx hb dX5_oathFor_18 (by decide) ?_
    refine k_calli (a := []) (z := []) (wc := moW q cI cJ M) (wc' := moW q cI cJ (o_setI M 2 1)) (w' := moW q cI cJ (o_setI M 2 1)) (va_runV (As := [.int 1, .int 0]) (rest := []) ⟨hx, hb, hml, hown, hts⟩ (c_X5_goes1 l D q cI cJ M 0 _) (cwV 2 hts gX5_oathFor_X5_goes rfl rfl rfl (by decide +kernel) ⟨Nat.le_of_ble_eq_true rfl, Nat.le_of_ble_eq_true rfl⟩) ⟨kB_blind, va_recv hK hP (ci := 5) (q0 := 0) rfl rfl, k_pre (a := []) (z := []) (k_w0 _) hK hP hD⟩ rfl rfl hl.1 rfl (lv_room (Nat.le_of_ble_eq_true rfl)) dX5_oathFor_19 ⟨Nat.zero_le _, Nat.zero_le _⟩) (k_w0 _) (k_w0 _) (moW_ad _ _ _ _ _) hP hD hS hA (fun H locs hP hD hS => ?_)
    refine lv_if_ne (tgt := 27) hx hb dX5_oathFor_22 (by decide) (fun h => absurd h (by decide)) (fun _ => ?_)
    refine lv_iconst (v := 0) hx hb dX5_oathFor_25 (by decide) ?_
    exact k_iret hx hb hr hlk hP hS dX5_oathFor_26 rfl (by rw [o_oathForR, if_neg (bi_nt c_10_0)]) (k_P (congrArg (fun T9 => moW q cI cJ T9) (by rw [o_oathFor, if_neg (bi_nt c_10_0)])))
