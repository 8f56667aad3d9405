def o_undo (M : MS) (st : Nat) : MS := if M.1 0 = 0 then o_setI M 2 1 else o_setV (o_setI (o_setI M 2 0) 0 (M.1 0 - 1)) 0 (fun k => M.2.1 2 (138 * (st - 1) + k))

set_option maxHeartbeats 1000000 in
set_option maxRecDepth 100000 in
theorem c_X5_undo (l : Launch) (D : va_G) (q : Nat → Nat) (cI cJ : ClassId) (M : MS) (st : Nat) (hst : M.1 0 = nI st) (hst4 : st ≤ 4) : kI l yX5_undo wsX5_undo ({ frames := 1, cells := 0, slots := 0, locals := 22 } : Room) D [(cI, .int), (cJ, .long)] [.ref (q 0)] (moW q cI cJ M) (if M.1 0 = 0 then 0 else M.1 0 - 1) (moW q cI cJ (o_undo M st)) := by
  refine kBody.met (cc := cX5_undo) (maxL := 2) (ret := (some .int)) (by decide) rfl (Nat.le_of_ble_eq_true rfl) ?_
  intro p9 e9 s9 m9 below meth c9 A9 ls hx hb hr hml hts hown hlk hK hP hD hA hl
  have hown : s9.vm.findClass RX5 = some m9.cls := hown
  have inX5 : ∀ w ∈ wsX50, w ∈ wsX5_undo := fun w h => List.mem_cons_of_mem _ (List.mem_append_right _ (h))
  have hS : va_S A9 s9.heap s9.heap [] := va_S.rf
  have hl : lv_has ls 2 [(0, .ref (q 0))] := hl
  refine lv_aload_n hx hb dX5_undo_0 rfl (lv_at hl 0 rfl) ?_
  refine lv_aload_n hx hb dX5_undo_1 rfl (lv_at hl 0 rfl) ?_
  refine va_get (D := D) (ci := 5) (v := .int (M.1 0)) (C := RX5) (T := TX5) (N := 14) hx hb hts inX5 hown hK hP 0 rfl rfl 3 (by decide) (hts (.fieldLink RX5 52 "PumpOathsModel" "states" "I") (List.mem_of_getElem? (i := 1) rfl)) (fun _ h9 => h9) rfl dX5_undo_2 ?_
  refine lv_if_ne (tgt := 12) hx hb dX5_undo_5 (by decide) (fun c_5_0 => ?_) (fun c_5_0 => ?_)
  · have c_5_0 : ¬ (M.1 0) = 0 := c_5_0
    have hs1 : 1 ≤ st := by
      rcases Nat.eq_zero_or_pos st with q9 | q9
      · subst q9; exact absurd hst c_5_0
      · exact q9
    have hs2 : M.1 0 - 1 = nI (st - 1) := by rw [hst, show (1 : Int32) = nI 1 from rfl, pk_sub hs1]
    refine lv_iconst (v := 0) hx hb dX5_undo_12 (by decide) ?_
    refine lv_iconst (v := 0) hx hb dX5_undo_13 (by decide) ?_
    refine k_calli (a := []) (z := []) (wc := moW q cI cJ M) (wc' := moW q cI cJ (o_setI M 2 0)) (w' := moW q cI cJ (o_setI M 2 0)) (va_runV (As := [.int 0, .int 0]) (rest := []) ⟨hx, hb, hml, hown, hts⟩ (c_X5_goes00 l D q cI cJ M _) (cwV 2 hts gX5_undo_X5_goes rfl rfl rfl (by decide +kernel) ⟨Nat.le_of_ble_eq_true rfl, Nat.le_of_ble_eq_true rfl⟩) ⟨kB_blind, va_recv hK hP (ci := 5) (q0 := 0) rfl rfl, k_pre (a := []) (z := []) (k_w0 _) hK hP hD⟩ rfl rfl hl.1 rfl (lv_room (Nat.le_of_ble_eq_true rfl)) dX5_undo_14 ⟨Nat.zero_le _, Nat.zero_le _⟩) (k_w0 _) (k_w0 _) (moW_ad _ _ _ _ _) hP hD hS hA (fun H locs hP hD hS => ?_)
    refine lv_if_ne (tgt := 22) hx hb dX5_undo_17 (by decide) (fun _ => ?_) (fun h => absurd h (by decide))
    refine lv_aload_n hx hb dX5_undo_22 rfl (lv_at hl 0 rfl) ?_
    refine lv_dup hx hb dX5_undo_23 rfl ?_
    refine va_get (D := D) (ci := 5) (v := .int (M.1 0)) (C := RX5) (T := TX5) (N := 14) hx hb hts inX5 hown hK hP 0 rfl rfl 3 (by decide) (hts (.fieldLink RX5 52 "PumpOathsModel" "states" "I") (List.mem_of_getElem? (i := 1) rfl)) (fun _ h9 => h9) rfl dX5_undo_24 ?_
    refine lv_iconst (v := 1) hx hb dX5_undo_27 (by decide) ?_
    refine lv_isub hx hb dX5_undo_28 ?_
    refine va_put (D := D) (ci := 5) (v := .int ((M.1 0) - 1)) (ty := .int) (C := RX5) (T := TX5) (N := 14) hx hb hts inX5 tyX5 tyX5_ok nmX5 hown hK hP hD hS 0 rfl rfl 3 (by decide) (hts (.fieldLink RX5 52 "PumpOathsModel" "states" "I") (List.mem_of_getElem? (i := 1) rfl)) (fun _ h9 => h9) rfl (by decide +kernel) rfl rfl (Nat.le_of_ble_eq_true rfl) dX5_undo_29 (fun H locs hP hD hS => ?_)
    have hP : va_P D vwCl (moW q cI cJ (o_setI (o_setI M 2 0) 0 ((M.1 0) - 1))) H := hP
    have hD : va_D A9 (moW q cI cJ (o_setI (o_setI M 2 0) 0 ((M.1 0) - 1))) := hD
    refine lv_iconst (v := 0) hx hb dX5_undo_32 (by decide) ?_
    refine lv_istore_n (lv' := [(1, .int 0), (0, .ref (q 0))]) hx hb dX5_undo_33 rfl hl (by decide) rfl (fun ls hl => ?_)
    have L_34_2 : ∀ (d : Nat) (k : Nat) (f : Nat → Int64), 138 < k + d → k ≤ 138 → ∀  (e34 : itr (o_cpB (M.2.1 2) (138 * (st - 1))) k (M.2.1 0) = f) (H : Heap) (locs : List Loc) (ls : Array Slot), va_P D vwCl (moW q cI cJ (o_setV (o_setI (o_setI M 2 0) 0 ((M.1 0) - 1)) 0 f)) H → va_D A9 (moW q cI cJ (o_setV (o_setI (o_setI M 2 0) 0 ((M.1 0) - 1)) 0 f)) → va_S A9 s9.heap H locs → lv_has ls 2 [(0, .ref (q 0)), (1, .int (nI k))] → W p9 l e9 ({ frames := 1, cells := 0, slots := 0, locals := 22 } : Room) s9 m9 (List.toArray [.ref (q 0)]) below meth c9 H locs 0 0 (MQ below (va_Qi (fun r (_ : Unit) => r = (if M.1 0 = 0 then 0 else M.1 0 - 1)) (fun _ t9 => va_P D vwCl (moW q cI cJ (o_undo M st)) t9.heap) A9) (List.toArray [.ref (q 0)]) s9 0 0 A9) (F0 m9 34 ls []) := by
      intro d
      induction d with
      | zero =>
        intro k f hf
        intro hkn; exact absurd hf (by omega)
      | succ d ih_34 =>
        intro k f hf_34 hkn_34 e34 H locs ls hP hD hS hl
        refine lv_iload_n hx hb dX5_undo_34 rfl (lv_at hl 1 rfl) ?_
        refine lv_sipush (v := 138) hx hb dX5_undo_35 (by decide) ?_
        refine lv_icmp_ge (tgt := 68) hx hb dX5_undo_38 (by decide) (fun c_38_3 => ?_) (fun c_38_3 => ?_)
        · have c_38_3 : 138 ≤ (nI k) := c_38_3
          have hke_34 : 138 = k := (k_exitN c_38_3 rfl hkn_34 (by decide)).symm
          subst hke_34
          refine lv_aload_n hx hb dX5_undo_68 rfl (lv_at hl 0 rfl) ?_
          refine va_get (D := D) (ci := 5) (v := .int ((M.1 0) - 1)) (C := RX5) (T := TX5) (N := 14) hx hb hts inX5 hown hK hP 0 rfl rfl 3 (by decide) (hts (.fieldLink RX5 52 "PumpOathsModel" "states" "I") (List.mem_of_getElem? (i := 1) rfl)) (fun _ h9 => h9) rfl dX5_undo_69 ?_
          exact k_iret hx hb hr hlk hP hS dX5_undo_72 rfl (by first | rw [if_pos c_5_0] | rw [if_neg c_5_0]) (fun h9 => k_P (congrArg (fun T9 => moW q cI cJ T9) (by rw [o_undo, if_neg c_5_0])) (moW_V (fun j hj => by rw [← e34, o_cp (M.2.1 2) (138 * (st - 1)) _ 138 j hj]) 0 (by decide) h9))
        · have c_38_3 : ¬ 138 ≤ (nI k) := c_38_3
          have hkl_34 : k < 138 := k_bodyN c_38_3 rfl hkn_34 (by decide)
          refine lv_aload_n hx hb dX5_undo_41 rfl (lv_at hl 0 rfl) ?_
          refine va_get (D := D) (ci := 5) (v := .ref (q 1)) (C := RX5) (T := TX5) (N := 14) hx hb hts inX5 hown hK hP 0 rfl rfl 0 (by decide) (hts (.fieldLink RX5 7 "PumpOathsModel" "now" "[J") (List.mem_of_getElem? (i := 2) rfl)) (fun _ h9 => h9) rfl dX5_undo_42 ?_
          refine lv_iload_n hx hb dX5_undo_45 rfl (lv_at hl 1 rfl) ?_
          refine lv_aload_n hx hb dX5_undo_46 rfl (lv_at hl 0 rfl) ?_
          refine va_get (D := D) (ci := 5) (v := .ref (q 3)) (C := RX5) (T := TX5) (N := 14) hx hb hts inX5 hown hK hP 0 rfl rfl 2 (by decide) (hts (.fieldLink RX5 16 "PumpOathsModel" "saved" "[J") (List.mem_of_getElem? (i := 3) rfl)) (fun _ h9 => h9) rfl dX5_undo_47 ?_
          refine lv_sipush (v := 138) hx hb dX5_undo_50 (by decide) ?_
          refine lv_aload_n hx hb dX5_undo_53 rfl (lv_at hl 0 rfl) ?_
          refine va_get (D := D) (ci := 5) (v := .int ((M.1 0) - 1)) (C := RX5) (T := TX5) (N := 14) hx hb hts inX5 hown hK hP 0 rfl rfl 3 (by decide) (hts (.fieldLink RX5 52 "PumpOathsModel" "states" "I") (List.mem_of_getElem? (i := 1) rfl)) (fun _ h9 => h9) rfl dX5_undo_54 ?_
          refine lv_imul hx hb dX5_undo_57 ?_
          refine lv_iload_n hx hb dX5_undo_58 rfl (lv_at hl 1 rfl) ?_
          refine lv_iadd hx hb dX5_undo_59 ?_
          refine va_lald (f := M.2.1 2) hx hb hK hP 3 1 rfl rfl (k_in (k := 138 * (st - 1) + k) (show 138 * (M.1 0 - 1) + nI k = nI (138 * (st - 1) + k) from by rw [hs2, show (138 : Int32) = nI 138 from rfl, pk_mul, nI_add]) (by omega) (by decide)) dX5_undo_60 ?_
          rw [show ((138 * ((M.1 0) - 1)) + (nI k) : Int32).toNatClampNeg = 138 * (st - 1) + k from k_cl (show 138 * (M.1 0 - 1) + nI k = nI (138 * (st - 1) + k) from by rw [hs2, show (138 : Int32) = nI 138 from rfl, pk_mul, nI_add]) (by omega)]
          refine va_last (f := f) hx hb hK hP hD hS 1 1 rfl rfl (k_in (k := k) rfl (by omega) (by decide)) dX5_undo_61 (fun H locs hP hD hS => ?_)
          rw [show (nI k : Int32).toNatClampNeg = k from nI_clamp (by omega)] at hP hD
          have hP : va_P D vwCl (moW q cI cJ (o_setV (o_setI (o_setI M 2 0) 0 ((M.1 0) - 1)) 0 (vp_updL f k ((M.2.1 2) (138 * (st - 1) + k))))) H := hP
          have hD : va_D A9 (moW q cI cJ (o_setV (o_setI (o_setI M 2 0) 0 ((M.1 0) - 1)) 0 (vp_updL f k ((M.2.1 2) (138 * (st - 1) + k))))) := hD
          refine lv_iinc (v := (nI k) + 1) (lv' := [(1, .int ((nI k) + 1)), (0, .ref (q 0))]) hx hb dX5_undo_62 hl (k := 1) rfl rfl (by decide) rfl (fun ls hl => ?_)
          refine lv_goto (tgt := 34) hx hb dX5_undo_65 (by decide) ?_
          rw [show ((nI k) + 1) = (nI (k + 1)) from nI_1 _] at hl
          exact ih_34 (k + 1) (vp_updL f k ((M.2.1 2) (138 * (st - 1) + k))) (by omega) (by omega) (by rw [itr_s, e34]; simp [o_cpB, c_5_0, c_38_3]) _ _ _ hP hD hS (lv_sub hl [1, 0] rfl)
    exact L_34_2 (138 + 1) 0 (M.2.1 0) (by omega) (by omega) (rfl) _ _ _ hP hD hS (lv_sub hl [1, 0] rfl)
  · have c_5_0 : (M.1 0) = 0 := c_5_0
    refine lv_iconst (v := 1) hx hb dX5_undo_8 (by decide) ?_
    refine lv_goto (tgt := 13) hx hb dX5_undo_9 (by decide) ?_
    refine lv_iconst (v := 0) hx hb dX5_undo_13 (by decide) ?_
    refine k_calli (a := []) (z := []) (wc := moW q cI cJ M) (wc' := moW q cI cJ (o_setI M 2 1)) (w' := moW q cI cJ (o_setI M 2 1)) (va_runV (As := [.int 1, .int 0]) (rest := []) ⟨hx, hb, hml, hown, hts⟩ (c_X5_goes1 l D q cI cJ M 0 _) (cwV 2 hts gX5_undo_X5_goes rfl rfl rfl (by decide +kernel) ⟨Nat.le_of_ble_eq_true rfl, Nat.le_of_ble_eq_true rfl⟩) ⟨kB_blind, va_recv hK hP (ci := 5) (q0 := 0) rfl rfl, k_pre (a := []) (z := []) (k_w0 _) hK hP hD⟩ rfl rfl hl.1 rfl (lv_room (Nat.le_of_ble_eq_true rfl)) dX5_undo_14 ⟨Nat.zero_le _, Nat.zero_le _⟩) (k_w0 _) (k_w0 _) (moW_ad _ _ _ _ _) hP hD hS hA (fun H locs hP hD hS => ?_)
    refine lv_if_ne (tgt := 22) hx hb dX5_undo_17 (by decide) (fun h => absurd h (by decide)) (fun _ => ?_)
    refine lv_iconst (v := 0) hx hb dX5_undo_20 (by decide) ?_
    exact k_iret hx hb hr hlk hP hS dX5_undo_21 rfl (by first | rw [if_pos c_5_0] | rw [if_neg c_5_0]) (k_P (by rw [o_undo, if_pos c_5_0]))
