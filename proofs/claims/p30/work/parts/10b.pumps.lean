set_option maxHeartbeats 1000000 in
set_option maxRecDepth 100000 in
theorem c_X2_beginHour (l : Launch) (D : va_G) (q : Nat → Nat) (cI cJ : ClassId) (S : SS) (n : Nat) (hn : S.1 8 = nI n) (hn6 : n ≤ 6) : kV l yX2_beginHour wsX2_beginHour ({ frames := 0, cells := 0, slots := 0, locals := 0 } : Room) D [(cI, .int), (cJ, .long)] [.ref (q 4)] (stW q cI cJ S) (stW q cI cJ (p_hour S n)) := by
  refine kBody.met (cc := cX2_beginHour) (maxL := 2) (ret := none) (by decide) rfl (Nat.le_of_ble_eq_true rfl) ?_
  intro p9 e9 s9 m9 below meth c9 A9 ls hx hb hr hml hts hown hlk hK hP hD hA hl
  have hown : s9.vm.findClass RX2 = some m9.cls := hown
  have inX2 : ∀ w ∈ wsX20, w ∈ wsX2_beginHour := fun w h => List.mem_cons_of_mem _ (List.mem_append_right _ (h))
  have hS : va_S A9 s9.heap s9.heap [] := va_S.rf
  have hl : lv_has ls 2 [(0, .ref (q 4))] := hl
  refine lv_iconst (v := 0) hx hb dX2_beginHour_0 (by decide) ?_
  refine lv_istore_n (lv' := [(1, .int 0), (0, .ref (q 4))]) hx hb dX2_beginHour_1 rfl hl (by decide) rfl (fun ls hl => ?_)
  have L_2_0 : ∀ (d : Nat) (k : Nat) (f : Nat → Int32), n < k + d → k ≤ n → ∀  (e2 : itr (p_fillB 0) k (S.2.2.1 6) = f) (H : Heap) (locs : List Loc) (ls : Array Slot), va_P D vwCl (stW q cI cJ (setA S 6 f)) H → va_D A9 (stW q cI cJ (setA S 6 f)) → va_S A9 s9.heap H locs → lv_has ls 2 [(0, .ref (q 4)), (1, .int (nI k))] → W p9 l e9 ({ frames := 0, cells := 0, slots := 0, locals := 0 } : Room) s9 m9 (List.toArray [.ref (q 4)]) below meth c9 H locs 0 0 (MQ below (va_Qv (fun (_ : Unit) => True) (fun _ t9 => va_P D vwCl (stW q cI cJ (p_hour S n)) t9.heap) A9) (List.toArray [.ref (q 4)]) s9 0 0 A9) (F0 m9 2 ls []) := by
    intro d
    induction d with
    | zero =>
      intro k f hf
      intro hkn; exact absurd hf (by omega)
    | succ d ih_2 =>
      intro k f hf_2 hkn_2 e2 H locs ls hP hD hS hl
      refine lv_iload_n hx hb dX2_beginHour_2 rfl (lv_at hl 1 rfl) ?_
      refine lv_aload_n hx hb dX2_beginHour_3 rfl (lv_at hl 0 rfl) ?_
      refine va_get (D := D) (ci := 2) (v := .int (S.1 8)) (C := RX2) (T := TX2) (N := 9) hx hb hts inX2 hown hK hP 4 rfl rfl 0 (by decide) (hts (.fieldLink RX2 36 "PumpOaths$Pumps" "count" "I") (List.mem_of_getElem? (i := 1) rfl)) (fun _ h9 => h9) rfl dX2_beginHour_4 ?_
      refine lv_icmp_ge (tgt := 23) hx hb dX2_beginHour_7 (by decide) (fun c_7_1 => ?_) (fun c_7_1 => ?_)
      · have c_7_1 : (S.1 8) ≤ (nI k) := c_7_1
        have hke_2 : n = k := (k_exitN c_7_1 hn hkn_2 (by omega)).symm
        subst hke_2
        exact k_vret hx hb hr hlk hP hS dX2_beginHour_23 (k_P (by rw [p_hour, e2]))
      · have c_7_1 : ¬ (S.1 8) ≤ (nI k) := c_7_1
        have hkl_2 : k < n := k_bodyN c_7_1 hn hkn_2 (by omega)
        refine lv_aload_n hx hb dX2_beginHour_10 rfl (lv_at hl 0 rfl) ?_
        refine va_get (D := D) (ci := 2) (v := .ref (q 9)) (C := RX2) (T := TX2) (N := 9) hx hb hts inX2 hown hK hP 4 rfl rfl 5 (by decide) (hts (.fieldLink RX2 24 "PumpOaths$Pumps" "hourStarts" "[I") (List.mem_of_getElem? (i := 2) rfl)) (fun _ h9 => h9) rfl dX2_beginHour_11 ?_
        refine lv_iload_n hx hb dX2_beginHour_14 rfl (lv_at hl 1 rfl) ?_
        refine lv_iconst (v := 0) hx hb dX2_beginHour_15 (by decide) ?_
        refine va_iast (f := f) hx hb hK hP hD hS 9 0 rfl rfl (k_in (k := k) rfl (by omega) (by decide)) dX2_beginHour_16 (fun H locs hP hD hS => ?_)
        rw [show (nI k : Int32).toNatClampNeg = k from nI_clamp (by omega)] at hP hD
        have hP : va_P D vwCl (stW q cI cJ (setA S 6 (upd f k 0))) H := hP
        have hD : va_D A9 (stW q cI cJ (setA S 6 (upd f k 0))) := hD
        refine lv_iinc (v := (nI k) + 1) (lv' := [(1, .int ((nI k) + 1)), (0, .ref (q 4))]) hx hb dX2_beginHour_17 hl (k := 1) rfl rfl (by decide) rfl (fun ls hl => ?_)
        refine lv_goto (tgt := 2) hx hb dX2_beginHour_20 (by decide) ?_
        rw [show ((nI k) + 1) = (nI (k + 1)) from nI_1 _] at hl
        exact ih_2 (k + 1) (upd f k 0) (by omega) (by omega) (by rw [itr_s, e2]; simp [p_fillB, c_7_1]) _ _ _ hP hD hS (lv_sub hl [1, 0] rfl)
  exact L_2_0 (n + 1) 0 (S.2.2.1 6) (by omega) (by omega) (rfl) _ _ _ hP hD hS (lv_sub hl [1, 0] rfl)

set_option maxHeartbeats 1000000 in
set_option maxRecDepth 100000 in
theorem c_X2_passLeadOn (l : Launch) (D : va_G) (q : Nat → Nat) (cI cJ : ClassId) (S : SS) (n : Nat) (hn : S.1 8 = nI n) (hn6 : n ≤ 6) : kV l yX2_passLeadOn wsX2_passLeadOn ({ frames := 0, cells := 0, slots := 0, locals := 0 } : Room) D [(cI, .int), (cJ, .long)] [.ref (q 4)] (stW q cI cJ S) (stW q cI cJ (p_passOn S n)) := by
  refine kBody.met (cc := cX2_passLeadOn) (maxL := 2) (ret := none) (by decide) rfl (Nat.le_of_ble_eq_true rfl) ?_
  intro p9 e9 s9 m9 below meth c9 A9 ls hx hb hr hml hts hown hlk hK hP hD hA hl
  have hown : s9.vm.findClass RX2 = some m9.cls := hown
  have inX2 : ∀ w ∈ wsX20, w ∈ wsX2_passLeadOn := fun w h => List.mem_cons_of_mem _ (List.mem_append_right _ (h))
  have hS : va_S A9 s9.heap s9.heap [] := va_S.rf
  have hl : lv_has ls 2 [(0, .ref (q 4))] := hl
  refine lv_iconst (v := 0) hx hb dX2_passLeadOn_0 (by decide) ?_
  refine lv_istore_n (lv' := [(1, .int 0), (0, .ref (q 4))]) hx hb dX2_passLeadOn_1 rfl hl (by decide) rfl (fun ls hl => ?_)
  have L_2_0 : ∀ (d : Nat) (k : Nat) (f : Nat → Int32), n < k + d → k ≤ n → ∀  (e2 : itr (p_onB S) k (S.2.2.1 5) = f) (H : Heap) (locs : List Loc) (ls : Array Slot), va_P D vwCl (stW q cI cJ (setA S 5 f)) H → va_D A9 (stW q cI cJ (setA S 5 f)) → va_S A9 s9.heap H locs → lv_has ls 2 [(0, .ref (q 4)), (1, .int (nI k))] → W p9 l e9 ({ frames := 0, cells := 0, slots := 0, locals := 0 } : Room) s9 m9 (List.toArray [.ref (q 4)]) below meth c9 H locs 0 0 (MQ below (va_Qv (fun (_ : Unit) => True) (fun _ t9 => va_P D vwCl (stW q cI cJ (p_passOn S n)) t9.heap) A9) (List.toArray [.ref (q 4)]) s9 0 0 A9) (F0 m9 2 ls []) := by
    intro d
    induction d with
    | zero =>
      intro k f hf
      intro hkn; exact absurd hf (by omega)
    | succ d ih_2 =>
      intro k f hf_2 hkn_2 e2 H locs ls hP hD hS hl
      refine lv_iload_n hx hb dX2_passLeadOn_2 rfl (lv_at hl 1 rfl) ?_
      refine lv_aload_n hx hb dX2_passLeadOn_3 rfl (lv_at hl 0 rfl) ?_
      refine va_get (D := D) (ci := 2) (v := .int (S.1 8)) (C := RX2) (T := TX2) (N := 9) hx hb hts inX2 hown hK hP 4 rfl rfl 0 (by decide) (hts (.fieldLink RX2 36 "PumpOaths$Pumps" "count" "I") (List.mem_of_getElem? (i := 1) rfl)) (fun _ h9 => h9) rfl dX2_passLeadOn_4 ?_
      refine lv_icmp_ge (tgt := 48) hx hb dX2_passLeadOn_7 (by decide) (fun c_7_1 => ?_) (fun c_7_1 => ?_)
      · have c_7_1 : (S.1 8) ≤ (nI k) := c_7_1
        have hke_2 : n = k := (k_exitN c_7_1 hn hkn_2 (by omega)).symm
        subst hke_2
        exact k_vret hx hb hr hlk hP hS dX2_passLeadOn_48 (k_P (by rw [p_passOn, e2]))
      · have c_7_1 : ¬ (S.1 8) ≤ (nI k) := c_7_1
        have hkl_2 : k < n := k_bodyN c_7_1 hn hkn_2 (by omega)
        refine lv_aload_n hx hb dX2_passLeadOn_10 rfl (lv_at hl 0 rfl) ?_
        refine va_get (D := D) (ci := 2) (v := .ref (q 8)) (C := RX2) (T := TX2) (N := 9) hx hb hts inX2 hown hK hP 4 rfl rfl 4 (by decide) (hts (.fieldLink RX2 21 "PumpOaths$Pumps" "place" "[I") (List.mem_of_getElem? (i := 2) rfl)) (fun _ h9 => h9) rfl dX2_passLeadOn_11 ?_
        refine lv_iload_n hx hb dX2_passLeadOn_14 rfl (lv_at hl 1 rfl) ?_
        refine lv_aload_n hx hb dX2_passLeadOn_15 rfl (lv_at hl 0 rfl) ?_
        refine va_get (D := D) (ci := 2) (v := .ref (q 8)) (C := RX2) (T := TX2) (N := 9) hx hb hts inX2 hown hK hP 4 rfl rfl 4 (by decide) (hts (.fieldLink RX2 21 "PumpOaths$Pumps" "place" "[I") (List.mem_of_getElem? (i := 2) rfl)) (fun _ h9 => h9) rfl dX2_passLeadOn_16 ?_
        refine lv_iload_n hx hb dX2_passLeadOn_19 rfl (lv_at hl 1 rfl) ?_
        refine va_iald (f := f) hx hb hK hP 8 0 rfl rfl (k_in (k := k) rfl (by omega) (by decide)) dX2_passLeadOn_20 ?_
        rw [show (nI k : Int32).toNatClampNeg = k from nI_clamp (by omega)]
        refine lv_if_ne (tgt := 33) hx hb dX2_passLeadOn_21 (by decide) (fun c_21_2 => ?_) (fun c_21_2 => ?_)
        · have c_21_2 : ¬ (f k) = 0 := c_21_2
          refine lv_aload_n hx hb dX2_passLeadOn_33 rfl (lv_at hl 0 rfl) ?_
          refine va_get (D := D) (ci := 2) (v := .ref (q 8)) (C := RX2) (T := TX2) (N := 9) hx hb hts inX2 hown hK hP 4 rfl rfl 4 (by decide) (hts (.fieldLink RX2 21 "PumpOaths$Pumps" "place" "[I") (List.mem_of_getElem? (i := 2) rfl)) (fun _ h9 => h9) rfl dX2_passLeadOn_34 ?_
          refine lv_iload_n hx hb dX2_passLeadOn_37 rfl (lv_at hl 1 rfl) ?_
          refine va_iald (f := f) hx hb hK hP 8 0 rfl rfl (k_in (k := k) rfl (by omega) (by decide)) dX2_passLeadOn_38 ?_
          rw [show (nI k : Int32).toNatClampNeg = k from nI_clamp (by omega)]
          refine lv_iconst (v := 1) hx hb dX2_passLeadOn_39 (by decide) ?_
          refine lv_isub hx hb dX2_passLeadOn_40 ?_
          refine va_iast (f := f) hx hb hK hP hD hS 8 0 rfl rfl (k_in (k := k) rfl (by omega) (by decide)) dX2_passLeadOn_41 (fun H locs hP hD hS => ?_)
          rw [show (nI k : Int32).toNatClampNeg = k from nI_clamp (by omega)] at hP hD
          have hP : va_P D vwCl (stW q cI cJ (setA S 5 (upd f k ((f k) - 1)))) H := hP
          have hD : va_D A9 (stW q cI cJ (setA S 5 (upd f k ((f k) - 1)))) := hD
          refine lv_iinc (v := (nI k) + 1) (lv' := [(1, .int ((nI k) + 1)), (0, .ref (q 4))]) hx hb dX2_passLeadOn_42 hl (k := 1) rfl rfl (by decide) rfl (fun ls hl => ?_)
          refine lv_goto (tgt := 2) hx hb dX2_passLeadOn_45 (by decide) ?_
          rw [show ((nI k) + 1) = (nI (k + 1)) from nI_1 _] at hl
          exact ih_2 (k + 1) (upd f k ((f k) - 1)) (by omega) (by omega) (by rw [itr_s, e2]; simp [p_onB, c_7_1, c_21_2]) _ _ _ hP hD hS (lv_sub hl [1, 0] rfl)
        · have c_21_2 : (f k) = 0 := c_21_2
          refine lv_aload_n hx hb dX2_passLeadOn_24 rfl (lv_at hl 0 rfl) ?_
          refine va_get (D := D) (ci := 2) (v := .int (S.1 8)) (C := RX2) (T := TX2) (N := 9) hx hb hts inX2 hown hK hP 4 rfl rfl 0 (by decide) (hts (.fieldLink RX2 36 "PumpOaths$Pumps" "count" "I") (List.mem_of_getElem? (i := 1) rfl)) (fun _ h9 => h9) rfl dX2_passLeadOn_25 ?_
          refine lv_iconst (v := 1) hx hb dX2_passLeadOn_28 (by decide) ?_
          refine lv_isub hx hb dX2_passLeadOn_29 ?_
          refine lv_goto (tgt := 41) hx hb dX2_passLeadOn_30 (by decide) ?_
          refine va_iast (f := f) hx hb hK hP hD hS 8 0 rfl rfl (k_in (k := k) rfl (by omega) (by decide)) dX2_passLeadOn_41 (fun H locs hP hD hS => ?_)
          rw [show (nI k : Int32).toNatClampNeg = k from nI_clamp (by omega)] at hP hD
          have hP : va_P D vwCl (stW q cI cJ (setA S 5 (upd f k ((S.1 8) - 1)))) H := hP
          have hD : va_D A9 (stW q cI cJ (setA S 5 (upd f k ((S.1 8) - 1)))) := hD
          refine lv_iinc (v := (nI k) + 1) (lv' := [(1, .int ((nI k) + 1)), (0, .ref (q 4))]) hx hb dX2_passLeadOn_42 hl (k := 1) rfl rfl (by decide) rfl (fun ls hl => ?_)
          refine lv_goto (tgt := 2) hx hb dX2_passLeadOn_45 (by decide) ?_
          rw [show ((nI k) + 1) = (nI (k + 1)) from nI_1 _] at hl
          exact ih_2 (k + 1) (upd f k ((S.1 8) - 1)) (by omega) (by omega) (by rw [itr_s, e2]; simp [p_onB, c_7_1, c_21_2]) _ _ _ hP hD hS (lv_sub hl [1, 0] rfl)
  exact L_2_0 (n + 1) 0 (S.2.2.1 5) (by omega) (by omega) (rfl) _ _ _ hP hD hS (lv_sub hl [1, 0] rfl)
