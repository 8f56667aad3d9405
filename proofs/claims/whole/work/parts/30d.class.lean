set_option maxHeartbeats 1000000 in
set_option maxRecDepth 100000 in
theorem c_X4_wouldBeKept (l : Launch) (D : va_G) (o : Nat) (q1 q2 q3 q4 q5 q6 qt : Nat → Nat) (cI cJ : ClassId) (S1 S2 S3 S4 S5 S6 : SS) (T : TS) (sv : Int32) (oo w : Int32) (n : Nat) (hn : S2.1 8 = nI n) (hn6 : n ≤ 6) : kI l yX4_wouldBeKept wsX4_wouldBeKept ({ frames := 4, cells := 0, slots := 0, locals := 106 } : Room) D [(cI, .int), (cJ, .long)] [.ref o, .int oo, .int w] (poC o q1 q2 q3 q4 q5 q6 qt sv ++ (stW q1 cI cJ S1 ++ (stW q2 cI cJ S2 ++ (stW q3 cI cJ S3 ++ (stW q4 cI cJ S4 ++ (stW q5 cI cJ S5 ++ (stW q6 cI cJ S6 ++ (txW qt cI T)))))))) (bi (c_wkR S2 n oo w.toNatClampNeg)) (poC o q1 q2 q3 q4 q5 q6 qt sv ++ (stW q1 cI cJ (c_wk S2 n oo w.toNatClampNeg) ++ (stW q2 cI cJ S2 ++ (stW q3 cI cJ S3 ++ (stW q4 cI cJ S4 ++ (stW q5 cI cJ S5 ++ (stW q6 cI cJ S6 ++ (txW qt cI T)))))))) := by
  refine kBody.met (cc := cX4_wouldBeKept) (maxL := 4) (ret := (some .boolean)) (by decide) rfl (Nat.le_of_ble_eq_true rfl) ?_
  intro p9 e9 s9 m9 below meth c9 A9 ls hx hb hr hml hts hown hlk hK hP hD hA hl
  have hown : s9.vm.findClass RX4 = some m9.cls := hown
  have inX0 : ∀ w ∈ wsX00, w ∈ wsX4_wouldBeKept := fun w h => List.mem_cons_of_mem _ (List.mem_append_right _ (h))
  have inX2 : ∀ w ∈ wsX20, w ∈ wsX4_wouldBeKept := fun w h => List.mem_cons_of_mem _ (List.mem_append_left _ (List.mem_append_right _ (h)))
  have inX3 : ∀ w ∈ wsX30, w ∈ wsX4_wouldBeKept := fun w h => List.mem_cons_of_mem _ (List.mem_append_left _ (List.mem_append_left _ (List.mem_append_right _ (h))))
  have inX4 : ∀ w ∈ wsX40, w ∈ wsX4_wouldBeKept := fun w h => List.mem_cons_of_mem _ (List.mem_append_left _ (List.mem_append_left _ (List.mem_append_left _ (List.mem_append_right _ (h)))))
  have hS : va_S A9 s9.heap s9.heap [] := va_S.rf
  have hl : lv_has ls 4 [(0, .ref o), (1, .int oo), (2, .int w)] := hl
  refine lv_aload_n hx hb dX4_wouldBeKept_0 rfl (lv_at hl 0 rfl) ?_
  refine va_get (D := D) (ci := 4) (v := .ref (q1 0)) (C := RX4) (T := TX4) (N := 8) hx hb hts inX4 hown hK hP 0 rfl rfl 1 (by decide) (hts (.fieldLink RX4 16 "PumpOaths" "trial" "LPumpOaths$Station;") (List.mem_of_getElem? (i := 1) rfl)) (fun _ h9 => h9) rfl dX4_wouldBeKept_1 ?_
  refine lv_aload_n hx hb dX4_wouldBeKept_4 rfl (lv_at hl 0 rfl) ?_
  refine va_get (D := D) (ci := 4) (v := .ref (q2 0)) (C := RX4) (T := TX4) (N := 8) hx hb hts inX4 hown hK hP 0 rfl rfl 0 (by decide) (hts (.fieldLink RX4 10 "PumpOaths" "now" "LPumpOaths$Station;") (List.mem_of_getElem? (i := 2) rfl)) (fun _ h9 => h9) rfl dX4_wouldBeKept_5 ?_
  refine k_callv (a := poC o q1 q2 q3 q4 q5 q6 qt sv) (z := (stW q3 cI cJ S3 ++ (stW q4 cI cJ S4 ++ (stW q5 cI cJ S5 ++ (stW q6 cI cJ S6 ++ (txW qt cI T)))))) (wc := (stW q1 cI cJ S1 ++ (stW q2 cI cJ S2))) (wc' := (stW q1 cI cJ S2 ++ (stW q2 cI cJ S2))) (w' := (poC o q1 q2 q3 q4 q5 q6 qt sv ++ (stW q1 cI cJ S2 ++ (stW q2 cI cJ S2 ++ (stW q3 cI cJ S3 ++ (stW q4 cI cJ S4 ++ (stW q5 cI cJ S5 ++ (stW q6 cI cJ S6 ++ (txW qt cI T))))))))) (va_runV (As := [.ref (q2 0)]) (rest := []) ⟨hx, hb, hml, hown, hts⟩ (c_X3_become l D q1 q2 cI cJ S1 S2 _) (cwV 1 hts gX4_wouldBeKept_X3_become rfl rfl rfl (by decide +kernel) ⟨Nat.le_of_ble_eq_true rfl, Nat.le_of_ble_eq_true rfl⟩) ⟨kB_blind, va_recv hK hP (ci := 3) (q0 := 1) rfl rfl, k_pre (a := poC o q1 q2 q3 q4 q5 q6 qt sv) (z := (stW q3 cI cJ S3 ++ (stW q4 cI cJ S4 ++ (stW q5 cI cJ S5 ++ (stW q6 cI cJ S6 ++ (txW qt cI T)))))) rfl hK hP hD⟩ rfl rfl hl.1 rfl (lv_room (Nat.le_of_ble_eq_true rfl)) dX4_wouldBeKept_8 ⟨Nat.zero_le _, Nat.zero_le _⟩) rfl rfl (k_ad2 (stW_ad _ _ _ _ _) (stW_ad _ _ _ _ _)) hP hD hS hA (fun H locs hP hD hS => ?_)
  refine lv_aload_n hx hb dX4_wouldBeKept_11 rfl (lv_at hl 0 rfl) ?_
  refine va_get (D := D) (ci := 4) (v := .ref (q1 0)) (C := RX4) (T := TX4) (N := 8) hx hb hts inX4 hown hK hP 0 rfl rfl 1 (by decide) (hts (.fieldLink RX4 16 "PumpOaths" "trial" "LPumpOaths$Station;") (List.mem_of_getElem? (i := 1) rfl)) (fun _ h9 => h9) rfl dX4_wouldBeKept_12 ?_
  refine va_get (D := D) (ci := 3) (v := .ref (q1 4)) (C := RX3) (T := TX3) (N := 15) hx hb hts inX3 hown hK hP 1 rfl rfl 13 (by decide) (hts (.fieldLink RX4 111 "PumpOaths$Station" "pumps" "LPumpOaths$Pumps;") (List.mem_of_getElem? (i := 3) rfl)) (fun _ h9 => h9) rfl dX4_wouldBeKept_15 ?_
  refine lv_iload_n hx hb dX4_wouldBeKept_18 rfl (lv_at hl 1 rfl) ?_
  refine k_callv (a := poC o q1 q2 q3 q4 q5 q6 qt sv) (z := (stW q2 cI cJ S2 ++ (stW q3 cI cJ S3 ++ (stW q4 cI cJ S4 ++ (stW q5 cI cJ S5 ++ (stW q6 cI cJ S6 ++ (txW qt cI T))))))) (wc := stW q1 cI cJ S2) (wc' := stW q1 cI cJ (p_swear S2 n oo)) (w' := (poC o q1 q2 q3 q4 q5 q6 qt sv ++ (stW q1 cI cJ (p_swear S2 n oo) ++ (stW q2 cI cJ S2 ++ (stW q3 cI cJ S3 ++ (stW q4 cI cJ S4 ++ (stW q5 cI cJ S5 ++ (stW q6 cI cJ S6 ++ (txW qt cI T))))))))) (va_runV (As := [.int oo]) (rest := []) ⟨hx, hb, hml, hown, hts⟩ (c_X2_swearAll l D q1 cI cJ S2 oo n hn hn6 _) (cwV 1 hts gX4_wouldBeKept_X2_swearAll rfl rfl rfl (by decide +kernel) ⟨Nat.le_of_ble_eq_true rfl, Nat.le_of_ble_eq_true rfl⟩) ⟨kB_blind, va_recv hK hP (ci := 2) (q0 := 5) rfl rfl, k_pre (a := poC o q1 q2 q3 q4 q5 q6 qt sv) (z := (stW q2 cI cJ S2 ++ (stW q3 cI cJ S3 ++ (stW q4 cI cJ S4 ++ (stW q5 cI cJ S5 ++ (stW q6 cI cJ S6 ++ (txW qt cI T))))))) rfl hK hP hD⟩ rfl rfl hl.1 rfl (lv_room (Nat.le_of_ble_eq_true rfl)) dX4_wouldBeKept_19 ⟨Nat.zero_le _, Nat.zero_le _⟩) rfl rfl (stW_ad _ _ _ _ _) hP hD hS hA (fun H locs hP hD hS => ?_)
  refine lv_iconst (v := 0) hx hb dX4_wouldBeKept_22 (by decide) ?_
  refine lv_istore_n (lv' := [(3, .int 0), (0, .ref o), (1, .int oo), (2, .int w)]) hx hb dX4_wouldBeKept_23 rfl hl (by decide) rfl (fun ls hl => ?_)
  have L_24_0 : ∀ (d : Nat) (k : Nat) (U : SS), w.toNatClampNeg < k + d → k ≤ w.toNatClampNeg → ∀  (e24 : itr (s_go n) k (p_swear S2 n oo) = U) (hU : U.1 8 = nI n) (hno : ∀ j, j < k → decide (¬ (s_pass (p_swear S2 n oo) n (j + 1)).1 5 = S2.1 5) = false) (H : Heap) (locs : List Loc) (ls : Array Slot), va_P D vwCl (poC o q1 q2 q3 q4 q5 q6 qt sv ++ (stW q1 cI cJ U ++ (stW q2 cI cJ S2 ++ (stW q3 cI cJ S3 ++ (stW q4 cI cJ S4 ++ (stW q5 cI cJ S5 ++ (stW q6 cI cJ S6 ++ (txW qt cI T)))))))) H → va_D A9 (poC o q1 q2 q3 q4 q5 q6 qt sv ++ (stW q1 cI cJ U ++ (stW q2 cI cJ S2 ++ (stW q3 cI cJ S3 ++ (stW q4 cI cJ S4 ++ (stW q5 cI cJ S5 ++ (stW q6 cI cJ S6 ++ (txW qt cI T)))))))) → va_S A9 s9.heap H locs → lv_has ls 4 [(0, .ref o), (1, .int oo), (2, .int w), (3, .int (nI k))] → W p9 l e9 ({ frames := 4, cells := 0, slots := 0, locals := 106 } : Room) s9 m9 (List.toArray [.ref o, .int oo, .int w]) below meth c9 H locs 0 0 (MQ below (va_Qi (fun r (_ : Unit) => r = (bi (c_wkR S2 n oo w.toNatClampNeg))) (fun _ t9 => va_P D vwCl (poC o q1 q2 q3 q4 q5 q6 qt sv ++ (stW q1 cI cJ (c_wk S2 n oo w.toNatClampNeg) ++ (stW q2 cI cJ S2 ++ (stW q3 cI cJ S3 ++ (stW q4 cI cJ S4 ++ (stW q5 cI cJ S5 ++ (stW q6 cI cJ S6 ++ (txW qt cI T)))))))) t9.heap) A9) (List.toArray [.ref o, .int oo, .int w]) s9 0 0 A9) (F0 m9 24 ls []) := by
    intro d
    induction d with
    | zero =>
      intro k U hf
      intro hkn; exact absurd hf (by omega)
    | succ d ih_24 =>
      intro k U hf_24 hkn_24 e24 hU hno H locs ls hP hD hS hl
      refine lv_iload_n hx hb dX4_wouldBeKept_24 rfl (lv_at hl 3 rfl) ?_
      refine lv_iload_n hx hb dX4_wouldBeKept_25 rfl (lv_at hl 2 rfl) ?_
      refine lv_icmp_ge (tgt := 62) hx hb dX4_wouldBeKept_26 (by decide) (fun c_26_1 => ?_) (fun c_26_1 => ?_)
      · have c_26_1 : w ≤ (nI k) := c_26_1
        have hke_24 : k = w.toNatClampNeg := k_exit c_26_1 hkn_24
        have ha : c_wkAt S2 n oo w.toNatClampNeg = w.toNatClampNeg := frst_none (by rw [← hke_24]; exact hno)
        refine lv_iconst (v := 1) hx hb dX4_wouldBeKept_62 (by decide) ?_
        exact k_iret hx hb hr hlk hP hS dX4_wouldBeKept_63 rfl (by rw [c_wkR, ha, decide_eq_true (Nat.lt_irrefl _)]; rfl) (k_P (congrArg (fun T9 => (poC o q1 q2 q3 q4 q5 q6 qt sv ++ (stW q1 cI cJ T9 ++ (stW q2 cI cJ S2 ++ (stW q3 cI cJ S3 ++ (stW q4 cI cJ S4 ++ (stW q5 cI cJ S5 ++ (stW q6 cI cJ S6 ++ (txW qt cI T))))))))) (show U = (c_wk S2 n oo w.toNatClampNeg) from by rw [c_wk, ha, if_neg (Nat.lt_irrefl _), s_pass, ← hke_24, e24])))
      · have c_26_1 : ¬ w ≤ (nI k) := c_26_1
        have hkl_24 : k < w.toNatClampNeg := k_body c_26_1 hkn_24
        refine lv_aload_n hx hb dX4_wouldBeKept_29 rfl (lv_at hl 0 rfl) ?_
        refine va_get (D := D) (ci := 4) (v := .ref (q1 0)) (C := RX4) (T := TX4) (N := 8) hx hb hts inX4 hown hK hP 0 rfl rfl 1 (by decide) (hts (.fieldLink RX4 16 "PumpOaths" "trial" "LPumpOaths$Station;") (List.mem_of_getElem? (i := 1) rfl)) (fun _ h9 => h9) rfl dX4_wouldBeKept_30 ?_
        refine k_calli (a := poC o q1 q2 q3 q4 q5 q6 qt sv) (z := (stW q2 cI cJ S2 ++ (stW q3 cI cJ S3 ++ (stW q4 cI cJ S4 ++ (stW q5 cI cJ S5 ++ (stW q6 cI cJ S6 ++ (txW qt cI T))))))) (wc := stW q1 cI cJ U) (wc' := stW q1 cI cJ (s_min U n)) (w' := (poC o q1 q2 q3 q4 q5 q6 qt sv ++ (stW q1 cI cJ (s_min U n) ++ (stW q2 cI cJ S2 ++ (stW q3 cI cJ S3 ++ (stW q4 cI cJ S4 ++ (stW q5 cI cJ S5 ++ (stW q6 cI cJ S6 ++ (txW qt cI T))))))))) (va_runV (As := []) (rest := []) ⟨hx, hb, hml, hown, hts⟩ (c_X3_passMinute l D q1 cI cJ U n hU hn6 _) (cwV 0 hts gX4_wouldBeKept_X3_passMinute rfl rfl rfl (by decide +kernel) ⟨Nat.le_of_ble_eq_true rfl, Nat.le_of_ble_eq_true rfl⟩) ⟨kB_blind, va_recv hK hP (ci := 3) (q0 := 1) rfl rfl, k_pre (a := poC o q1 q2 q3 q4 q5 q6 qt sv) (z := (stW q2 cI cJ S2 ++ (stW q3 cI cJ S3 ++ (stW q4 cI cJ S4 ++ (stW q5 cI cJ S5 ++ (stW q6 cI cJ S6 ++ (txW qt cI T))))))) rfl hK hP hD⟩ rfl rfl hl.1 rfl (lv_room (Nat.le_of_ble_eq_true rfl)) dX4_wouldBeKept_33 ⟨Nat.zero_le _, Nat.zero_le _⟩) rfl rfl (stW_ad _ _ _ _ _) hP hD hS hA (fun H locs hP hD hS => ?_)
        refine lv_pop hx hb dX4_wouldBeKept_36 rfl ?_
        refine lv_aload_n hx hb dX4_wouldBeKept_37 rfl (lv_at hl 0 rfl) ?_
        refine va_get (D := D) (ci := 4) (v := .ref (q1 0)) (C := RX4) (T := TX4) (N := 8) hx hb hts inX4 hown hK hP 0 rfl rfl 1 (by decide) (hts (.fieldLink RX4 16 "PumpOaths" "trial" "LPumpOaths$Station;") (List.mem_of_getElem? (i := 1) rfl)) (fun _ h9 => h9) rfl dX4_wouldBeKept_38 ?_
        refine va_get (D := D) (ci := 3) (v := .int ((s_min U n).1 5)) (C := RX3) (T := TX3) (N := 15) hx hb hts inX3 hown hK hP 1 rfl rfl 5 (by decide) (hts (.fieldLink RX4 151 "PumpOaths$Station" "brokenOaths" "I") (List.mem_of_getElem? (i := 4) rfl)) (fun _ h9 => h9) rfl dX4_wouldBeKept_41 ?_
        refine lv_aload_n hx hb dX4_wouldBeKept_44 rfl (lv_at hl 0 rfl) ?_
        refine va_get (D := D) (ci := 4) (v := .ref (q2 0)) (C := RX4) (T := TX4) (N := 8) hx hb hts inX4 hown hK hP 0 rfl rfl 0 (by decide) (hts (.fieldLink RX4 10 "PumpOaths" "now" "LPumpOaths$Station;") (List.mem_of_getElem? (i := 2) rfl)) (fun _ h9 => h9) rfl dX4_wouldBeKept_45 ?_
        refine va_get (D := D) (ci := 3) (v := .int (S2.1 5)) (C := RX3) (T := TX3) (N := 15) hx hb hts inX3 hown hK hP 16 rfl rfl 5 (by decide) (hts (.fieldLink RX4 151 "PumpOaths$Station" "brokenOaths" "I") (List.mem_of_getElem? (i := 4) rfl)) (fun _ h9 => h9) rfl dX4_wouldBeKept_48 ?_
        refine lv_icmp_eq (tgt := 56) hx hb dX4_wouldBeKept_51 (by decide) (fun c_51_2 => ?_) (fun c_51_2 => ?_)
        · have c_51_2 : ((s_min U n).1 5) = (S2.1 5) := c_51_2
          refine lv_iinc (v := (nI k) + 1) (lv' := [(3, .int ((nI k) + 1)), (0, .ref o), (1, .int oo), (2, .int w)]) hx hb dX4_wouldBeKept_56 hl (k := 3) rfl rfl (by decide) rfl (fun ls hl => ?_)
          refine lv_goto (tgt := 24) hx hb dX4_wouldBeKept_59 (by decide) ?_
          rw [show ((nI k) + 1) = (nI (k + 1)) from nI_1 _] at hl
          exact ih_24 (k + 1) (s_min U n) (by omega) (by omega) (by rw [itr_s, e24]; simp [s_go, c_26_1, c_51_2]) ((s_min_8 _ _).trans hU) (k_ext hno (by rw [s_pass_s, s_pass, e24]; simpa using c_51_2)) _ _ _ hP hD hS (lv_sub hl [1, 2, 3, 0] rfl)
        · have c_51_2 : ¬ ((s_min U n).1 5) = (S2.1 5) := c_51_2
          have ha : c_wkAt S2 n oo w.toNatClampNeg = k := frst_some (by rw [s_pass_s, s_pass, e24]; simpa using c_51_2) hno hkl_24
          refine lv_iconst (v := 0) hx hb dX4_wouldBeKept_54 (by decide) ?_
          exact k_iret hx hb hr hlk hP hS dX4_wouldBeKept_55 rfl (by rw [c_wkR, ha, decide_eq_false (not_not_intro hkl_24)]; rfl) (k_P (congrArg (fun T9 => (poC o q1 q2 q3 q4 q5 q6 qt sv ++ (stW q1 cI cJ T9 ++ (stW q2 cI cJ S2 ++ (stW q3 cI cJ S3 ++ (stW q4 cI cJ S4 ++ (stW q5 cI cJ S5 ++ (stW q6 cI cJ S6 ++ (txW qt cI T))))))))) (show (s_min U n) = (c_wk S2 n oo w.toNatClampNeg) from by rw [c_wk, ha, if_pos hkl_24, s_pass_s, s_pass, e24])))
  exact L_24_0 (w.toNatClampNeg + 1) 0 (p_swear S2 n oo) (by omega) (by omega) (rfl) ((p_swear_8 _ _ _).trans hn) (fun j hj => absurd hj (Nat.not_lt_zero _)) _ _ _ hP hD hS (lv_sub hl [1, 2, 3, 0] rfl)

set_option maxHeartbeats 1000000 in
set_option maxRecDepth 100000 in
theorem c_X4_emptyIn (l : Launch) (D : va_G) (o : Nat) (q1 q2 q3 q4 q5 q6 qt : Nat → Nat) (cI cJ : ClassId) (S1 S2 S3 S4 S5 S6 : SS) (T : TS) (sv : Int32) (n : Nat) (hn : S2.1 8 = nI n) (hn6 : n ≤ 6) : kI l yX4_emptyIn wsX4_emptyIn ({ frames := 4, cells := 0, slots := 0, locals := 106 } : Room) D [(cI, .int), (cJ, .long)] [.ref o] (poC o q1 q2 q3 q4 q5 q6 qt sv ++ (stW q1 cI cJ S1 ++ (stW q2 cI cJ S2 ++ (stW q3 cI cJ S3 ++ (stW q4 cI cJ S4 ++ (stW q5 cI cJ S5 ++ (stW q6 cI cJ S6 ++ (txW qt cI T)))))))) (c_emR S2 n) (poC o q1 q2 q3 q4 q5 q6 qt sv ++ (stW q1 cI cJ (c_em S2 n) ++ (stW q2 cI cJ S2 ++ (stW q3 cI cJ S3 ++ (stW q4 cI cJ S4 ++ (stW q5 cI cJ S5 ++ (stW q6 cI cJ S6 ++ (txW qt cI T)))))))) := by
  refine kBody.met (cc := cX4_emptyIn) (maxL := 2) (ret := (some .int)) (by decide) rfl (Nat.le_of_ble_eq_true rfl) ?_
  intro p9 e9 s9 m9 below meth c9 A9 ls hx hb hr hml hts hown hlk hK hP hD hA hl
  have hown : s9.vm.findClass RX4 = some m9.cls := hown
  have inX0 : ∀ w ∈ wsX00, w ∈ wsX4_emptyIn := fun w h => List.mem_cons_of_mem _ (List.mem_append_right _ (h))
  have inX2 : ∀ w ∈ wsX20, w ∈ wsX4_emptyIn := fun w h => List.mem_cons_of_mem _ (List.mem_append_left _ (List.mem_append_right _ (h)))
  have inX3 : ∀ w ∈ wsX30, w ∈ wsX4_emptyIn := fun w h => List.mem_cons_of_mem _ (List.mem_append_left _ (List.mem_append_left _ (List.mem_append_right _ (h))))
  have inX4 : ∀ w ∈ wsX40, w ∈ wsX4_emptyIn := fun w h => List.mem_cons_of_mem _ (List.mem_append_left _ (List.mem_append_left _ (List.mem_append_left _ (List.mem_append_right _ (h)))))
  have hS : va_S A9 s9.heap s9.heap [] := va_S.rf
  have hl : lv_has ls 2 [(0, .ref o)] := hl
  refine lv_aload_n hx hb dX4_emptyIn_0 rfl (lv_at hl 0 rfl) ?_
  refine va_get (D := D) (ci := 4) (v := .ref (q1 0)) (C := RX4) (T := TX4) (N := 8) hx hb hts inX4 hown hK hP 0 rfl rfl 1 (by decide) (hts (.fieldLink RX4 16 "PumpOaths" "trial" "LPumpOaths$Station;") (List.mem_of_getElem? (i := 1) rfl)) (fun _ h9 => h9) rfl dX4_emptyIn_1 ?_
  refine lv_aload_n hx hb dX4_emptyIn_4 rfl (lv_at hl 0 rfl) ?_
  refine va_get (D := D) (ci := 4) (v := .ref (q2 0)) (C := RX4) (T := TX4) (N := 8) hx hb hts inX4 hown hK hP 0 rfl rfl 0 (by decide) (hts (.fieldLink RX4 10 "PumpOaths" "now" "LPumpOaths$Station;") (List.mem_of_getElem? (i := 2) rfl)) (fun _ h9 => h9) rfl dX4_emptyIn_5 ?_
  refine k_callv (a := poC o q1 q2 q3 q4 q5 q6 qt sv) (z := (stW q3 cI cJ S3 ++ (stW q4 cI cJ S4 ++ (stW q5 cI cJ S5 ++ (stW q6 cI cJ S6 ++ (txW qt cI T)))))) (wc := (stW q1 cI cJ S1 ++ (stW q2 cI cJ S2))) (wc' := (stW q1 cI cJ S2 ++ (stW q2 cI cJ S2))) (w' := (poC o q1 q2 q3 q4 q5 q6 qt sv ++ (stW q1 cI cJ S2 ++ (stW q2 cI cJ S2 ++ (stW q3 cI cJ S3 ++ (stW q4 cI cJ S4 ++ (stW q5 cI cJ S5 ++ (stW q6 cI cJ S6 ++ (txW qt cI T))))))))) (va_runV (As := [.ref (q2 0)]) (rest := []) ⟨hx, hb, hml, hown, hts⟩ (c_X3_become l D q1 q2 cI cJ S1 S2 _) (cwV 1 hts gX4_emptyIn_X3_become rfl rfl rfl (by decide +kernel) ⟨Nat.le_of_ble_eq_true rfl, Nat.le_of_ble_eq_true rfl⟩) ⟨kB_blind, va_recv hK hP (ci := 3) (q0 := 1) rfl rfl, k_pre (a := poC o q1 q2 q3 q4 q5 q6 qt sv) (z := (stW q3 cI cJ S3 ++ (stW q4 cI cJ S4 ++ (stW q5 cI cJ S5 ++ (stW q6 cI cJ S6 ++ (txW qt cI T)))))) rfl hK hP hD⟩ rfl rfl hl.1 rfl (lv_room (Nat.le_of_ble_eq_true rfl)) dX4_emptyIn_8 ⟨Nat.zero_le _, Nat.zero_le _⟩) rfl rfl (k_ad2 (stW_ad _ _ _ _ _) (stW_ad _ _ _ _ _)) hP hD hS hA (fun H locs hP hD hS => ?_)
  refine lv_aload_n hx hb dX4_emptyIn_11 rfl (lv_at hl 0 rfl) ?_
  refine va_get (D := D) (ci := 4) (v := .ref (q1 0)) (C := RX4) (T := TX4) (N := 8) hx hb hts inX4 hown hK hP 0 rfl rfl 1 (by decide) (hts (.fieldLink RX4 16 "PumpOaths" "trial" "LPumpOaths$Station;") (List.mem_of_getElem? (i := 1) rfl)) (fun _ h9 => h9) rfl dX4_emptyIn_12 ?_
  refine va_get (D := D) (ci := 3) (v := .ref (q1 4)) (C := RX3) (T := TX3) (N := 15) hx hb hts inX3 hown hK hP 1 rfl rfl 13 (by decide) (hts (.fieldLink RX4 111 "PumpOaths$Station" "pumps" "LPumpOaths$Pumps;") (List.mem_of_getElem? (i := 3) rfl)) (fun _ h9 => h9) rfl dX4_emptyIn_15 ?_
  refine k_callv (a := poC o q1 q2 q3 q4 q5 q6 qt sv) (z := (stW q2 cI cJ S2 ++ (stW q3 cI cJ S3 ++ (stW q4 cI cJ S4 ++ (stW q5 cI cJ S5 ++ (stW q6 cI cJ S6 ++ (txW qt cI T))))))) (wc := stW q1 cI cJ S2) (wc' := stW q1 cI cJ (p_out S2 n)) (w' := (poC o q1 q2 q3 q4 q5 q6 qt sv ++ (stW q1 cI cJ (p_out S2 n) ++ (stW q2 cI cJ S2 ++ (stW q3 cI cJ S3 ++ (stW q4 cI cJ S4 ++ (stW q5 cI cJ S5 ++ (stW q6 cI cJ S6 ++ (txW qt cI T))))))))) (va_runV (As := []) (rest := []) ⟨hx, hb, hml, hown, hts⟩ (c_X2_takeAllOut l D q1 cI cJ S2 n hn hn6 _) (cwV 0 hts gX4_emptyIn_X2_takeAllOut rfl rfl rfl (by decide +kernel) ⟨Nat.le_of_ble_eq_true rfl, Nat.le_of_ble_eq_true rfl⟩) ⟨kB_blind, va_recv hK hP (ci := 2) (q0 := 5) rfl rfl, k_pre (a := poC o q1 q2 q3 q4 q5 q6 qt sv) (z := (stW q2 cI cJ S2 ++ (stW q3 cI cJ S3 ++ (stW q4 cI cJ S4 ++ (stW q5 cI cJ S5 ++ (stW q6 cI cJ S6 ++ (txW qt cI T))))))) rfl hK hP hD⟩ rfl rfl hl.1 rfl (lv_room (Nat.le_of_ble_eq_true rfl)) dX4_emptyIn_18 ⟨Nat.zero_le _, Nat.zero_le _⟩) rfl rfl (stW_ad _ _ _ _ _) hP hD hS hA (fun H locs hP hD hS => ?_)
  refine lv_iconst (v := 0) hx hb dX4_emptyIn_21 (by decide) ?_
  refine lv_istore_n (lv' := [(1, .int 0), (0, .ref o)]) hx hb dX4_emptyIn_22 rfl hl (by decide) rfl (fun ls hl => ?_)
  have L_23_0 : ∀ (d : Nat) (k : Nat) (U : SS), 1441 < k + d → k ≤ 1441 → ∀  (e23 : itr (s_go n) k (p_out S2 n) = U) (hU : U.1 8 = nI n) (hno : ∀ j, j < k → decide ((s_pass (p_out S2 n) n j).1 1 = 0) = false) (H : Heap) (locs : List Loc) (ls : Array Slot), va_P D vwCl (poC o q1 q2 q3 q4 q5 q6 qt sv ++ (stW q1 cI cJ U ++ (stW q2 cI cJ S2 ++ (stW q3 cI cJ S3 ++ (stW q4 cI cJ S4 ++ (stW q5 cI cJ S5 ++ (stW q6 cI cJ S6 ++ (txW qt cI T)))))))) H → va_D A9 (poC o q1 q2 q3 q4 q5 q6 qt sv ++ (stW q1 cI cJ U ++ (stW q2 cI cJ S2 ++ (stW q3 cI cJ S3 ++ (stW q4 cI cJ S4 ++ (stW q5 cI cJ S5 ++ (stW q6 cI cJ S6 ++ (txW qt cI T)))))))) → va_S A9 s9.heap H locs → lv_has ls 2 [(0, .ref o), (1, .int (nI k))] → W p9 l e9 ({ frames := 4, cells := 0, slots := 0, locals := 106 } : Room) s9 m9 (List.toArray [.ref o]) below meth c9 H locs 0 0 (MQ below (va_Qi (fun r (_ : Unit) => r = (c_emR S2 n)) (fun _ t9 => va_P D vwCl (poC o q1 q2 q3 q4 q5 q6 qt sv ++ (stW q1 cI cJ (c_em S2 n) ++ (stW q2 cI cJ S2 ++ (stW q3 cI cJ S3 ++ (stW q4 cI cJ S4 ++ (stW q5 cI cJ S5 ++ (stW q6 cI cJ S6 ++ (txW qt cI T)))))))) t9.heap) A9) (List.toArray [.ref o]) s9 0 0 A9) (F0 m9 23 ls []) := by
    intro d
    induction d with
    | zero =>
      intro k U hf
      intro hkn; exact absurd hf (by omega)
    | succ d ih_23 =>
      intro k U hf_23 hkn_23 e23 hU hno H locs ls hP hD hS hl
      refine lv_iload_n hx hb dX4_emptyIn_23 rfl (lv_at hl 1 rfl) ?_
      refine lv_sipush (v := 1440) hx hb dX4_emptyIn_24 (by decide) ?_
      refine lv_icmp_gt (tgt := 56) hx hb dX4_emptyIn_27 (by decide) (fun c_27_1 => ?_) (fun c_27_1 => ?_)
      · have c_27_1 : 1440 < (nI k) := c_27_1
        have hke_23 : k = 1441 := by
          rcases Nat.lt_or_ge k 1441 with q9 | q9
          · exact absurd c_27_1 (Int32.not_lt.mpr (show nI k ≤ nI 1440 from nI_le (by omega) (by decide)))
          · omega
        have ha : c_emAt S2 n = 1441 := frst_none (by rw [← hke_23]; exact hno)
        refine lv_iconst (v := (-1)) hx hb dX4_emptyIn_56 (by decide) ?_
        exact k_iret hx hb hr hlk hP hS dX4_emptyIn_57 rfl (by rw [c_emR, ha, if_neg (by decide)]) (k_P (congrArg (fun T9 => (poC o q1 q2 q3 q4 q5 q6 qt sv ++ (stW q1 cI cJ T9 ++ (stW q2 cI cJ S2 ++ (stW q3 cI cJ S3 ++ (stW q4 cI cJ S4 ++ (stW q5 cI cJ S5 ++ (stW q6 cI cJ S6 ++ (txW qt cI T))))))))) (show U = (c_em S2 n) from by rw [c_em, ha, s_pass, ← hke_23, e23])))
      · have c_27_1 : ¬ 1440 < (nI k) := c_27_1
        have hkl_23 : k < 1441 := by
          rcases Nat.lt_or_ge k 1441 with q9 | q9
          · exact q9
          · exact absurd (show nI k ≤ nI 1440 from Int32.not_lt.mp c_27_1) (nI_ge (by omega) (by omega))
        refine lv_aload_n hx hb dX4_emptyIn_30 rfl (lv_at hl 0 rfl) ?_
        refine va_get (D := D) (ci := 4) (v := .ref (q1 0)) (C := RX4) (T := TX4) (N := 8) hx hb hts inX4 hown hK hP 0 rfl rfl 1 (by decide) (hts (.fieldLink RX4 16 "PumpOaths" "trial" "LPumpOaths$Station;") (List.mem_of_getElem? (i := 1) rfl)) (fun _ h9 => h9) rfl dX4_emptyIn_31 ?_
        refine va_get (D := D) (ci := 3) (v := .int (U.1 1)) (C := RX3) (T := TX3) (N := 15) hx hb hts inX3 hown hK hP 1 rfl rfl 1 (by decide) (hts (.fieldLink RX4 54 "PumpOaths$Station" "level" "I") (List.mem_of_getElem? (i := 4) rfl)) (fun _ h9 => h9) rfl dX4_emptyIn_34 ?_
        refine lv_if_ne (tgt := 42) hx hb dX4_emptyIn_37 (by decide) (fun c_37_2 => ?_) (fun c_37_2 => ?_)
        · have c_37_2 : ¬ (U.1 1) = 0 := c_37_2
          refine lv_aload_n hx hb dX4_emptyIn_42 rfl (lv_at hl 0 rfl) ?_
          refine va_get (D := D) (ci := 4) (v := .ref (q1 0)) (C := RX4) (T := TX4) (N := 8) hx hb hts inX4 hown hK hP 0 rfl rfl 1 (by decide) (hts (.fieldLink RX4 16 "PumpOaths" "trial" "LPumpOaths$Station;") (List.mem_of_getElem? (i := 1) rfl)) (fun _ h9 => h9) rfl dX4_emptyIn_43 ?_
          refine k_calli (a := poC o q1 q2 q3 q4 q5 q6 qt sv) (z := (stW q2 cI cJ S2 ++ (stW q3 cI cJ S3 ++ (stW q4 cI cJ S4 ++ (stW q5 cI cJ S5 ++ (stW q6 cI cJ S6 ++ (txW qt cI T))))))) (wc := stW q1 cI cJ U) (wc' := stW q1 cI cJ (s_min U n)) (w' := (poC o q1 q2 q3 q4 q5 q6 qt sv ++ (stW q1 cI cJ (s_min U n) ++ (stW q2 cI cJ S2 ++ (stW q3 cI cJ S3 ++ (stW q4 cI cJ S4 ++ (stW q5 cI cJ S5 ++ (stW q6 cI cJ S6 ++ (txW qt cI T))))))))) (va_runV (As := []) (rest := []) ⟨hx, hb, hml, hown, hts⟩ (c_X3_passMinute l D q1 cI cJ U n hU hn6 _) (cwV 0 hts gX4_emptyIn_X3_passMinute rfl rfl rfl (by decide +kernel) ⟨Nat.le_of_ble_eq_true rfl, Nat.le_of_ble_eq_true rfl⟩) ⟨kB_blind, va_recv hK hP (ci := 3) (q0 := 1) rfl rfl, k_pre (a := poC o q1 q2 q3 q4 q5 q6 qt sv) (z := (stW q2 cI cJ S2 ++ (stW q3 cI cJ S3 ++ (stW q4 cI cJ S4 ++ (stW q5 cI cJ S5 ++ (stW q6 cI cJ S6 ++ (txW qt cI T))))))) rfl hK hP hD⟩ rfl rfl hl.1 rfl (lv_room (Nat.le_of_ble_eq_true rfl)) dX4_emptyIn_46 ⟨Nat.zero_le _, Nat.zero_le _⟩) rfl rfl (stW_ad _ _ _ _ _) hP hD hS hA (fun H locs hP hD hS => ?_)
          refine lv_pop hx hb dX4_emptyIn_49 rfl ?_
          refine lv_iinc (v := (nI k) + 1) (lv' := [(1, .int ((nI k) + 1)), (0, .ref o)]) hx hb dX4_emptyIn_50 hl (k := 1) rfl rfl (by decide) rfl (fun ls hl => ?_)
          refine lv_goto (tgt := 23) hx hb dX4_emptyIn_53 (by decide) ?_
          rw [show ((nI k) + 1) = (nI (k + 1)) from nI_1 _] at hl
          exact ih_23 (k + 1) (s_min U n) (by omega) (by omega) (by rw [itr_s, e23]; simp [s_go, c_27_1, c_37_2]) ((s_min_8 _ _).trans hU) (k_ext hno (by rw [s_pass, e23]; simpa using c_37_2)) _ _ _ hP hD hS (lv_sub hl [1, 0] rfl)
        · have c_37_2 : (U.1 1) = 0 := c_37_2
          have ha : c_emAt S2 n = k := frst_some (by rw [s_pass, e23]; simpa using c_37_2) hno hkl_23
          refine lv_iload_n hx hb dX4_emptyIn_40 rfl (lv_at hl 1 rfl) ?_
          exact k_iret hx hb hr hlk hP hS dX4_emptyIn_41 rfl (by rw [c_emR, ha, if_pos hkl_23]) (k_P (congrArg (fun T9 => (poC o q1 q2 q3 q4 q5 q6 qt sv ++ (stW q1 cI cJ T9 ++ (stW q2 cI cJ S2 ++ (stW q3 cI cJ S3 ++ (stW q4 cI cJ S4 ++ (stW q5 cI cJ S5 ++ (stW q6 cI cJ S6 ++ (txW qt cI T))))))))) (show U = (c_em S2 n) from by rw [c_em, ha, s_pass, e23])))
  exact L_23_0 (1441 + 1) 0 (p_out S2 n) (by omega) (by omega) (rfl) ((p_out_8 _ _).trans hn) (fun j hj => absurd hj (Nat.not_lt_zero _)) _ _ _ hP hD hS (lv_sub hl [1, 0] rfl)

set_option maxHeartbeats 1000000 in
set_option maxRecDepth 100000 in
theorem c_X4_nextStart (l : Launch) (D : va_G) (o : Nat) (q1 q2 q3 q4 q5 q6 qt : Nat → Nat) (cI cJ : ClassId) (S1 S2 S3 S4 S5 S6 : SS) (T : TS) (sv : Int32) (n : Nat) (hn : S2.1 8 = nI n) (hn6 : n ≤ 6) : kI l yX4_nextStart wsX4_nextStart ({ frames := 4, cells := 0, slots := 0, locals := 106 } : Room) D [(cI, .int), (cJ, .long)] [.ref o] (poC o q1 q2 q3 q4 q5 q6 qt sv ++ (stW q1 cI cJ S1 ++ (stW q2 cI cJ S2 ++ (stW q3 cI cJ S3 ++ (stW q4 cI cJ S4 ++ (stW q5 cI cJ S5 ++ (stW q6 cI cJ S6 ++ (txW qt cI T)))))))) (c_nsR S2 n) (poC o q1 q2 q3 q4 q5 q6 qt sv ++ (stW q1 cI cJ (c_ns S2 n) ++ (stW q2 cI cJ S2 ++ (stW q3 cI cJ S3 ++ (stW q4 cI cJ S4 ++ (stW q5 cI cJ S5 ++ (stW q6 cI cJ S6 ++ (txW qt cI T)))))))) := by
  refine kBody.met (cc := cX4_nextStart) (maxL := 3) (ret := (some .int)) (by decide) rfl (Nat.le_of_ble_eq_true rfl) ?_
  intro p9 e9 s9 m9 below meth c9 A9 ls hx hb hr hml hts hown hlk hK hP hD hA hl
  have hown : s9.vm.findClass RX4 = some m9.cls := hown
  have inX0 : ∀ w ∈ wsX00, w ∈ wsX4_nextStart := fun w h => List.mem_cons_of_mem _ (List.mem_append_right _ (h))
  have inX2 : ∀ w ∈ wsX20, w ∈ wsX4_nextStart := fun w h => List.mem_cons_of_mem _ (List.mem_append_left _ (List.mem_append_right _ (h)))
  have inX3 : ∀ w ∈ wsX30, w ∈ wsX4_nextStart := fun w h => List.mem_cons_of_mem _ (List.mem_append_left _ (List.mem_append_left _ (List.mem_append_right _ (h))))
  have inX4 : ∀ w ∈ wsX40, w ∈ wsX4_nextStart := fun w h => List.mem_cons_of_mem _ (List.mem_append_left _ (List.mem_append_left _ (List.mem_append_left _ (List.mem_append_right _ (h)))))
  have hS : va_S A9 s9.heap s9.heap [] := va_S.rf
  have hl : lv_has ls 3 [(0, .ref o)] := hl
  refine lv_aload_n hx hb dX4_nextStart_0 rfl (lv_at hl 0 rfl) ?_
  refine va_get (D := D) (ci := 4) (v := .ref (q1 0)) (C := RX4) (T := TX4) (N := 8) hx hb hts inX4 hown hK hP 0 rfl rfl 1 (by decide) (hts (.fieldLink RX4 16 "PumpOaths" "trial" "LPumpOaths$Station;") (List.mem_of_getElem? (i := 1) rfl)) (fun _ h9 => h9) rfl dX4_nextStart_1 ?_
  refine lv_aload_n hx hb dX4_nextStart_4 rfl (lv_at hl 0 rfl) ?_
  refine va_get (D := D) (ci := 4) (v := .ref (q2 0)) (C := RX4) (T := TX4) (N := 8) hx hb hts inX4 hown hK hP 0 rfl rfl 0 (by decide) (hts (.fieldLink RX4 10 "PumpOaths" "now" "LPumpOaths$Station;") (List.mem_of_getElem? (i := 2) rfl)) (fun _ h9 => h9) rfl dX4_nextStart_5 ?_
  refine k_callv (a := poC o q1 q2 q3 q4 q5 q6 qt sv) (z := (stW q3 cI cJ S3 ++ (stW q4 cI cJ S4 ++ (stW q5 cI cJ S5 ++ (stW q6 cI cJ S6 ++ (txW qt cI T)))))) (wc := (stW q1 cI cJ S1 ++ (stW q2 cI cJ S2))) (wc' := (stW q1 cI cJ S2 ++ (stW q2 cI cJ S2))) (w' := (poC o q1 q2 q3 q4 q5 q6 qt sv ++ (stW q1 cI cJ S2 ++ (stW q2 cI cJ S2 ++ (stW q3 cI cJ S3 ++ (stW q4 cI cJ S4 ++ (stW q5 cI cJ S5 ++ (stW q6 cI cJ S6 ++ (txW qt cI T))))))))) (va_runV (As := [.ref (q2 0)]) (rest := []) ⟨hx, hb, hml, hown, hts⟩ (c_X3_become l D q1 q2 cI cJ S1 S2 _) (cwV 1 hts gX4_nextStart_X3_become rfl rfl rfl (by decide +kernel) ⟨Nat.le_of_ble_eq_true rfl, Nat.le_of_ble_eq_true rfl⟩) ⟨kB_blind, va_recv hK hP (ci := 3) (q0 := 1) rfl rfl, k_pre (a := poC o q1 q2 q3 q4 q5 q6 qt sv) (z := (stW q3 cI cJ S3 ++ (stW q4 cI cJ S4 ++ (stW q5 cI cJ S5 ++ (stW q6 cI cJ S6 ++ (txW qt cI T)))))) rfl hK hP hD⟩ rfl rfl hl.1 rfl (lv_room (Nat.le_of_ble_eq_true rfl)) dX4_nextStart_8 ⟨Nat.zero_le _, Nat.zero_le _⟩) rfl rfl (k_ad2 (stW_ad _ _ _ _ _) (stW_ad _ _ _ _ _)) hP hD hS hA (fun H locs hP hD hS => ?_)
  refine lv_iconst (v := 0) hx hb dX4_nextStart_11 (by decide) ?_
  refine lv_istore_n (lv' := [(1, .int 0), (0, .ref o)]) hx hb dX4_nextStart_12 rfl hl (by decide) rfl (fun ls hl => ?_)
  have L_13_0 : ∀ (d : Nat) (k : Nat) (U : SS), 1440 < k + d → k ≤ 1440 → ∀  (e13 : itr (s_go n) k S2 = U) (hU : U.1 8 = nI n) (hno : ∀ j, j < k → decide (¬ s_minR (s_pass S2 n j) n = -1) = false) (H : Heap) (locs : List Loc) (ls : Array Slot), va_P D vwCl (poC o q1 q2 q3 q4 q5 q6 qt sv ++ (stW q1 cI cJ U ++ (stW q2 cI cJ S2 ++ (stW q3 cI cJ S3 ++ (stW q4 cI cJ S4 ++ (stW q5 cI cJ S5 ++ (stW q6 cI cJ S6 ++ (txW qt cI T)))))))) H → va_D A9 (poC o q1 q2 q3 q4 q5 q6 qt sv ++ (stW q1 cI cJ U ++ (stW q2 cI cJ S2 ++ (stW q3 cI cJ S3 ++ (stW q4 cI cJ S4 ++ (stW q5 cI cJ S5 ++ (stW q6 cI cJ S6 ++ (txW qt cI T)))))))) → va_S A9 s9.heap H locs → lv_has ls 3 [(0, .ref o), (1, .int (nI k))] → W p9 l e9 ({ frames := 4, cells := 0, slots := 0, locals := 106 } : Room) s9 m9 (List.toArray [.ref o]) below meth c9 H locs 0 0 (MQ below (va_Qi (fun r (_ : Unit) => r = (c_nsR S2 n)) (fun _ t9 => va_P D vwCl (poC o q1 q2 q3 q4 q5 q6 qt sv ++ (stW q1 cI cJ (c_ns S2 n) ++ (stW q2 cI cJ S2 ++ (stW q3 cI cJ S3 ++ (stW q4 cI cJ S4 ++ (stW q5 cI cJ S5 ++ (stW q6 cI cJ S6 ++ (txW qt cI T)))))))) t9.heap) A9) (List.toArray [.ref o]) s9 0 0 A9) (F0 m9 13 ls []) := by
    intro d
    induction d with
    | zero =>
      intro k U hf
      intro hkn; exact absurd hf (by omega)
    | succ d ih_13 =>
      intro k U hf_13 hkn_13 e13 hU hno H locs ls hP hD hS hl
      refine lv_iload_n hx hb dX4_nextStart_13 rfl (lv_at hl 1 rfl) ?_
      refine lv_sipush (v := 1440) hx hb dX4_nextStart_14 (by decide) ?_
      refine lv_icmp_ge (tgt := 41) hx hb dX4_nextStart_17 (by decide) (fun c_17_1 => ?_) (fun c_17_1 => ?_)
      · have c_17_1 : 1440 ≤ (nI k) := c_17_1
        have hke_13 : k = 1440 := k_exitN c_17_1 rfl hkn_13 (by decide)
        have ha : c_nsAt S2 n = 1440 := frst_none (by rw [← hke_13]; exact hno)
        refine lv_iconst (v := (-1)) hx hb dX4_nextStart_41 (by decide) ?_
        exact k_iret hx hb hr hlk hP hS dX4_nextStart_42 rfl (by rw [c_nsR, ha, if_neg (by decide)]) (k_P (congrArg (fun T9 => (poC o q1 q2 q3 q4 q5 q6 qt sv ++ (stW q1 cI cJ T9 ++ (stW q2 cI cJ S2 ++ (stW q3 cI cJ S3 ++ (stW q4 cI cJ S4 ++ (stW q5 cI cJ S5 ++ (stW q6 cI cJ S6 ++ (txW qt cI T))))))))) (show U = (c_ns S2 n) from by rw [c_ns, ha, if_neg (by decide), s_pass, ← hke_13, e13])))
      · have c_17_1 : ¬ 1440 ≤ (nI k) := c_17_1
        have hkl_13 : k < 1440 := k_bodyN c_17_1 rfl hkn_13 (by decide)
        refine lv_aload_n hx hb dX4_nextStart_20 rfl (lv_at hl 0 rfl) ?_
        refine va_get (D := D) (ci := 4) (v := .ref (q1 0)) (C := RX4) (T := TX4) (N := 8) hx hb hts inX4 hown hK hP 0 rfl rfl 1 (by decide) (hts (.fieldLink RX4 16 "PumpOaths" "trial" "LPumpOaths$Station;") (List.mem_of_getElem? (i := 1) rfl)) (fun _ h9 => h9) rfl dX4_nextStart_21 ?_
        refine k_calli (a := poC o q1 q2 q3 q4 q5 q6 qt sv) (z := (stW q2 cI cJ S2 ++ (stW q3 cI cJ S3 ++ (stW q4 cI cJ S4 ++ (stW q5 cI cJ S5 ++ (stW q6 cI cJ S6 ++ (txW qt cI T))))))) (wc := stW q1 cI cJ U) (wc' := stW q1 cI cJ (s_min U n)) (w' := (poC o q1 q2 q3 q4 q5 q6 qt sv ++ (stW q1 cI cJ (s_min U n) ++ (stW q2 cI cJ S2 ++ (stW q3 cI cJ S3 ++ (stW q4 cI cJ S4 ++ (stW q5 cI cJ S5 ++ (stW q6 cI cJ S6 ++ (txW qt cI T))))))))) (va_runV (As := []) (rest := []) ⟨hx, hb, hml, hown, hts⟩ (c_X3_passMinute l D q1 cI cJ U n hU hn6 _) (cwV 0 hts gX4_nextStart_X3_passMinute rfl rfl rfl (by decide +kernel) ⟨Nat.le_of_ble_eq_true rfl, Nat.le_of_ble_eq_true rfl⟩) ⟨kB_blind, va_recv hK hP (ci := 3) (q0 := 1) rfl rfl, k_pre (a := poC o q1 q2 q3 q4 q5 q6 qt sv) (z := (stW q2 cI cJ S2 ++ (stW q3 cI cJ S3 ++ (stW q4 cI cJ S4 ++ (stW q5 cI cJ S5 ++ (stW q6 cI cJ S6 ++ (txW qt cI T))))))) rfl hK hP hD⟩ rfl rfl hl.1 rfl (lv_room (Nat.le_of_ble_eq_true rfl)) dX4_nextStart_24 ⟨Nat.zero_le _, Nat.zero_le _⟩) rfl rfl (stW_ad _ _ _ _ _) hP hD hS hA (fun H locs hP hD hS => ?_)
        refine lv_istore_n (lv' := [(2, .int (s_minR U n)), (0, .ref o), (1, .int (nI k))]) hx hb dX4_nextStart_27 rfl hl (by decide) rfl (fun ls hl => ?_)
        refine lv_iload_n hx hb dX4_nextStart_28 rfl (lv_at hl 0 rfl) ?_
        refine lv_iconst (v := (-1)) hx hb dX4_nextStart_29 (by decide) ?_
        refine lv_icmp_eq (tgt := 35) hx hb dX4_nextStart_30 (by decide) (fun c_30_2 => ?_) (fun c_30_2 => ?_)
        · have c_30_2 : (s_minR U n) = (-1) := c_30_2
          refine lv_iinc (v := (nI k) + 1) (lv' := [(1, .int ((nI k) + 1)), (2, .int (s_minR U n)), (0, .ref o)]) hx hb dX4_nextStart_35 hl (k := 2) rfl rfl (by decide) rfl (fun ls hl => ?_)
          refine lv_goto (tgt := 13) hx hb dX4_nextStart_38 (by decide) ?_
          rw [show ((nI k) + 1) = (nI (k + 1)) from nI_1 _] at hl
          exact ih_13 (k + 1) (s_min U n) (by omega) (by omega) (by rw [itr_s, e13]; simp [s_go, c_17_1, c_30_2]) ((s_min_8 _ _).trans hU) (k_ext hno (by rw [s_pass, e13]; simpa using c_30_2)) _ _ _ hP hD hS (lv_sub hl [2, 0] rfl)
        · have c_30_2 : ¬ (s_minR U n) = (-1) := c_30_2
          have ha : c_nsAt S2 n = k := frst_some (by rw [s_pass, e13]; simpa using c_30_2) hno hkl_13
          refine lv_iload_n hx hb dX4_nextStart_33 rfl (lv_at hl 0 rfl) ?_
          exact k_iret hx hb hr hlk hP hS dX4_nextStart_34 rfl (by rw [c_nsR, ha, if_pos hkl_13, s_pass, e13]) (k_P (congrArg (fun T9 => (poC o q1 q2 q3 q4 q5 q6 qt sv ++ (stW q1 cI cJ T9 ++ (stW q2 cI cJ S2 ++ (stW q3 cI cJ S3 ++ (stW q4 cI cJ S4 ++ (stW q5 cI cJ S5 ++ (stW q6 cI cJ S6 ++ (txW qt cI T))))))))) (show (s_min U n) = (c_ns S2 n) from by rw [c_ns, ha, if_pos hkl_13, s_pass_s, s_pass, e13])))
  exact L_13_0 (1440 + 1) 0 S2 (by omega) (by omega) (rfl) (hn) (fun j hj => absurd hj (Nat.not_lt_zero _)) _ _ _ hP hD hS (lv_sub hl [1, 0] rfl)
