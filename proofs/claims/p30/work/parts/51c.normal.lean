set_option maxHeartbeats 1000000 in
set_option maxRecDepth 100000 in
theorem n_X4_service1 (l : Launch) (D : va_G) (o : Nat) (q1 q2 q3 q4 q5 q6 qt : Nat → Nat) (cI cJ : ClassId) (S1 S2 S3 S4 S5 S6 : SS) (T : TS) (sv : Int32) (x : Int32) (n : Nat) (hn : S2.1 8 = nI n) (hn6 : n ≤ 6) (hp : p_has S2 x = true) (hs : ¬ bi (c_svc S2 x) = 1) : kI l yX4_service wsX4_service ({ frames := 4, cells := 0, slots := 0, locals := 102 } : Room) D [(cI, .int), (cJ, .long)] [.ref o, .int x, .int 1] (poC o q1 q2 q3 q4 q5 q6 qt sv ++ (stW q1 cI cJ S1 ++ (stW q2 cI cJ S2 ++ (stW q3 cI cJ S3 ++ (stW q4 cI cJ S4 ++ (stW q5 cI cJ S5 ++ (stW q6 cI cJ S6 ++ (txW qt cI T)))))))) (p_was S2 x) (poC o q1 q2 q3 q4 q5 q6 qt (c_sv sv) ++ (stW q1 cI cJ S1 ++ (stW q2 cI cJ (setA S2 4 (upd (S2.2.2.1 4) x.toNatClampNeg 0)) ++ (stW q3 cI cJ S2 ++ (stW q4 cI cJ S3 ++ (stW q5 cI cJ S4 ++ (stW q6 cI cJ S5 ++ (txW qt cI T)))))))) := by
  refine kBody.met (cc := cX4_service) (maxL := 4) (ret := (some .boolean)) (by decide) rfl (Nat.le_of_ble_eq_true rfl) ?_
  intro p9 e9 s9 m9 below meth c9 A9 ls hx hb hr hml hts hown hlk hK hP hD hA hl
  have hown : s9.vm.findClass RX4 = some m9.cls := hown
  have inX0 : ∀ w ∈ wsX00, w ∈ wsX4_service := fun w h => List.mem_cons_of_mem _ (List.mem_append_left _ (List.mem_append_left _ (List.mem_append_right _ (h))))
  have inX2 : ∀ w ∈ wsX20, w ∈ wsX4_service := fun w h => List.mem_cons_of_mem _ (List.mem_append_left _ (List.mem_append_left _ (List.mem_append_left _ (List.mem_append_right _ (h)))))
  have inX3 : ∀ w ∈ wsX30, w ∈ wsX4_service := fun w h => List.mem_cons_of_mem _ (List.mem_append_left _ (List.mem_append_left _ (List.mem_append_left _ (List.mem_append_left _ (List.mem_append_right _ (h))))))
  have inX4 : ∀ w ∈ wsX40, w ∈ wsX4_service := fun w h => List.mem_cons_of_mem _ (List.mem_append_left _ (List.mem_append_left _ (List.mem_append_left _ (List.mem_append_left _ (List.mem_append_left _ (List.mem_append_right _ (h)))))))
  have hS : va_S A9 s9.heap s9.heap [] := va_S.rf
  have hl : lv_has ls 4 [(0, .ref o), (1, .int x), (2, .int 1)] := hl
  refine lv_aload_n hx hb dX4_service_0 rfl (lv_at hl 0 rfl) ?_
  refine lv_iload_n hx hb dX4_service_1 rfl (lv_at hl 1 rfl) ?_
  refine k_calli (a := []) (z := []) (wc := (poC o q1 q2 q3 q4 q5 q6 qt sv ++ (stW q1 cI cJ S1 ++ (stW q2 cI cJ S2 ++ (stW q3 cI cJ S3 ++ (stW q4 cI cJ S4 ++ (stW q5 cI cJ S5 ++ (stW q6 cI cJ S6 ++ (txW qt cI T))))))))) (wc' := (poC o q1 q2 q3 q4 q5 q6 qt sv ++ (stW q1 cI cJ S1 ++ (stW q2 cI cJ S2 ++ (stW q3 cI cJ S3 ++ (stW q4 cI cJ S4 ++ (stW q5 cI cJ S5 ++ (stW q6 cI cJ S6 ++ (txW qt cI T))))))))) (w' := (poC o q1 q2 q3 q4 q5 q6 qt sv ++ (stW q1 cI cJ S1 ++ (stW q2 cI cJ S2 ++ (stW q3 cI cJ S3 ++ (stW q4 cI cJ S4 ++ (stW q5 cI cJ S5 ++ (stW q6 cI cJ S6 ++ (txW qt cI T))))))))) (va_runV (As := [.int x]) (rest := []) ⟨hx, hb, hml, hown, hts⟩ (c_X4_isPump l D o q1 q2 q3 q4 q5 q6 qt cI cJ S1 S2 S3 S4 S5 S6 T sv x _) (cwV 1 hts gX4_service_X4_isPump rfl rfl rfl (by decide +kernel) ⟨Nat.le_of_ble_eq_true rfl, Nat.le_of_ble_eq_true rfl⟩) ⟨kB_blind, va_recv hK hP (ci := 4) (q0 := 0) rfl rfl, k_pre (a := []) (z := []) (k_w0 _) hK hP hD⟩ rfl rfl hl.1 rfl (lv_room (Nat.le_of_ble_eq_true rfl)) dX4_service_2 ⟨Nat.zero_le _, Nat.zero_le _⟩) (k_w0 _) (k_w0 _) rfl hP hD hS hA (fun H locs hP hD hS => ?_)
  refine lv_if_ne (tgt := 18) hx hb dX4_service_5 (by decide) (fun c_5_0 => ?_) (fun c_5_0 => ?_)
  · have c_5_0 : (p_has S2 x) = true := bi_n.mp c_5_0
    refine lv_aload_n hx hb dX4_service_18 rfl (lv_at hl 0 rfl) ?_
    refine lv_iload_n hx hb dX4_service_19 rfl (lv_at hl 1 rfl) ?_
    refine k_calli (a := []) (z := []) (wc := (poC o q1 q2 q3 q4 q5 q6 qt sv ++ (stW q1 cI cJ S1 ++ (stW q2 cI cJ S2 ++ (stW q3 cI cJ S3 ++ (stW q4 cI cJ S4 ++ (stW q5 cI cJ S5 ++ (stW q6 cI cJ S6 ++ (txW qt cI T))))))))) (wc' := (poC o q1 q2 q3 q4 q5 q6 qt sv ++ (stW q1 cI cJ S1 ++ (stW q2 cI cJ S2 ++ (stW q3 cI cJ S3 ++ (stW q4 cI cJ S4 ++ (stW q5 cI cJ S5 ++ (stW q6 cI cJ S6 ++ (txW qt cI T))))))))) (w' := (poC o q1 q2 q3 q4 q5 q6 qt sv ++ (stW q1 cI cJ S1 ++ (stW q2 cI cJ S2 ++ (stW q3 cI cJ S3 ++ (stW q4 cI cJ S4 ++ (stW q5 cI cJ S5 ++ (stW q6 cI cJ S6 ++ (txW qt cI T))))))))) (va_runV (As := [.int x]) (rest := []) ⟨hx, hb, hml, hown, hts⟩ (c_X4_isInService l D o q1 q2 q3 q4 q5 q6 qt cI cJ S1 S2 S3 S4 S5 S6 T sv x n hn hn6 _) (cwV 1 hts gX4_service_X4_isInService rfl rfl rfl (by decide +kernel) ⟨Nat.le_of_ble_eq_true rfl, Nat.le_of_ble_eq_true rfl⟩) ⟨kB_blind, va_recv hK hP (ci := 4) (q0 := 0) rfl rfl, k_pre (a := []) (z := []) (k_w0 _) hK hP hD⟩ rfl rfl hl.1 rfl (lv_room (Nat.le_of_ble_eq_true rfl)) dX4_service_20 ⟨Nat.zero_le _, Nat.zero_le _⟩) (k_w0 _) (k_w0 _) rfl hP hD hS hA (fun H locs hP hD hS => ?_)
    refine lv_iload_n hx hb dX4_service_23 rfl (lv_at hl 2 rfl) ?_
    refine lv_icmp_ne (tgt := 37) hx hb dX4_service_24 (by decide) (fun c_24_1 => ?_) (fun c_24_1 => ?_)
    · have c_24_1 : ¬ (bi (c_svc S2 x)) = 1 := c_24_1
      have hin := p_hasIn hp hn hn6
      refine lv_aload_n hx hb dX4_service_37 rfl (lv_at hl 0 rfl) ?_
      refine k_callv (a := []) (z := []) (wc := (poC o q1 q2 q3 q4 q5 q6 qt sv ++ (stW q1 cI cJ S1 ++ (stW q2 cI cJ S2 ++ (stW q3 cI cJ S3 ++ (stW q4 cI cJ S4 ++ (stW q5 cI cJ S5 ++ (stW q6 cI cJ S6 ++ (txW qt cI T))))))))) (wc' := (poC o q1 q2 q3 q4 q5 q6 qt (c_sv sv) ++ (stW q1 cI cJ S1 ++ (stW q2 cI cJ S2 ++ (stW q3 cI cJ S2 ++ (stW q4 cI cJ S3 ++ (stW q5 cI cJ S4 ++ (stW q6 cI cJ S5 ++ (txW qt cI T))))))))) (w' := (poC o q1 q2 q3 q4 q5 q6 qt (c_sv sv) ++ (stW q1 cI cJ S1 ++ (stW q2 cI cJ S2 ++ (stW q3 cI cJ S2 ++ (stW q4 cI cJ S3 ++ (stW q5 cI cJ S4 ++ (stW q6 cI cJ S5 ++ (txW qt cI T))))))))) (va_runV (As := []) (rest := []) ⟨hx, hb, hml, hown, hts⟩ (c_X4_save l D o q1 q2 q3 q4 q5 q6 qt cI cJ S1 S2 S3 S4 S5 S6 T sv  _) (cwV 0 hts gX4_service_X4_save rfl rfl rfl (by decide +kernel) ⟨Nat.le_of_ble_eq_true rfl, Nat.le_of_ble_eq_true rfl⟩) ⟨kB_blind, va_recv hK hP (ci := 4) (q0 := 0) rfl rfl, k_pre (a := []) (z := []) (k_w0 _) hK hP hD⟩ rfl rfl hl.1 rfl (lv_room (Nat.le_of_ble_eq_true rfl)) dX4_service_38 ⟨Nat.zero_le _, Nat.zero_le _⟩) (k_w0 _) (k_w0 _) rfl hP hD hS hA (fun H locs hP hD hS => ?_)
      refine lv_aload_n hx hb dX4_service_41 rfl (lv_at hl 0 rfl) ?_
      refine va_get (D := D) (ci := 4) (v := .ref (q2 0)) (C := RX4) (T := TX4) (N := 8) hx hb hts inX4 hown hK hP 0 rfl rfl 0 (by decide) (hts (.fieldLink RX4 10 "PumpOaths" "now" "LPumpOaths$Station;") (List.mem_of_getElem? (i := 5) rfl)) (fun _ h9 => h9) rfl dX4_service_42 ?_
      refine va_get (D := D) (ci := 3) (v := .ref (q2 4)) (C := RX3) (T := TX3) (N := 15) hx hb hts inX3 hown hK hP 16 rfl rfl 13 (by decide) (hts (.fieldLink RX4 111 "PumpOaths$Station" "pumps" "LPumpOaths$Pumps;") (List.mem_of_getElem? (i := 6) rfl)) (fun _ h9 => h9) rfl dX4_service_45 ?_
      refine va_get (D := D) (ci := 2) (v := .ref (q2 7)) (C := RX2) (T := TX2) (N := 9) hx hb hts inX2 hown hK hP 20 rfl rfl 3 (by decide) (hts (.fieldLink RX4 141 "PumpOaths$Pumps" "mode" "[I") (List.mem_of_getElem? (i := 7) rfl)) (fun _ h9 => h9) rfl dX4_service_48 ?_
      refine lv_iload_n hx hb dX4_service_51 rfl (lv_at hl 1 rfl) ?_
      refine va_iald (f := S2.2.2.1 4) hx hb hK hP 23 0 rfl rfl (hin) dX4_service_52 ?_
      refine lv_iconst (v := 1) hx hb dX4_service_53 (by decide) ?_
      refine lv_icmp_ne (tgt := 61) hx hb dX4_service_54 (by decide) (fun c_54_2 => ?_) (fun c_54_2 => ?_)
      · have c_54_2 : ¬ ((S2.2.2.1 4) x.toNatClampNeg) = 1 := c_54_2
        refine lv_iconst (v := 0) hx hb dX4_service_61 (by decide) ?_
        refine lv_istore_n (lv' := [(3, .int 0), (0, .ref o), (1, .int x), (2, .int 1)]) hx hb dX4_service_62 rfl hl (by decide) rfl (fun ls hl => ?_)
        refine lv_aload_n hx hb dX4_service_63 rfl (lv_at hl 1 rfl) ?_
        refine va_get (D := D) (ci := 4) (v := .ref (q2 0)) (C := RX4) (T := TX4) (N := 8) hx hb hts inX4 hown hK hP 0 rfl rfl 0 (by decide) (hts (.fieldLink RX4 10 "PumpOaths" "now" "LPumpOaths$Station;") (List.mem_of_getElem? (i := 5) rfl)) (fun _ h9 => h9) rfl dX4_service_64 ?_
        refine va_get (D := D) (ci := 3) (v := .ref (q2 4)) (C := RX3) (T := TX3) (N := 15) hx hb hts inX3 hown hK hP 16 rfl rfl 13 (by decide) (hts (.fieldLink RX4 111 "PumpOaths$Station" "pumps" "LPumpOaths$Pumps;") (List.mem_of_getElem? (i := 6) rfl)) (fun _ h9 => h9) rfl dX4_service_67 ?_
        refine va_get (D := D) (ci := 2) (v := .ref (q2 7)) (C := RX2) (T := TX2) (N := 9) hx hb hts inX2 hown hK hP 20 rfl rfl 3 (by decide) (hts (.fieldLink RX4 141 "PumpOaths$Pumps" "mode" "[I") (List.mem_of_getElem? (i := 7) rfl)) (fun _ h9 => h9) rfl dX4_service_70 ?_
        refine lv_iload_n hx hb dX4_service_73 rfl (lv_at hl 2 rfl) ?_
        refine lv_iload_n hx hb dX4_service_74 rfl (lv_at hl 3 rfl) ?_
        refine lv_if_eq (tgt := 82) hx hb dX4_service_75 (by decide) (fun h => absurd h (by decide)) (fun _ => ?_)
        refine lv_iconst (v := 0) hx hb dX4_service_78 (by decide) ?_
        refine lv_goto (tgt := 83) hx hb dX4_service_79 (by decide) ?_
        refine va_iast (f := S2.2.2.1 4) hx hb hK hP hD hS 23 0 rfl rfl (hin) dX4_service_83 (fun H locs hP hD hS => ?_)
        have hP : va_P D vwCl (poC o q1 q2 q3 q4 q5 q6 qt (c_sv sv) ++ (stW q1 cI cJ S1 ++ (stW q2 cI cJ (setA S2 4 (upd (S2.2.2.1 4) x.toNatClampNeg 0)) ++ (stW q3 cI cJ S2 ++ (stW q4 cI cJ S3 ++ (stW q5 cI cJ S4 ++ (stW q6 cI cJ S5 ++ (txW qt cI T)))))))) H := hP
        have hD : va_D A9 (poC o q1 q2 q3 q4 q5 q6 qt (c_sv sv) ++ (stW q1 cI cJ S1 ++ (stW q2 cI cJ (setA S2 4 (upd (S2.2.2.1 4) x.toNatClampNeg 0)) ++ (stW q3 cI cJ S2 ++ (stW q4 cI cJ S3 ++ (stW q5 cI cJ S4 ++ (stW q6 cI cJ S5 ++ (txW qt cI T)))))))) := hD
        refine lv_iload_n hx hb dX4_service_84 rfl (lv_at hl 0 rfl) ?_
        exact k_iret hx hb hr hlk hP hS dX4_service_85 rfl (by simp [p_was, c_54_2]) (fun h => h)
      · have c_54_2 : ((S2.2.2.1 4) x.toNatClampNeg) = 1 := c_54_2
        refine lv_iconst (v := 1) hx hb dX4_service_57 (by decide) ?_
        refine lv_goto (tgt := 62) hx hb dX4_service_58 (by decide) ?_
        refine lv_istore_n (lv' := [(3, .int 1), (0, .ref o), (1, .int x), (2, .int 1)]) hx hb dX4_service_62 rfl hl (by decide) rfl (fun ls hl => ?_)
        refine lv_aload_n hx hb dX4_service_63 rfl (lv_at hl 1 rfl) ?_
        refine va_get (D := D) (ci := 4) (v := .ref (q2 0)) (C := RX4) (T := TX4) (N := 8) hx hb hts inX4 hown hK hP 0 rfl rfl 0 (by decide) (hts (.fieldLink RX4 10 "PumpOaths" "now" "LPumpOaths$Station;") (List.mem_of_getElem? (i := 5) rfl)) (fun _ h9 => h9) rfl dX4_service_64 ?_
        refine va_get (D := D) (ci := 3) (v := .ref (q2 4)) (C := RX3) (T := TX3) (N := 15) hx hb hts inX3 hown hK hP 16 rfl rfl 13 (by decide) (hts (.fieldLink RX4 111 "PumpOaths$Station" "pumps" "LPumpOaths$Pumps;") (List.mem_of_getElem? (i := 6) rfl)) (fun _ h9 => h9) rfl dX4_service_67 ?_
        refine va_get (D := D) (ci := 2) (v := .ref (q2 7)) (C := RX2) (T := TX2) (N := 9) hx hb hts inX2 hown hK hP 20 rfl rfl 3 (by decide) (hts (.fieldLink RX4 141 "PumpOaths$Pumps" "mode" "[I") (List.mem_of_getElem? (i := 7) rfl)) (fun _ h9 => h9) rfl dX4_service_70 ?_
        refine lv_iload_n hx hb dX4_service_73 rfl (lv_at hl 2 rfl) ?_
        refine lv_iload_n hx hb dX4_service_74 rfl (lv_at hl 3 rfl) ?_
        refine lv_if_eq (tgt := 82) hx hb dX4_service_75 (by decide) (fun h => absurd h (by decide)) (fun _ => ?_)
        refine lv_iconst (v := 0) hx hb dX4_service_78 (by decide) ?_
        refine lv_goto (tgt := 83) hx hb dX4_service_79 (by decide) ?_
        refine va_iast (f := S2.2.2.1 4) hx hb hK hP hD hS 23 0 rfl rfl (hin) dX4_service_83 (fun H locs hP hD hS => ?_)
        have hP : va_P D vwCl (poC o q1 q2 q3 q4 q5 q6 qt (c_sv sv) ++ (stW q1 cI cJ S1 ++ (stW q2 cI cJ (setA S2 4 (upd (S2.2.2.1 4) x.toNatClampNeg 0)) ++ (stW q3 cI cJ S2 ++ (stW q4 cI cJ S3 ++ (stW q5 cI cJ S4 ++ (stW q6 cI cJ S5 ++ (txW qt cI T)))))))) H := hP
        have hD : va_D A9 (poC o q1 q2 q3 q4 q5 q6 qt (c_sv sv) ++ (stW q1 cI cJ S1 ++ (stW q2 cI cJ (setA S2 4 (upd (S2.2.2.1 4) x.toNatClampNeg 0)) ++ (stW q3 cI cJ S2 ++ (stW q4 cI cJ S3 ++ (stW q5 cI cJ S4 ++ (stW q6 cI cJ S5 ++ (txW qt cI T)))))))) := hD
        refine lv_iload_n hx hb dX4_service_84 rfl (lv_at hl 0 rfl) ?_
        exact k_iret hx hb hr hlk hP hS dX4_service_85 rfl (by simp [p_was, c_54_2]) (fun h => h)
    · have c_24_1 : (bi (c_svc S2 x)) = 1 := c_24_1
      exact absurd c_24_1 hs
  · have c_5_0 : (p_has S2 x) = false := bi_0.mp c_5_0
    exact absurd (hp.symm.trans c_5_0) (by decide)

set_option maxHeartbeats 1000000 in
set_option maxRecDepth 100000 in
theorem n_X4_service0 (l : Launch) (D : va_G) (o : Nat) (q1 q2 q3 q4 q5 q6 qt : Nat → Nat) (cI cJ : ClassId) (S1 S2 S3 S4 S5 S6 : SS) (T : TS) (sv : Int32) (x : Int32) (n : Nat) (hn : S2.1 8 = nI n) (hn6 : n ≤ 6) (hp : p_has S2 x = true) (hs : ¬ bi (c_svc S2 x) = 0) : kI l yX4_service wsX4_service ({ frames := 4, cells := 0, slots := 0, locals := 102 } : Room) D [(cI, .int), (cJ, .long)] [.ref o, .int x, .int 0] (poC o q1 q2 q3 q4 q5 q6 qt sv ++ (stW q1 cI cJ S1 ++ (stW q2 cI cJ S2 ++ (stW q3 cI cJ S3 ++ (stW q4 cI cJ S4 ++ (stW q5 cI cJ S5 ++ (stW q6 cI cJ S6 ++ (txW qt cI T)))))))) (p_was S2 x) (poC o q1 q2 q3 q4 q5 q6 qt (c_sv sv) ++ (stW q1 cI cJ S1 ++ (stW q2 cI cJ (setA S2 4 (upd (S2.2.2.1 4) x.toNatClampNeg 2)) ++ (stW q3 cI cJ S2 ++ (stW q4 cI cJ S3 ++ (stW q5 cI cJ S4 ++ (stW q6 cI cJ S5 ++ (txW qt cI T)))))))) := by
  refine kBody.met (cc := cX4_service) (maxL := 4) (ret := (some .boolean)) (by decide) rfl (Nat.le_of_ble_eq_true rfl) ?_
  intro p9 e9 s9 m9 below meth c9 A9 ls hx hb hr hml hts hown hlk hK hP hD hA hl
  have hown : s9.vm.findClass RX4 = some m9.cls := hown
  have inX0 : ∀ w ∈ wsX00, w ∈ wsX4_service := fun w h => List.mem_cons_of_mem _ (List.mem_append_left _ (List.mem_append_left _ (List.mem_append_right _ (h))))
  have inX2 : ∀ w ∈ wsX20, w ∈ wsX4_service := fun w h => List.mem_cons_of_mem _ (List.mem_append_left _ (List.mem_append_left _ (List.mem_append_left _ (List.mem_append_right _ (h)))))
  have inX3 : ∀ w ∈ wsX30, w ∈ wsX4_service := fun w h => List.mem_cons_of_mem _ (List.mem_append_left _ (List.mem_append_left _ (List.mem_append_left _ (List.mem_append_left _ (List.mem_append_right _ (h))))))
  have inX4 : ∀ w ∈ wsX40, w ∈ wsX4_service := fun w h => List.mem_cons_of_mem _ (List.mem_append_left _ (List.mem_append_left _ (List.mem_append_left _ (List.mem_append_left _ (List.mem_append_left _ (List.mem_append_right _ (h)))))))
  have hS : va_S A9 s9.heap s9.heap [] := va_S.rf
  have hl : lv_has ls 4 [(0, .ref o), (1, .int x), (2, .int 0)] := hl
  refine lv_aload_n hx hb dX4_service_0 rfl (lv_at hl 0 rfl) ?_
  refine lv_iload_n hx hb dX4_service_1 rfl (lv_at hl 1 rfl) ?_
  refine k_calli (a := []) (z := []) (wc := (poC o q1 q2 q3 q4 q5 q6 qt sv ++ (stW q1 cI cJ S1 ++ (stW q2 cI cJ S2 ++ (stW q3 cI cJ S3 ++ (stW q4 cI cJ S4 ++ (stW q5 cI cJ S5 ++ (stW q6 cI cJ S6 ++ (txW qt cI T))))))))) (wc' := (poC o q1 q2 q3 q4 q5 q6 qt sv ++ (stW q1 cI cJ S1 ++ (stW q2 cI cJ S2 ++ (stW q3 cI cJ S3 ++ (stW q4 cI cJ S4 ++ (stW q5 cI cJ S5 ++ (stW q6 cI cJ S6 ++ (txW qt cI T))))))))) (w' := (poC o q1 q2 q3 q4 q5 q6 qt sv ++ (stW q1 cI cJ S1 ++ (stW q2 cI cJ S2 ++ (stW q3 cI cJ S3 ++ (stW q4 cI cJ S4 ++ (stW q5 cI cJ S5 ++ (stW q6 cI cJ S6 ++ (txW qt cI T))))))))) (va_runV (As := [.int x]) (rest := []) ⟨hx, hb, hml, hown, hts⟩ (c_X4_isPump l D o q1 q2 q3 q4 q5 q6 qt cI cJ S1 S2 S3 S4 S5 S6 T sv x _) (cwV 1 hts gX4_service_X4_isPump rfl rfl rfl (by decide +kernel) ⟨Nat.le_of_ble_eq_true rfl, Nat.le_of_ble_eq_true rfl⟩) ⟨kB_blind, va_recv hK hP (ci := 4) (q0 := 0) rfl rfl, k_pre (a := []) (z := []) (k_w0 _) hK hP hD⟩ rfl rfl hl.1 rfl (lv_room (Nat.le_of_ble_eq_true rfl)) dX4_service_2 ⟨Nat.zero_le _, Nat.zero_le _⟩) (k_w0 _) (k_w0 _) rfl hP hD hS hA (fun H locs hP hD hS => ?_)
  refine lv_if_ne (tgt := 18) hx hb dX4_service_5 (by decide) (fun c_5_0 => ?_) (fun c_5_0 => ?_)
  · have c_5_0 : (p_has S2 x) = true := bi_n.mp c_5_0
    refine lv_aload_n hx hb dX4_service_18 rfl (lv_at hl 0 rfl) ?_
    refine lv_iload_n hx hb dX4_service_19 rfl (lv_at hl 1 rfl) ?_
    refine k_calli (a := []) (z := []) (wc := (poC o q1 q2 q3 q4 q5 q6 qt sv ++ (stW q1 cI cJ S1 ++ (stW q2 cI cJ S2 ++ (stW q3 cI cJ S3 ++ (stW q4 cI cJ S4 ++ (stW q5 cI cJ S5 ++ (stW q6 cI cJ S6 ++ (txW qt cI T))))))))) (wc' := (poC o q1 q2 q3 q4 q5 q6 qt sv ++ (stW q1 cI cJ S1 ++ (stW q2 cI cJ S2 ++ (stW q3 cI cJ S3 ++ (stW q4 cI cJ S4 ++ (stW q5 cI cJ S5 ++ (stW q6 cI cJ S6 ++ (txW qt cI T))))))))) (w' := (poC o q1 q2 q3 q4 q5 q6 qt sv ++ (stW q1 cI cJ S1 ++ (stW q2 cI cJ S2 ++ (stW q3 cI cJ S3 ++ (stW q4 cI cJ S4 ++ (stW q5 cI cJ S5 ++ (stW q6 cI cJ S6 ++ (txW qt cI T))))))))) (va_runV (As := [.int x]) (rest := []) ⟨hx, hb, hml, hown, hts⟩ (c_X4_isInService l D o q1 q2 q3 q4 q5 q6 qt cI cJ S1 S2 S3 S4 S5 S6 T sv x n hn hn6 _) (cwV 1 hts gX4_service_X4_isInService rfl rfl rfl (by decide +kernel) ⟨Nat.le_of_ble_eq_true rfl, Nat.le_of_ble_eq_true rfl⟩) ⟨kB_blind, va_recv hK hP (ci := 4) (q0 := 0) rfl rfl, k_pre (a := []) (z := []) (k_w0 _) hK hP hD⟩ rfl rfl hl.1 rfl (lv_room (Nat.le_of_ble_eq_true rfl)) dX4_service_20 ⟨Nat.zero_le _, Nat.zero_le _⟩) (k_w0 _) (k_w0 _) rfl hP hD hS hA (fun H locs hP hD hS => ?_)
    refine lv_iload_n hx hb dX4_service_23 rfl (lv_at hl 2 rfl) ?_
    refine lv_icmp_ne (tgt := 37) hx hb dX4_service_24 (by decide) (fun c_24_1 => ?_) (fun c_24_1 => ?_)
    · have c_24_1 : ¬ (bi (c_svc S2 x)) = 0 := c_24_1
      have hin := p_hasIn hp hn hn6
      refine lv_aload_n hx hb dX4_service_37 rfl (lv_at hl 0 rfl) ?_
      refine k_callv (a := []) (z := []) (wc := (poC o q1 q2 q3 q4 q5 q6 qt sv ++ (stW q1 cI cJ S1 ++ (stW q2 cI cJ S2 ++ (stW q3 cI cJ S3 ++ (stW q4 cI cJ S4 ++ (stW q5 cI cJ S5 ++ (stW q6 cI cJ S6 ++ (txW qt cI T))))))))) (wc' := (poC o q1 q2 q3 q4 q5 q6 qt (c_sv sv) ++ (stW q1 cI cJ S1 ++ (stW q2 cI cJ S2 ++ (stW q3 cI cJ S2 ++ (stW q4 cI cJ S3 ++ (stW q5 cI cJ S4 ++ (stW q6 cI cJ S5 ++ (txW qt cI T))))))))) (w' := (poC o q1 q2 q3 q4 q5 q6 qt (c_sv sv) ++ (stW q1 cI cJ S1 ++ (stW q2 cI cJ S2 ++ (stW q3 cI cJ S2 ++ (stW q4 cI cJ S3 ++ (stW q5 cI cJ S4 ++ (stW q6 cI cJ S5 ++ (txW qt cI T))))))))) (va_runV (As := []) (rest := []) ⟨hx, hb, hml, hown, hts⟩ (c_X4_save l D o q1 q2 q3 q4 q5 q6 qt cI cJ S1 S2 S3 S4 S5 S6 T sv  _) (cwV 0 hts gX4_service_X4_save rfl rfl rfl (by decide +kernel) ⟨Nat.le_of_ble_eq_true rfl, Nat.le_of_ble_eq_true rfl⟩) ⟨kB_blind, va_recv hK hP (ci := 4) (q0 := 0) rfl rfl, k_pre (a := []) (z := []) (k_w0 _) hK hP hD⟩ rfl rfl hl.1 rfl (lv_room (Nat.le_of_ble_eq_true rfl)) dX4_service_38 ⟨Nat.zero_le _, Nat.zero_le _⟩) (k_w0 _) (k_w0 _) rfl hP hD hS hA (fun H locs hP hD hS => ?_)
      refine lv_aload_n hx hb dX4_service_41 rfl (lv_at hl 0 rfl) ?_
      refine va_get (D := D) (ci := 4) (v := .ref (q2 0)) (C := RX4) (T := TX4) (N := 8) hx hb hts inX4 hown hK hP 0 rfl rfl 0 (by decide) (hts (.fieldLink RX4 10 "PumpOaths" "now" "LPumpOaths$Station;") (List.mem_of_getElem? (i := 5) rfl)) (fun _ h9 => h9) rfl dX4_service_42 ?_
      refine va_get (D := D) (ci := 3) (v := .ref (q2 4)) (C := RX3) (T := TX3) (N := 15) hx hb hts inX3 hown hK hP 16 rfl rfl 13 (by decide) (hts (.fieldLink RX4 111 "PumpOaths$Station" "pumps" "LPumpOaths$Pumps;") (List.mem_of_getElem? (i := 6) rfl)) (fun _ h9 => h9) rfl dX4_service_45 ?_
      refine va_get (D := D) (ci := 2) (v := .ref (q2 7)) (C := RX2) (T := TX2) (N := 9) hx hb hts inX2 hown hK hP 20 rfl rfl 3 (by decide) (hts (.fieldLink RX4 141 "PumpOaths$Pumps" "mode" "[I") (List.mem_of_getElem? (i := 7) rfl)) (fun _ h9 => h9) rfl dX4_service_48 ?_
      refine lv_iload_n hx hb dX4_service_51 rfl (lv_at hl 1 rfl) ?_
      refine va_iald (f := S2.2.2.1 4) hx hb hK hP 23 0 rfl rfl (hin) dX4_service_52 ?_
      refine lv_iconst (v := 1) hx hb dX4_service_53 (by decide) ?_
      refine lv_icmp_ne (tgt := 61) hx hb dX4_service_54 (by decide) (fun c_54_2 => ?_) (fun c_54_2 => ?_)
      · have c_54_2 : ¬ ((S2.2.2.1 4) x.toNatClampNeg) = 1 := c_54_2
        refine lv_iconst (v := 0) hx hb dX4_service_61 (by decide) ?_
        refine lv_istore_n (lv' := [(3, .int 0), (0, .ref o), (1, .int x), (2, .int 0)]) hx hb dX4_service_62 rfl hl (by decide) rfl (fun ls hl => ?_)
        refine lv_aload_n hx hb dX4_service_63 rfl (lv_at hl 1 rfl) ?_
        refine va_get (D := D) (ci := 4) (v := .ref (q2 0)) (C := RX4) (T := TX4) (N := 8) hx hb hts inX4 hown hK hP 0 rfl rfl 0 (by decide) (hts (.fieldLink RX4 10 "PumpOaths" "now" "LPumpOaths$Station;") (List.mem_of_getElem? (i := 5) rfl)) (fun _ h9 => h9) rfl dX4_service_64 ?_
        refine va_get (D := D) (ci := 3) (v := .ref (q2 4)) (C := RX3) (T := TX3) (N := 15) hx hb hts inX3 hown hK hP 16 rfl rfl 13 (by decide) (hts (.fieldLink RX4 111 "PumpOaths$Station" "pumps" "LPumpOaths$Pumps;") (List.mem_of_getElem? (i := 6) rfl)) (fun _ h9 => h9) rfl dX4_service_67 ?_
        refine va_get (D := D) (ci := 2) (v := .ref (q2 7)) (C := RX2) (T := TX2) (N := 9) hx hb hts inX2 hown hK hP 20 rfl rfl 3 (by decide) (hts (.fieldLink RX4 141 "PumpOaths$Pumps" "mode" "[I") (List.mem_of_getElem? (i := 7) rfl)) (fun _ h9 => h9) rfl dX4_service_70 ?_
        refine lv_iload_n hx hb dX4_service_73 rfl (lv_at hl 2 rfl) ?_
        refine lv_iload_n hx hb dX4_service_74 rfl (lv_at hl 3 rfl) ?_
        refine lv_if_eq (tgt := 82) hx hb dX4_service_75 (by decide) (fun _ => ?_) (fun h => absurd h (by decide))
        refine lv_iconst (v := 2) hx hb dX4_service_82 (by decide) ?_
        refine va_iast (f := S2.2.2.1 4) hx hb hK hP hD hS 23 0 rfl rfl (hin) dX4_service_83 (fun H locs hP hD hS => ?_)
        have hP : va_P D vwCl (poC o q1 q2 q3 q4 q5 q6 qt (c_sv sv) ++ (stW q1 cI cJ S1 ++ (stW q2 cI cJ (setA S2 4 (upd (S2.2.2.1 4) x.toNatClampNeg 2)) ++ (stW q3 cI cJ S2 ++ (stW q4 cI cJ S3 ++ (stW q5 cI cJ S4 ++ (stW q6 cI cJ S5 ++ (txW qt cI T)))))))) H := hP
        have hD : va_D A9 (poC o q1 q2 q3 q4 q5 q6 qt (c_sv sv) ++ (stW q1 cI cJ S1 ++ (stW q2 cI cJ (setA S2 4 (upd (S2.2.2.1 4) x.toNatClampNeg 2)) ++ (stW q3 cI cJ S2 ++ (stW q4 cI cJ S3 ++ (stW q5 cI cJ S4 ++ (stW q6 cI cJ S5 ++ (txW qt cI T)))))))) := hD
        refine lv_iload_n hx hb dX4_service_84 rfl (lv_at hl 0 rfl) ?_
        exact k_iret hx hb hr hlk hP hS dX4_service_85 rfl (by simp [p_was, c_54_2]) (fun h => h)
      · have c_54_2 : ((S2.2.2.1 4) x.toNatClampNeg) = 1 := c_54_2
        refine lv_iconst (v := 1) hx hb dX4_service_57 (by decide) ?_
        refine lv_goto (tgt := 62) hx hb dX4_service_58 (by decide) ?_
        refine lv_istore_n (lv' := [(3, .int 1), (0, .ref o), (1, .int x), (2, .int 0)]) hx hb dX4_service_62 rfl hl (by decide) rfl (fun ls hl => ?_)
        refine lv_aload_n hx hb dX4_service_63 rfl (lv_at hl 1 rfl) ?_
        refine va_get (D := D) (ci := 4) (v := .ref (q2 0)) (C := RX4) (T := TX4) (N := 8) hx hb hts inX4 hown hK hP 0 rfl rfl 0 (by decide) (hts (.fieldLink RX4 10 "PumpOaths" "now" "LPumpOaths$Station;") (List.mem_of_getElem? (i := 5) rfl)) (fun _ h9 => h9) rfl dX4_service_64 ?_
        refine va_get (D := D) (ci := 3) (v := .ref (q2 4)) (C := RX3) (T := TX3) (N := 15) hx hb hts inX3 hown hK hP 16 rfl rfl 13 (by decide) (hts (.fieldLink RX4 111 "PumpOaths$Station" "pumps" "LPumpOaths$Pumps;") (List.mem_of_getElem? (i := 6) rfl)) (fun _ h9 => h9) rfl dX4_service_67 ?_
        refine va_get (D := D) (ci := 2) (v := .ref (q2 7)) (C := RX2) (T := TX2) (N := 9) hx hb hts inX2 hown hK hP 20 rfl rfl 3 (by decide) (hts (.fieldLink RX4 141 "PumpOaths$Pumps" "mode" "[I") (List.mem_of_getElem? (i := 7) rfl)) (fun _ h9 => h9) rfl dX4_service_70 ?_
        refine lv_iload_n hx hb dX4_service_73 rfl (lv_at hl 2 rfl) ?_
        refine lv_iload_n hx hb dX4_service_74 rfl (lv_at hl 3 rfl) ?_
        refine lv_if_eq (tgt := 82) hx hb dX4_service_75 (by decide) (fun _ => ?_) (fun h => absurd h (by decide))
        refine lv_iconst (v := 2) hx hb dX4_service_82 (by decide) ?_
        refine va_iast (f := S2.2.2.1 4) hx hb hK hP hD hS 23 0 rfl rfl (hin) dX4_service_83 (fun H locs hP hD hS => ?_)
        have hP : va_P D vwCl (poC o q1 q2 q3 q4 q5 q6 qt (c_sv sv) ++ (stW q1 cI cJ S1 ++ (stW q2 cI cJ (setA S2 4 (upd (S2.2.2.1 4) x.toNatClampNeg 2)) ++ (stW q3 cI cJ S2 ++ (stW q4 cI cJ S3 ++ (stW q5 cI cJ S4 ++ (stW q6 cI cJ S5 ++ (txW qt cI T)))))))) H := hP
        have hD : va_D A9 (poC o q1 q2 q3 q4 q5 q6 qt (c_sv sv) ++ (stW q1 cI cJ S1 ++ (stW q2 cI cJ (setA S2 4 (upd (S2.2.2.1 4) x.toNatClampNeg 2)) ++ (stW q3 cI cJ S2 ++ (stW q4 cI cJ S3 ++ (stW q5 cI cJ S4 ++ (stW q6 cI cJ S5 ++ (txW qt cI T)))))))) := hD
        refine lv_iload_n hx hb dX4_service_84 rfl (lv_at hl 0 rfl) ?_
        exact k_iret hx hb hr hlk hP hS dX4_service_85 rfl (by simp [p_was, c_54_2]) (fun h => h)
    · have c_24_1 : (bi (c_svc S2 x)) = 0 := c_24_1
      exact absurd c_24_1 hs
  · have c_5_0 : (p_has S2 x) = false := bi_0.mp c_5_0
    exact absurd (hp.symm.trans c_5_0) (by decide)
