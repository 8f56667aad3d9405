set_option maxHeartbeats 1000000 in
set_option maxRecDepth 100000 in
theorem c_X4_digest (l : Launch) (D : va_G) (o : Nat) (q1 q2 q3 q4 q5 q6 qt : Nat → Nat) (cI cJ : ClassId) (S1 S2 S3 S4 S5 S6 : SS) (T : TS) (sv : Int32) (n : Nat) (hn : S2.1 8 = nI n) (hn6 : n ≤ 6) (mm : Nat) (hm : S2.1 9 = nI mm) (hm12 : mm ≤ 12) : kL l yX4_digest wsX4_digest ({ frames := 4, cells := 0, slots := 0, locals := 94 } : Room) D [(cI, .int), (cJ, .long)] [.ref o] (poC o q1 q2 q3 q4 q5 q6 qt sv ++ (stW q1 cI cJ S1 ++ (stW q2 cI cJ S2 ++ (stW q3 cI cJ S3 ++ (stW q4 cI cJ S4 ++ (stW q5 cI cJ S5 ++ (stW q6 cI cJ S6 ++ (txW qt cI T)))))))) (31 * s_dig S2 n mm (113863 + (T.1 0).toInt64) + sv.toInt64) (poC o q1 q2 q3 q4 q5 q6 qt sv ++ (stW q1 cI cJ S1 ++ (stW q2 cI cJ S2 ++ (stW q3 cI cJ S3 ++ (stW q4 cI cJ S4 ++ (stW q5 cI cJ S5 ++ (stW q6 cI cJ S6 ++ (txW qt cI T)))))))) := by
  refine kBody.met (cc := cX4_digest) (maxL := 3) (ret := (some .long)) (by decide) rfl (Nat.le_of_ble_eq_true rfl) ?_
  intro p9 e9 s9 m9 below meth c9 A9 ls hx hb hr hml hts hown hlk hK hP hD hA hl
  have hown : s9.vm.findClass RX4 = some m9.cls := hown
  have inX0 : ∀ w ∈ wsX00, w ∈ wsX4_digest := fun w h => List.mem_cons_of_mem _ (List.mem_append_right _ (h))
  have inX1 : ∀ w ∈ wsX10, w ∈ wsX4_digest := fun w h => List.mem_cons_of_mem _ (List.mem_append_left _ (List.mem_append_left _ (List.mem_append_left _ (List.mem_append_right _ (h)))))
  have inX2 : ∀ w ∈ wsX20, w ∈ wsX4_digest := fun w h => List.mem_cons_of_mem _ (List.mem_append_left _ (List.mem_append_right _ (h)))
  have inX3 : ∀ w ∈ wsX30, w ∈ wsX4_digest := fun w h => List.mem_cons_of_mem _ (List.mem_append_left _ (List.mem_append_left _ (List.mem_append_right _ (h))))
  have inX4 : ∀ w ∈ wsX40, w ∈ wsX4_digest := fun w h => List.mem_cons_of_mem _ (List.mem_append_left _ (List.mem_append_left _ (List.mem_append_left _ (List.mem_append_left _ (List.mem_append_right _ (h))))))
  have hS : va_S A9 s9.heap s9.heap [] := va_S.rf
  have hl : lv_has ls 3 [(0, .ref o)] := hl
  refine lv_ldc2 (v := 113863) hx hb hown (hts (.constantLong RX4 239 (113863)) (List.mem_of_getElem? (i := 1) rfl)) dX4_digest_0 ?_
  refine lv_aload_n hx hb dX4_digest_3 rfl (lv_at hl 0 rfl) ?_
  refine va_get (D := D) (ci := 4) (v := .ref (qt 0)) (C := RX4) (T := TX4) (N := 8) hx hb hts inX4 hown hK hP 0 rfl rfl 6 (by decide) (hts (.fieldLink RX4 34 "PumpOaths" "text" "LPumpOaths$OrderText;") (List.mem_of_getElem? (i := 2) rfl)) (fun _ h9 => h9) rfl dX4_digest_4 ?_
  refine va_get (D := D) (ci := 1) (v := .int (T.1 0)) (C := RX1) (T := TX1) (N := 6) hx hb hts inX1 hown hK hP 91 rfl rfl 2 (by decide) (hts (.fieldLink RX4 220 "PumpOaths$OrderText" "length" "I") (List.mem_of_getElem? (i := 3) rfl)) (fun _ h9 => h9) rfl dX4_digest_7 ?_
  refine lv_i2l hx hb dX4_digest_10 rfl ?_
  refine lv_ladd hx hb dX4_digest_11 ?_
  refine lv_lstore_n (lv' := [(1, .long (113863 + ((T.1 0).toInt64))), (0, .ref o)]) hx hb dX4_digest_12 rfl hl (by decide) rfl (fun ls hl => ?_)
  refine lv_aload_n hx hb dX4_digest_13 rfl (lv_at hl 1 rfl) ?_
  refine va_get (D := D) (ci := 4) (v := .ref (q2 0)) (C := RX4) (T := TX4) (N := 8) hx hb hts inX4 hown hK hP 0 rfl rfl 0 (by decide) (hts (.fieldLink RX4 10 "PumpOaths" "now" "LPumpOaths$Station;") (List.mem_of_getElem? (i := 4) rfl)) (fun _ h9 => h9) rfl dX4_digest_14 ?_
  refine lv_lload_n hx hb dX4_digest_17 rfl (lv_at hl 0 rfl) ?_
  refine k_calll (a := (poC o q1 q2 q3 q4 q5 q6 qt sv ++ (stW q1 cI cJ S1))) (z := (stW q3 cI cJ S3 ++ (stW q4 cI cJ S4 ++ (stW q5 cI cJ S5 ++ (stW q6 cI cJ S6 ++ (txW qt cI T)))))) (wc := stW q2 cI cJ S2) (wc' := stW q2 cI cJ S2) (w' := (poC o q1 q2 q3 q4 q5 q6 qt sv ++ (stW q1 cI cJ S1 ++ (stW q2 cI cJ S2 ++ (stW q3 cI cJ S3 ++ (stW q4 cI cJ S4 ++ (stW q5 cI cJ S5 ++ (stW q6 cI cJ S6 ++ (txW qt cI T))))))))) (va_runV (As := [.long (113863 + ((T.1 0).toInt64))]) (rest := []) ⟨hx, hb, hml, hown, hts⟩ (c_X3_digestOnto l D q2 cI cJ S2 (113863 + ((T.1 0).toInt64)) n hn hn6 mm hm hm12 _) (cwV 1 hts gX4_digest_X3_digestOnto rfl rfl rfl (by decide +kernel) ⟨Nat.le_of_ble_eq_true rfl, Nat.le_of_ble_eq_true rfl⟩) ⟨kB_blind, va_recv hK hP (ci := 3) (q0 := 16) rfl rfl, k_pre (a := (poC o q1 q2 q3 q4 q5 q6 qt sv ++ (stW q1 cI cJ S1))) (z := (stW q3 cI cJ S3 ++ (stW q4 cI cJ S4 ++ (stW q5 cI cJ S5 ++ (stW q6 cI cJ S6 ++ (txW qt cI T)))))) rfl hK hP hD⟩ rfl rfl hl.1 rfl (lv_room (Nat.le_of_ble_eq_true rfl)) dX4_digest_18 ⟨Nat.zero_le _, Nat.zero_le _⟩) rfl rfl (stW_ad _ _ _ _ _) hP hD hS hA (fun H locs hP hD hS => ?_)
  refine lv_lstore_n (lv' := [(1, .long (s_dig S2 n mm (113863 + ((T.1 0).toInt64)))), (0, .ref o)]) hx hb dX4_digest_21 rfl hl (by decide) rfl (fun ls hl => ?_)
  refine lv_ldc2 (v := 31) hx hb hown (hts (.constantLong RX4 245 (31)) (List.mem_of_getElem? (i := 5) rfl)) dX4_digest_22 ?_
  refine lv_lload_n hx hb dX4_digest_25 rfl (lv_at hl 0 rfl) ?_
  refine lv_lmul hx hb dX4_digest_26 ?_
  refine lv_aload_n hx hb dX4_digest_27 rfl (lv_at hl 1 rfl) ?_
  refine va_get (D := D) (ci := 4) (v := .int sv) (C := RX4) (T := TX4) (N := 8) hx hb hts inX4 hown hK hP 0 rfl rfl 7 (by decide) (hts (.fieldLink RX4 38 "PumpOaths" "saved" "I") (List.mem_of_getElem? (i := 6) rfl)) (fun _ h9 => h9) rfl dX4_digest_28 ?_
  refine lv_i2l hx hb dX4_digest_31 rfl ?_
  refine lv_ladd hx hb dX4_digest_32 ?_
  exact k_lret hx hb hr hlk hP hS dX4_digest_33 rfl (fun h => h)
