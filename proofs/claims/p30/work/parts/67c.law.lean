set_option maxHeartbeats 1000000 in
set_option maxRecDepth 100000 in
theorem lw_c2 {p9 : Program} {l : Launch} {e9 : Env} {s9 : State} {m9 : MethodId} {below : List Frame} {meth : Method} {c9 : Code} {b L : Nat} {xs : Nat → Int32} {D : va_G} {cI cJ : ClassId} (C0 : lw_C p9 l s9 m9 meth c9 b L xs D cI cJ) {o : Nat} {q1 q2 q3 q4 q5 q6 qt : Nat → Nat} {n u i y z q kc ks : Nat} (hn9 : n = 3) (hu : u ≤ 5000) (hz : z < 2 ^ 27) (hq : q < 3) (hkc : kc + 1 ≤ 292) (hks : ks + 6 ≤ 2600) (K : ∀ (S1 S2 S3 S4 S5 S6 : SS) (T : TS) (sv : Int32) (bb : Int64), LI S2 sv bb n (u + 150) → ∀ (H : Heap) (locs : List Loc) (ls : Array Slot), va_P D vwCl (poW o q1 q2 q3 q4 q5 q6 qt cI cJ S1 S2 S3 S4 S5 S6 T sv) H → va_D (A0 s9) (poW o q1 q2 q3 q4 q5 q6 qt cI cJ S1 S2 S3 S4 S5 S6 T sv) → va_S (A0 s9) s9.heap H locs → lv_has ls 14 [(0, .ref b), (1, .ref o), (2, .long bb), (4, .int 1), (5, .int (nI i))] → W p9 l e9 room_1 s9 m9 #[Value.ref b] below meth c9 H locs (kc + 1) (ks + 6) (lw_Z below #[Value.ref b] s9) (F0 m9 563 ls [])) {S1 S2 S3 S4 S5 S6 : SS} {T : TS} {sv : Int32} {bb : Int64} (hI : LI S2 sv bb n u) {H : Heap} {locs : List Loc} {ls : Array Slot} (hP : va_P D vwCl (poW o q1 q2 q3 q4 q5 q6 qt cI cJ S1 S2 S3 S4 S5 S6 T sv) H) (hD : va_D (A0 s9) (poW o q1 q2 q3 q4 q5 q6 qt cI cJ S1 S2 S3 S4 S5 S6 T sv)) (hS : va_S (A0 s9) s9.heap H locs) (hl : lv_has ls 14 [(0, .ref b), (1, .ref o), (2, .long bb), (4, .int 1), (5, .int (nI i)), (6, .int (nI y)), (7, .int (nI z)), (8, .int (nI q))]) : W p9 l e9 room_1 s9 m9 #[Value.ref b] below meth c9 H locs kc ks (lw_Z below #[Value.ref b] s9) (F0 m9 313 ls []) := by
  have C1 := C0
  obtain ⟨hx, hb, hr, hml, hown, hts, hX, hbl, hlk, hK, hTT, hN, hst, hL⟩ := C1
  have hA : ∀ q : Nat, s9.heap.size ≤ q → A0 s9 q := fun _ h => h
  have hbA : ¬ A0 s9 b := Nat.not_le.mpr hbl
  obtain ⟨Z, Ww, t, B, v, hJ, hbb, hsv, hv4, htu⟩ := id hI
  obtain ⟨h8, hn3, h4⟩ := J_n hJ
  have hn : S2.1 8 = nI n := h8
  have hn6 : n ≤ 6 := by omega
  obtain ⟨h0, hh0⟩ : ∃ h0, h0 = z % 24 := ⟨_, rfl⟩
  obtain ⟨v0, hv0⟩ : ∃ v0, v0 = z / 32 % 1001 := ⟨_, rfl⟩
  obtain ⟨Zd, -, hdm⟩ := o_demand hJ (k := h0) (v := v0) (by omega) (by omega)
  refine lv_aload_n hx hb dL_law_313 rfl (lv_at hl 1 rfl) ?_
  refine lv_iload hx hb dL_law_314 (lv_at hl 6 rfl) ?_
  refine lv_bipush (v := 24) hx hb dL_law_316 (by decide) ?_
  refine lv_irem hx hb dL_law_318 (by decide) ?_
  rw [show (nI z) - (nI z) / 24 * 24 = nI h0 from by rw [hh0]; exact nm (d := 24) (show z < 2 ^ 31 by omega) (by decide) (by decide)]
  refine k_calli (a := []) (z := []) (wc := (poC o q1 q2 q3 q4 q5 q6 qt sv ++ (stW q1 cI cJ S1 ++ (stW q2 cI cJ S2 ++ (stW q3 cI cJ S3 ++ (stW q4 cI cJ S4 ++ (stW q5 cI cJ S5 ++ (stW q6 cI cJ S6 ++ (txW qt cI T))))))))) (wc' := (poC o q1 q2 q3 q4 q5 q6 qt sv ++ (stW q1 cI cJ S1 ++ (stW q2 cI cJ S2 ++ (stW q3 cI cJ S3 ++ (stW q4 cI cJ S4 ++ (stW q5 cI cJ S5 ++ (stW q6 cI cJ S6 ++ (txW qt cI T))))))))) (w' := (poC o q1 q2 q3 q4 q5 q6 qt sv ++ (stW q1 cI cJ S1 ++ (stW q2 cI cJ S2 ++ (stW q3 cI cJ S3 ++ (stW q4 cI cJ S4 ++ (stW q5 cI cJ S5 ++ (stW q6 cI cJ S6 ++ (txW qt cI T))))))))) (vx_runSW (As := [.ref o, .int (nI h0)]) (rest := []) ⟨hx, hb, hml, hown, hts⟩ (m_L_demand l D o q1 q2 q3 q4 q5 q6 qt cI cJ S1 S2 S3 S4 S5 S6 T sv (nI h0) (c_inN (lo := 0) (hi := 23) (by omega) (by omega) (by decide)) _) (vx_cwSW 2 hts gL_law_L_demand rfl rfl rfl (by decide +kernel) ⟨Nat.le_of_ble_eq_true rfl, Nat.le_of_ble_eq_true rfl⟩) ⟨kB_blind, k_pre (a := []) (z := []) (k_w0 _) hK hP hD⟩ rfl rfl hl.1 rfl (lv_room (Nat.le_of_ble_eq_true rfl)) dL_law_319 ⟨Nat.le_of_succ_le hkc, Nat.le_trans (Nat.le_add_right _ 6) hks⟩) (k_w0 _) (k_w0 _) rfl hP hD hS hA (fun H locs hP hD hS => ?_)
  refine lv_istore (lv' := [(10, .int (s_dem S2 (nI h0))), (0, .ref b), (1, .ref o), (2, .long bb), (4, .int 1), (5, .int (nI i)), (6, .int (nI y)), (7, .int (nI z)), (8, .int (nI q))]) hx hb dL_law_322 hl (by decide) rfl (fun ls hl => ?_)
  refine lv_aload_n hx hb dL_law_324 rfl (lv_at hl 2 rfl) ?_
  refine lv_iload hx hb dL_law_325 (lv_at hl 7 rfl) ?_
  refine lv_bipush (v := 24) hx hb dL_law_327 (by decide) ?_
  refine lv_irem hx hb dL_law_329 (by decide) ?_
  rw [show (nI z) - (nI z) / 24 * 24 = nI h0 from by rw [hh0]; exact nm (d := 24) (show z < 2 ^ 31 by omega) (by decide) (by decide)]
  refine lv_iload hx hb dL_law_330 (lv_at hl 7 rfl) ?_
  refine lv_bipush (v := 32) hx hb dL_law_332 (by decide) ?_
  refine lv_idiv hx hb dL_law_334 (by decide) ?_
  refine lv_sipush (v := 1001) hx hb dL_law_335 (by decide) ?_
  refine lv_irem hx hb dL_law_338 (by decide) ?_
  rw [show ((nI z) / 32) - ((nI z) / 32) / 1001 * 1001 = nI v0 from by rw [hv0]; exact ndm (d := 32) (e := 1001) (show z < 2 ^ 31 by omega) (by decide) (by decide) (by decide) (by decide)]
  refine k_calli (a := []) (z := []) (wc := (poC o q1 q2 q3 q4 q5 q6 qt sv ++ (stW q1 cI cJ S1 ++ (stW q2 cI cJ S2 ++ (stW q3 cI cJ S3 ++ (stW q4 cI cJ S4 ++ (stW q5 cI cJ S5 ++ (stW q6 cI cJ S6 ++ (txW qt cI T))))))))) (wc' := (poC o q1 q2 q3 q4 q5 q6 qt (c_sv sv) ++ (stW q1 cI cJ S1 ++ (stW q2 cI cJ (s_chD S2 (nI h0) (nI v0)) ++ (stW q3 cI cJ S2 ++ (stW q4 cI cJ S3 ++ (stW q5 cI cJ S4 ++ (stW q6 cI cJ S5 ++ (txW qt cI T))))))))) (w' := (poC o q1 q2 q3 q4 q5 q6 qt (c_sv sv) ++ (stW q1 cI cJ S1 ++ (stW q2 cI cJ (s_chD S2 (nI h0) (nI v0)) ++ (stW q3 cI cJ S2 ++ (stW q4 cI cJ S3 ++ (stW q5 cI cJ S4 ++ (stW q6 cI cJ S5 ++ (txW qt cI T))))))))) (vx_runSW (As := [.ref o, .int (nI h0), .int (nI v0)]) (rest := []) ⟨hx, hb, hml, hown, hts⟩ (m_L_demands l D o q1 q2 q3 q4 q5 q6 qt cI cJ S1 S2 S3 S4 S5 S6 T sv (nI h0) (nI v0) (c_inN (lo := 0) (hi := 23) (by omega) (by omega) (by decide)) (c_inN (lo := 0) (hi := 1000) (by omega) (by omega) (by decide)) _) (vx_cwSW 3 hts gL_law_L_demands rfl rfl rfl (by decide +kernel) ⟨Nat.le_of_ble_eq_true rfl, Nat.le_of_ble_eq_true rfl⟩) ⟨kB_blind, k_pre (a := []) (z := []) (k_w0 _) hK hP hD⟩ rfl rfl hl.1 rfl (lv_room (Nat.le_of_ble_eq_true rfl)) dL_law_339 ⟨Nat.le_of_succ_le hkc, Nat.le_trans (Nat.le_add_right _ 6) hks⟩) (k_w0 _) (k_w0 _) rfl hP hD hS hA (fun H locs hP hD hS => ?_)
  refine lv_iload hx hb dL_law_342 (lv_at hl 0 rfl) ?_
  refine lv_icmp_ne (tgt := 372) hx hb dL_law_344 (by decide) (fun c_344_0 => ?_) (fun c_344_0 => ?_)
  · have c_344_0 : ¬ (s_dem S2 (nI h0)) = (s_dem S2 (nI h0)) := c_344_0
    exact absurd (rfl) c_344_0 -- done
  · have c_344_0 : (s_dem S2 (nI h0)) = (s_dem S2 (nI h0)) := c_344_0
    refine lv_aload_n hx hb dL_law_347 rfl (lv_at hl 2 rfl) ?_
    refine lv_iload hx hb dL_law_348 (lv_at hl 7 rfl) ?_
    refine lv_bipush (v := 24) hx hb dL_law_350 (by decide) ?_
    refine lv_irem hx hb dL_law_352 (by decide) ?_
    rw [show (nI z) - (nI z) / 24 * 24 = nI h0 from by rw [hh0]; exact nm (d := 24) (show z < 2 ^ 31 by omega) (by decide) (by decide)]
    refine k_calli (a := []) (z := []) (wc := (poC o q1 q2 q3 q4 q5 q6 qt (c_sv sv) ++ (stW q1 cI cJ S1 ++ (stW q2 cI cJ (s_chD S2 (nI h0) (nI v0)) ++ (stW q3 cI cJ S2 ++ (stW q4 cI cJ S3 ++ (stW q5 cI cJ S4 ++ (stW q6 cI cJ S5 ++ (txW qt cI T))))))))) (wc' := (poC o q1 q2 q3 q4 q5 q6 qt (c_sv sv) ++ (stW q1 cI cJ S1 ++ (stW q2 cI cJ (s_chD S2 (nI h0) (nI v0)) ++ (stW q3 cI cJ S2 ++ (stW q4 cI cJ S3 ++ (stW q5 cI cJ S4 ++ (stW q6 cI cJ S5 ++ (txW qt cI T))))))))) (w' := (poC o q1 q2 q3 q4 q5 q6 qt (c_sv sv) ++ (stW q1 cI cJ S1 ++ (stW q2 cI cJ (s_chD S2 (nI h0) (nI v0)) ++ (stW q3 cI cJ S2 ++ (stW q4 cI cJ S3 ++ (stW q5 cI cJ S4 ++ (stW q6 cI cJ S5 ++ (txW qt cI T))))))))) (vx_runSW (As := [.ref o, .int (nI h0)]) (rest := []) ⟨hx, hb, hml, hown, hts⟩ (m_L_demand l D o q1 q2 q3 q4 q5 q6 qt cI cJ S1 (s_chD S2 (nI h0) (nI v0)) S2 S3 S4 S5 T (c_sv sv) (nI h0) (c_inN (lo := 0) (hi := 23) (by omega) (by omega) (by decide)) _) (vx_cwSW 2 hts gL_law_L_demand rfl rfl rfl (by decide +kernel) ⟨Nat.le_of_ble_eq_true rfl, Nat.le_of_ble_eq_true rfl⟩) ⟨kB_blind, k_pre (a := []) (z := []) (k_w0 _) hK hP hD⟩ rfl rfl hl.1 rfl (lv_room (Nat.le_of_ble_eq_true rfl)) dL_law_353 ⟨Nat.le_of_succ_le hkc, Nat.le_trans (Nat.le_add_right _ 6) hks⟩) (k_w0 _) (k_w0 _) rfl hP hD hS hA (fun H locs hP hD hS => ?_)
    refine lv_iload hx hb dL_law_356 (lv_at hl 7 rfl) ?_
    refine lv_bipush (v := 32) hx hb dL_law_358 (by decide) ?_
    refine lv_idiv hx hb dL_law_360 (by decide) ?_
    refine lv_sipush (v := 1001) hx hb dL_law_361 (by decide) ?_
    refine lv_irem hx hb dL_law_364 (by decide) ?_
    rw [show ((nI z) / 32) - ((nI z) / 32) / 1001 * 1001 = nI v0 from by rw [hv0]; exact ndm (d := 32) (e := 1001) (show z < 2 ^ 31 by omega) (by decide) (by decide) (by decide) (by decide)]
    refine lv_icmp_ne (tgt := 372) hx hb dL_law_365 (by decide) (fun c_365_1 => ?_) (fun c_365_1 => ?_)
    · have c_365_1 : ¬ (s_dem (s_chD S2 (nI h0) (nI v0)) (nI h0)) = (nI v0) := c_365_1
      exact absurd (hdm) c_365_1 -- done
    · have c_365_1 : (s_dem (s_chD S2 (nI h0) (nI v0)) (nI h0)) = (nI v0) := c_365_1
      refine lv_iconst (v := 1) hx hb dL_law_368 (by decide) ?_
      refine lv_goto (tgt := 373) hx hb dL_law_369 (by decide) ?_
      refine lv_istore (lv' := [(4, .int 1), (10, .int (s_dem S2 (nI h0))), (0, .ref b), (1, .ref o), (2, .long bb), (5, .int (nI i)), (6, .int (nI y)), (7, .int (nI z)), (8, .int (nI q))]) hx hb dL_law_373 hl (by decide) rfl (fun ls hl => ?_)
      refine lv_goto (tgt := 563) hx hb dL_law_375 (by decide) ?_
      have hI9 : LI (s_chD S2 (nI h0) (nI v0)) (c_sv sv) bb n (u + 150) := LI_up (LI_S hI (fun Z W t B h _ => (o_demand h (by omega) (by omega)).imp (fun _ q9 => q9.1))) (by omega)
      refine W.widen (k := kc + 1) (n := ks + 6) (Nat.le_add_right _ _) (Nat.le_add_right _ _) ?_
      exact K S1 (s_chD S2 (nI h0) (nI v0)) S2 S3 S4 S5 T (c_sv sv) bb hI9 _ _ _ hP hD hS (lv_sub hl [2, 3, 4, 0, 5] rfl)

set_option maxHeartbeats 1000000 in
set_option maxRecDepth 100000 in
theorem lw_c3 {p9 : Program} {l : Launch} {e9 : Env} {s9 : State} {m9 : MethodId} {below : List Frame} {meth : Method} {c9 : Code} {b L : Nat} {xs : Nat → Int32} {D : va_G} {cI cJ : ClassId} (C0 : lw_C p9 l s9 m9 meth c9 b L xs D cI cJ) {o : Nat} {q1 q2 q3 q4 q5 q6 qt : Nat → Nat} {n u i y z q kc ks : Nat} (hn9 : n = 3) (hu : u ≤ 5000) (hz : z < 2 ^ 27) (hq : q < 3) (hkc : kc + 1 ≤ 292) (hks : ks + 6 ≤ 2600) (K : ∀ (S1 S2 S3 S4 S5 S6 : SS) (T : TS) (sv : Int32) (bb : Int64), LI S2 sv bb n (u + 150) → ∀ (H : Heap) (locs : List Loc) (ls : Array Slot), va_P D vwCl (poW o q1 q2 q3 q4 q5 q6 qt cI cJ S1 S2 S3 S4 S5 S6 T sv) H → va_D (A0 s9) (poW o q1 q2 q3 q4 q5 q6 qt cI cJ S1 S2 S3 S4 S5 S6 T sv) → va_S (A0 s9) s9.heap H locs → lv_has ls 14 [(0, .ref b), (1, .ref o), (2, .long bb), (4, .int 1), (5, .int (nI i))] → W p9 l e9 room_1 s9 m9 #[Value.ref b] below meth c9 H locs (kc + 1) (ks + 6) (lw_Z below #[Value.ref b] s9) (F0 m9 563 ls [])) {S1 S2 S3 S4 S5 S6 : SS} {T : TS} {sv : Int32} {bb : Int64} (hI : LI S2 sv bb n u) {H : Heap} {locs : List Loc} {ls : Array Slot} (hP : va_P D vwCl (poW o q1 q2 q3 q4 q5 q6 qt cI cJ S1 S2 S3 S4 S5 S6 T sv) H) (hD : va_D (A0 s9) (poW o q1 q2 q3 q4 q5 q6 qt cI cJ S1 S2 S3 S4 S5 S6 T sv)) (hS : va_S (A0 s9) s9.heap H locs) (hl : lv_has ls 14 [(0, .ref b), (1, .ref o), (2, .long bb), (4, .int 1), (5, .int (nI i)), (6, .int (nI y)), (7, .int (nI z)), (8, .int (nI q))]) : W p9 l e9 room_1 s9 m9 #[Value.ref b] below meth c9 H locs kc ks (lw_Z below #[Value.ref b] s9) (F0 m9 378 ls []) := by
  have C1 := C0
  obtain ⟨hx, hb, hr, hml, hown, hts, hX, hbl, hlk, hK, hTT, hN, hst, hL⟩ := C1
  have hA : ∀ q : Nat, s9.heap.size ≤ q → A0 s9 q := fun _ h => h
  have hbA : ¬ A0 s9 b := Nat.not_le.mpr hbl
  obtain ⟨Z, Ww, t, B, v, hJ, hbb, hsv, hv4, htu⟩ := id hI
  obtain ⟨h8, hn3, h4⟩ := J_n hJ
  have hn : S2.1 8 = nI n := h8
  have hn6 : n ≤ 6 := by omega
  obtain ⟨a0, ha0⟩ : ∃ a0, a0 = 1 + z % 9000 := ⟨_, rfl⟩
  obtain ⟨b0, hb0⟩ : ∃ b0, b0 = a0 + 1 + z / 16384 % 2000 := ⟨_, rfl⟩
  have g1 : ¬ nI a0 < 1 := nI_nlt (b := 1) (by omega) (by omega)
  have g2 : nI a0 < nI b0 := nI_lt (by omega) (by omega)
  by_cases g3 : nI b0 ≤ S2.1 0
  · refine lv_iconst (v := 1) hx hb dL_law_378 (by decide) ?_
    refine lv_iload hx hb dL_law_379 (lv_at hl 6 rfl) ?_
    refine lv_sipush (v := 9000) hx hb dL_law_381 (by decide) ?_
    refine lv_irem hx hb dL_law_384 (by decide) ?_
    refine lv_iadd hx hb dL_law_385 ?_
    rw [show 1 + ((nI z) - (nI z) / 9000 * 9000) = nI a0 from by rw [ha0]; exact nc (d := 9000) (c := 1) (show z < 2 ^ 31 by omega) (by decide) (by decide)]
    refine lv_istore (lv' := [(11, .int (nI a0)), (0, .ref b), (1, .ref o), (2, .long bb), (4, .int 1), (5, .int (nI i)), (6, .int (nI y)), (7, .int (nI z)), (8, .int (nI q))]) hx hb dL_law_386 hl (by decide) rfl (fun ls hl => ?_)
    refine lv_aload_n hx hb dL_law_388 rfl (lv_at hl 2 rfl) ?_
    refine lv_iload hx hb dL_law_389 (lv_at hl 0 rfl) ?_
    refine lv_iload hx hb dL_law_391 (lv_at hl 0 rfl) ?_
    refine lv_iconst (v := 1) hx hb dL_law_393 (by decide) ?_
    refine lv_iadd hx hb dL_law_394 ?_
    rw [show (nI a0) + 1 = nI (a0 + 1) from nI_1 _]
    refine lv_iload hx hb dL_law_395 (lv_at hl 7 rfl) ?_
    refine lv_sipush (v := 16384) hx hb dL_law_397 (by decide) ?_
    refine lv_idiv hx hb dL_law_400 (by decide) ?_
    refine lv_sipush (v := 2000) hx hb dL_law_401 (by decide) ?_
    refine lv_irem hx hb dL_law_404 (by decide) ?_
    rw [show ((nI z) / 16384) - ((nI z) / 16384) / 2000 * 2000 = nI (z / 16384 % 2000) from ndm (d := 16384) (e := 2000) (show z < 2 ^ 31 by omega) (by decide) (by decide) (by decide) (by decide)]
    refine lv_iadd hx hb dL_law_405 ?_
    rw [show (nI (a0 + 1)) + (nI (z / 16384 % 2000)) = nI b0 from by rw [hb0]; exact nI_add _ _]
    refine k_calli (a := []) (z := []) (wc := (poC o q1 q2 q3 q4 q5 q6 qt sv ++ (stW q1 cI cJ S1 ++ (stW q2 cI cJ S2 ++ (stW q3 cI cJ S3 ++ (stW q4 cI cJ S4 ++ (stW q5 cI cJ S5 ++ (stW q6 cI cJ S6 ++ (txW qt cI T))))))))) (wc' := (poC o q1 q2 q3 q4 q5 q6 qt (c_sv sv) ++ (stW q1 cI cJ S1 ++ (stW q2 cI cJ (setI (setI S2 2 (nI a0)) 3 (nI b0)) ++ (stW q3 cI cJ S2 ++ (stW q4 cI cJ S3 ++ (stW q5 cI cJ S4 ++ (stW q6 cI cJ S5 ++ (txW qt cI T))))))))) (w' := (poC o q1 q2 q3 q4 q5 q6 qt (c_sv sv) ++ (stW q1 cI cJ S1 ++ (stW q2 cI cJ (setI (setI S2 2 (nI a0)) 3 (nI b0)) ++ (stW q3 cI cJ S2 ++ (stW q4 cI cJ S3 ++ (stW q5 cI cJ S4 ++ (stW q6 cI cJ S5 ++ (txW qt cI T))))))))) (va_runS (As := [.ref o, .int (nI a0), .int (nI b0)]) (rest := []) ⟨hx, hb, hml, hown, hts⟩ (c_L_bandsOne_a l D o q1 q2 q3 q4 q5 q6 qt cI cJ S1 S2 S3 S4 S5 S6 T sv (nI a0) (nI b0) n hn hn6 g1 g2 g3 _) (cwS 3 hts gL_law_L_bandsOne rfl rfl rfl (by decide +kernel) ⟨Nat.le_of_ble_eq_true rfl, Nat.le_of_ble_eq_true rfl⟩) ⟨kB_blind, k_pre (a := []) (z := []) (k_w0 _) hK hP hD⟩ rfl rfl hl.1 rfl (lv_room (Nat.le_of_ble_eq_true rfl)) dL_law_406 ⟨Nat.le_of_succ_le hkc, Nat.le_trans (Nat.le_add_right _ 6) hks⟩) (k_w0 _) (k_w0 _) rfl hP hD hS hA (fun H locs hP hD hS => ?_)
    refine lv_istore (lv' := [(4, .int 1), (11, .int (nI a0)), (0, .ref b), (1, .ref o), (2, .long bb), (5, .int (nI i)), (6, .int (nI y)), (7, .int (nI z)), (8, .int (nI q))]) hx hb dL_law_409 hl (by decide) rfl (fun ls hl => ?_)
    refine lv_goto (tgt := 563) hx hb dL_law_411 (by decide) ?_
    have hI9 : LI (setI (setI S2 2 (nI a0)) 3 (nI b0)) (c_sv sv) bb n (u + 150) := LI_up (LI_S hI (fun Z W t B h _ => o_band h (by omega) (by omega) (by omega) g3)) (by omega)
    refine W.widen (k := kc + 1) (n := ks + 6) (Nat.le_add_right _ _) (Nat.le_add_right _ _) ?_
    exact K S1 (setI (setI S2 2 (nI a0)) 3 (nI b0)) S2 S3 S4 S5 T (c_sv sv) bb hI9 _ _ _ hP hD hS (lv_sub hl [2, 3, 4, 0, 5] rfl)
  · refine lv_iconst (v := 1) hx hb dL_law_378 (by decide) ?_
    refine lv_iload hx hb dL_law_379 (lv_at hl 6 rfl) ?_
    refine lv_sipush (v := 9000) hx hb dL_law_381 (by decide) ?_
    refine lv_irem hx hb dL_law_384 (by decide) ?_
    refine lv_iadd hx hb dL_law_385 ?_
    rw [show 1 + ((nI z) - (nI z) / 9000 * 9000) = nI a0 from by rw [ha0]; exact nc (d := 9000) (c := 1) (show z < 2 ^ 31 by omega) (by decide) (by decide)]
    refine lv_istore (lv' := [(11, .int (nI a0)), (0, .ref b), (1, .ref o), (2, .long bb), (4, .int 1), (5, .int (nI i)), (6, .int (nI y)), (7, .int (nI z)), (8, .int (nI q))]) hx hb dL_law_386 hl (by decide) rfl (fun ls hl => ?_)
    refine lv_aload_n hx hb dL_law_388 rfl (lv_at hl 2 rfl) ?_
    refine lv_iload hx hb dL_law_389 (lv_at hl 0 rfl) ?_
    refine lv_iload hx hb dL_law_391 (lv_at hl 0 rfl) ?_
    refine lv_iconst (v := 1) hx hb dL_law_393 (by decide) ?_
    refine lv_iadd hx hb dL_law_394 ?_
    rw [show (nI a0) + 1 = nI (a0 + 1) from nI_1 _]
    refine lv_iload hx hb dL_law_395 (lv_at hl 7 rfl) ?_
    refine lv_sipush (v := 16384) hx hb dL_law_397 (by decide) ?_
    refine lv_idiv hx hb dL_law_400 (by decide) ?_
    refine lv_sipush (v := 2000) hx hb dL_law_401 (by decide) ?_
    refine lv_irem hx hb dL_law_404 (by decide) ?_
    rw [show ((nI z) / 16384) - ((nI z) / 16384) / 2000 * 2000 = nI (z / 16384 % 2000) from ndm (d := 16384) (e := 2000) (show z < 2 ^ 31 by omega) (by decide) (by decide) (by decide) (by decide)]
    refine lv_iadd hx hb dL_law_405 ?_
    rw [show (nI (a0 + 1)) + (nI (z / 16384 % 2000)) = nI b0 from by rw [hb0]; exact nI_add _ _]
    refine k_callHn (a := []) (z := []) (wc := (poC o q1 q2 q3 q4 q5 q6 qt sv ++ (stW q1 cI cJ S1 ++ (stW q2 cI cJ S2 ++ (stW q3 cI cJ S3 ++ (stW q4 cI cJ S4 ++ (stW q5 cI cJ S5 ++ (stW q6 cI cJ S6 ++ (txW qt cI T))))))))) (wc' := (poC o q1 q2 q3 q4 q5 q6 qt sv ++ (stW q1 cI cJ S1 ++ (stW q2 cI cJ S2 ++ (stW q3 cI cJ S3 ++ (stW q4 cI cJ S4 ++ (stW q5 cI cJ S5 ++ (stW q6 cI cJ S6 ++ (txW qt cI T))))))))) (w' := (poC o q1 q2 q3 q4 q5 q6 qt sv ++ (stW q1 cI cJ S1 ++ (stW q2 cI cJ S2 ++ (stW q3 cI cJ S3 ++ (stW q4 cI cJ S4 ++ (stW q5 cI cJ S5 ++ (stW q6 cI cJ S6 ++ (txW qt cI T))))))))) (va_runS (As := [.ref o, .int (nI a0), .int (nI b0)]) (rest := []) ⟨hx, hb, hml, hown, hts⟩ (c_L_bandsOne_b l D o q1 q2 q3 q4 q5 q6 qt cI cJ S1 S2 S3 S4 S5 S6 T sv (nI a0) (nI b0) n hn hn6 hst g1 g2 g3 _) (cwS 3 hts gL_law_L_bandsOne rfl rfl rfl (by decide +kernel) ⟨Nat.le_of_ble_eq_true rfl, Nat.le_of_ble_eq_true rfl⟩) ⟨kBH_blind, k_preH (a := []) (z := []) (k_w0 _) hK hP hD hS hA hTT hN⟩ rfl rfl hl.1 rfl (lv_room (Nat.le_of_ble_eq_true rfl)) dL_law_406 ⟨hkc, hks⟩) (k_w0 _) (k_w0 _) rfl hP hD hS hA (fun H locs hP hD hS => ?_)
    refine lv_istore (lv' := [(4, .int 1), (11, .int (nI a0)), (0, .ref b), (1, .ref o), (2, .long bb), (5, .int (nI i)), (6, .int (nI y)), (7, .int (nI z)), (8, .int (nI q))]) hx hb dL_law_409 hl (by decide) rfl (fun ls hl => ?_)
    refine lv_goto (tgt := 563) hx hb dL_law_411 (by decide) ?_
    have hI9 : LI S2 sv bb n (u + 150) := LI_up hI (by omega)
    exact K S1 S2 S3 S4 S5 S6 T sv bb hI9 _ _ _ hP hD hS (lv_sub hl [2, 3, 4, 0, 5] rfl)
