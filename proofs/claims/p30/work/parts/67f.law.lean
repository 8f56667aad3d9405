set_option maxHeartbeats 1000000 in
set_option maxRecDepth 100000 in
theorem lw_c8 {p9 : Program} {l : Launch} {e9 : Env} {s9 : State} {m9 : MethodId} {below : List Frame} {meth : Method} {c9 : Code} {b L : Nat} {xs : Nat → Int32} {D : va_G} {cI cJ : ClassId} (C0 : lw_C p9 l s9 m9 meth c9 b L xs D cI cJ) {o : Nat} {q1 q2 q3 q4 q5 q6 qt : Nat → Nat} {n u i y z q kc ks : Nat} (hn9 : n = 3) (hu : u ≤ 5000) (hz : z < 2 ^ 27) (hq : q < 3) (hkc : kc + 1 ≤ 292) (hks : ks + 6 ≤ 2600) (K : ∀ (S1 S2 S3 S4 S5 S6 : SS) (T : TS) (sv : Int32) (bb : Int64), LI S2 sv bb n (u + 150) → ∀ (H : Heap) (locs : List Loc) (ls : Array Slot), va_P D vwCl (poW o q1 q2 q3 q4 q5 q6 qt cI cJ S1 S2 S3 S4 S5 S6 T sv) H → va_D (A0 s9) (poW o q1 q2 q3 q4 q5 q6 qt cI cJ S1 S2 S3 S4 S5 S6 T sv) → va_S (A0 s9) s9.heap H locs → lv_has ls 14 [(0, .ref b), (1, .ref o), (2, .long bb), (4, .int 1), (5, .int (nI i))] → W p9 l e9 room_1 s9 m9 #[Value.ref b] below meth c9 H locs (kc + 1) (ks + 6) (lw_Z below #[Value.ref b] s9) (F0 m9 563 ls [])) {S1 S2 S3 S4 S5 S6 : SS} {T : TS} {sv : Int32} {bb : Int64} (hI : LI S2 sv bb n u) {H : Heap} {locs : List Loc} {ls : Array Slot} (hP : va_P D vwCl (poW o q1 q2 q3 q4 q5 q6 qt cI cJ S1 S2 S3 S4 S5 S6 T sv) H) (hD : va_D (A0 s9) (poW o q1 q2 q3 q4 q5 q6 qt cI cJ S1 S2 S3 S4 S5 S6 T sv)) (hS : va_S (A0 s9) s9.heap H locs) (hl : lv_has ls 14 [(0, .ref b), (1, .ref o), (2, .long bb), (4, .int 1), (5, .int (nI i)), (6, .int (nI y)), (7, .int (nI z)), (8, .int (nI q))]) : W p9 l e9 room_1 s9 m9 #[Value.ref b] below meth c9 H locs kc ks (lw_Z below #[Value.ref b] s9) (F0 m9 527 ls []) := by
  have C1 := C0
  obtain ⟨hx, hb, hr, hml, hown, hts, hX, hbl, hlk, hK, hTT, hN, hst, hL⟩ := C1
  have hA : ∀ q : Nat, s9.heap.size ≤ q → A0 s9 q := fun _ h => h
  have hbA : ¬ A0 s9 b := Nat.not_le.mpr hbl
  obtain ⟨Z, Ww, t, B, v, hJ, hbb, hsv, hv4, htu⟩ := id hI
  obtain ⟨h8, hn3, h4⟩ := J_n hJ
  have hn : S2.1 8 = nI n := h8
  have hn6 : n ≤ 6 := by omega
  obtain ⟨v0, hv0⟩ : ∃ v0, v0 = z % 2 := ⟨_, rfl⟩
  refine lv_aload_n hx hb dL_law_527 rfl (lv_at hl 1 rfl) ?_
  refine lv_iconst (v := 2) hx hb dL_law_528 (by decide) ?_
  refine lv_iload hx hb dL_law_529 (lv_at hl 6 rfl) ?_
  refine lv_iconst (v := 2) hx hb dL_law_531 (by decide) ?_
  refine lv_irem hx hb dL_law_532 (by decide) ?_
  rw [show (nI z) - (nI z) / 2 * 2 = nI v0 from by rw [hv0]; exact nm (d := 2) (show z < 2 ^ 31 by omega) (by decide) (by decide)]
  refine k_calli (a := []) (z := []) (wc := (poC o q1 q2 q3 q4 q5 q6 qt sv ++ (stW q1 cI cJ S1 ++ (stW q2 cI cJ S2 ++ (stW q3 cI cJ S3 ++ (stW q4 cI cJ S4 ++ (stW q5 cI cJ S5 ++ (stW q6 cI cJ S6 ++ (txW qt cI T))))))))) (wc' := (poC o q1 q2 q3 q4 q5 q6 qt (c_sv sv) ++ (stW q1 cI cJ S1 ++ (stW q2 cI cJ (s_chS S2 2 (nI v0)) ++ (stW q3 cI cJ S2 ++ (stW q4 cI cJ S3 ++ (stW q5 cI cJ S4 ++ (stW q6 cI cJ S5 ++ (txW qt cI T))))))))) (w' := (poC o q1 q2 q3 q4 q5 q6 qt (c_sv sv) ++ (stW q1 cI cJ S1 ++ (stW q2 cI cJ (s_chS S2 2 (nI v0)) ++ (stW q3 cI cJ S2 ++ (stW q4 cI cJ S3 ++ (stW q5 cI cJ S4 ++ (stW q6 cI cJ S5 ++ (txW qt cI T))))))))) (vx_runSW (As := [.ref o, .int 2, .int (nI v0)]) (rest := []) ⟨hx, hb, hml, hown, hts⟩ (m_L_sets l D o q1 q2 q3 q4 q5 q6 qt cI cJ S1 S2 S3 S4 S5 S6 T sv 2 (nI v0) (show c_isSet (nI 2) (nI v0) = true from isSetN (by omega) (Nat.zero_le _) (show v0 ≤ 1 by omega)) _) (vx_cwSW 3 hts gL_law_L_sets rfl rfl rfl (by decide +kernel) ⟨Nat.le_of_ble_eq_true rfl, Nat.le_of_ble_eq_true rfl⟩) ⟨kBT_blind, k_preT (a := []) (z := []) (k_w0 _) hK hP hD hS hA hTT⟩ rfl rfl hl.1 rfl (lv_room (Nat.le_of_ble_eq_true rfl)) dL_law_533 ⟨Nat.le_of_succ_le hkc, Nat.le_trans (Nat.le_add_right _ 6) hks⟩) (k_w0 _) (k_w0 _) rfl hP hD hS hA (fun H locs hP hD hS => ?_)
  refine lv_if_lt (tgt := 543) hx hb dL_law_536 (by decide) (fun c_536_0 => ?_) (fun c_536_0 => ?_)
  · have c_536_0 : (s_set S2 2) < 0 := c_536_0
    exact absurd c_536_0 (f_setN (k := 2) hJ (by omega)) -- done
  · have c_536_0 : ¬ (s_set S2 2) < 0 := c_536_0
    refine lv_iconst (v := 1) hx hb dL_law_539 (by decide) ?_
    refine lv_goto (tgt := 544) hx hb dL_law_540 (by decide) ?_
    refine lv_istore (lv' := [(4, .int 1), (0, .ref b), (1, .ref o), (2, .long bb), (5, .int (nI i)), (6, .int (nI y)), (7, .int (nI z)), (8, .int (nI q))]) hx hb dL_law_544 hl (by decide) rfl (fun ls hl => ?_)
    refine lv_goto (tgt := 563) hx hb dL_law_546 (by decide) ?_
    have hI9 : LI (s_chS S2 2 (nI v0)) (c_sv sv) bb n (u + 150) := LI_up (LI_S hI (fun Z W t B h _ => (o_set h (k := 2) (v := v0) (by omega) (show v0 ≤ 1 by omega)).imp (fun _ q9 => q9.1))) (by omega)
    refine W.widen (k := kc + 1) (n := ks + 6) (Nat.le_add_right _ _) (Nat.le_add_right _ _) ?_
    exact K S1 (s_chS S2 2 (nI v0)) S2 S3 S4 S5 T (c_sv sv) bb hI9 _ _ _ hP hD hS (lv_sub hl [1, 2, 3, 0, 4] rfl)

set_option maxHeartbeats 1000000 in
set_option maxRecDepth 100000 in
theorem lw_c9 {p9 : Program} {l : Launch} {e9 : Env} {s9 : State} {m9 : MethodId} {below : List Frame} {meth : Method} {c9 : Code} {b L : Nat} {xs : Nat → Int32} {D : va_G} {cI cJ : ClassId} (C0 : lw_C p9 l s9 m9 meth c9 b L xs D cI cJ) {o : Nat} {q1 q2 q3 q4 q5 q6 qt : Nat → Nat} {n u i y z q kc ks : Nat} (hn9 : n = 3) (hu : u ≤ 5000) (hz : z < 2 ^ 27) (hq : q < 3) (hkc : kc + 1 ≤ 292) (hks : ks + 6 ≤ 2600) (K : ∀ (S1 S2 S3 S4 S5 S6 : SS) (T : TS) (sv : Int32) (bb : Int64), LI S2 sv bb n (u + 150) → ∀ (H : Heap) (locs : List Loc) (ls : Array Slot), va_P D vwCl (poW o q1 q2 q3 q4 q5 q6 qt cI cJ S1 S2 S3 S4 S5 S6 T sv) H → va_D (A0 s9) (poW o q1 q2 q3 q4 q5 q6 qt cI cJ S1 S2 S3 S4 S5 S6 T sv) → va_S (A0 s9) s9.heap H locs → lv_has ls 14 [(0, .ref b), (1, .ref o), (2, .long bb), (4, .int 1), (5, .int (nI i))] → W p9 l e9 room_1 s9 m9 #[Value.ref b] below meth c9 H locs (kc + 1) (ks + 6) (lw_Z below #[Value.ref b] s9) (F0 m9 563 ls [])) {S1 S2 S3 S4 S5 S6 : SS} {T : TS} {sv : Int32} {bb : Int64} (hI : LI S2 sv bb n u) {H : Heap} {locs : List Loc} {ls : Array Slot} (hP : va_P D vwCl (poW o q1 q2 q3 q4 q5 q6 qt cI cJ S1 S2 S3 S4 S5 S6 T sv) H) (hD : va_D (A0 s9) (poW o q1 q2 q3 q4 q5 q6 qt cI cJ S1 S2 S3 S4 S5 S6 T sv)) (hS : va_S (A0 s9) s9.heap H locs) (hl : lv_has ls 14 [(0, .ref b), (1, .ref o), (2, .long bb), (4, .int 1), (5, .int (nI i)), (6, .int (nI y)), (7, .int (nI z)), (8, .int (nI q))]) : W p9 l e9 room_1 s9 m9 #[Value.ref b] below meth c9 H locs kc ks (lw_Z below #[Value.ref b] s9) (F0 m9 549 ls []) := by
  have C1 := C0
  obtain ⟨hx, hb, hr, hml, hown, hts, hX, hbl, hlk, hK, hTT, hN, hst, hL⟩ := C1
  have hA : ∀ q : Nat, s9.heap.size ≤ q → A0 s9 q := fun _ h => h
  have hbA : ¬ A0 s9 b := Nat.not_le.mpr hbl
  obtain ⟨Z, Ww, t, B, v, hJ, hbb, hsv, hv4, htu⟩ := id hI
  obtain ⟨h8, hn3, h4⟩ := J_n hJ
  have hn : S2.1 8 = nI n := h8
  have hn6 : n ≤ 6 := by omega
  obtain ⟨m0, hm0⟩ : ∃ m0, m0 = 1 + z % 150 := ⟨_, rfl⟩
  obtain ⟨g1, g2, g3, -, -, Z2, W2, g6⟩ := f_pass hJ (m := m0) (by omega) (by omega) (by omega)
  obtain ⟨v2, k1, k2, k3⟩ := c_svN hv4
  refine lv_aload_n hx hb dL_law_549 rfl (lv_at hl 1 rfl) ?_
  refine lv_iconst (v := 1) hx hb dL_law_550 (by decide) ?_
  refine lv_iload hx hb dL_law_551 (lv_at hl 6 rfl) ?_
  refine lv_sipush (v := 150) hx hb dL_law_553 (by decide) ?_
  refine lv_irem hx hb dL_law_556 (by decide) ?_
  refine lv_iadd hx hb dL_law_557 ?_
  rw [show 1 + ((nI z) - (nI z) / 150 * 150) = nI m0 from by rw [hm0]; exact nc (d := 150) (c := 1) (show z < 2 ^ 31 by omega) (by decide) (by decide)]
  refine k_calli (a := []) (z := []) (wc := (poC o q1 q2 q3 q4 q5 q6 qt sv ++ (stW q1 cI cJ S1 ++ (stW q2 cI cJ S2 ++ (stW q3 cI cJ S3 ++ (stW q4 cI cJ S4 ++ (stW q5 cI cJ S5 ++ (stW q6 cI cJ S6 ++ (txW qt cI T))))))))) (wc' := (poC o q1 q2 q3 q4 q5 q6 qt (c_sv sv) ++ (stW q1 cI cJ S1 ++ (stW q2 cI cJ (s_pass S2 n (nI m0).toNatClampNeg) ++ (stW q3 cI cJ S2 ++ (stW q4 cI cJ S3 ++ (stW q5 cI cJ S4 ++ (stW q6 cI cJ S5 ++ (txW qt cI T))))))))) (w' := (poC o q1 q2 q3 q4 q5 q6 qt (c_sv sv) ++ (stW q1 cI cJ S1 ++ (stW q2 cI cJ (s_pass S2 n (nI m0).toNatClampNeg) ++ (stW q3 cI cJ S2 ++ (stW q4 cI cJ S3 ++ (stW q5 cI cJ S4 ++ (stW q6 cI cJ S5 ++ (txW qt cI T))))))))) (va_runS (As := [.ref o, .int (nI m0)]) (rest := []) ⟨hx, hb, hml, hown, hts⟩ (c_L_passesOne l D o q1 q2 q3 q4 q5 q6 qt cI cJ S1 S2 S3 S4 S5 S6 T sv (nI m0) n hn hn6 g1 g2 g3 _) (cwS 2 hts gL_law_L_passesOne rfl rfl rfl (by decide +kernel) ⟨Nat.le_of_ble_eq_true rfl, Nat.le_of_ble_eq_true rfl⟩) ⟨kB_blind, k_pre (a := []) (z := []) (k_w0 _) hK hP hD⟩ rfl rfl hl.1 rfl (lv_room (Nat.le_of_ble_eq_true rfl)) dL_law_558 ⟨Nat.le_of_succ_le hkc, Nat.le_trans (Nat.le_add_right _ 6) hks⟩) (k_w0 _) (k_w0 _) rfl hP hD hS hA (fun H locs hP hD hS => ?_)
  refine lv_istore (lv' := [(4, .int 1), (0, .ref b), (1, .ref o), (2, .long bb), (5, .int (nI i)), (6, .int (nI y)), (7, .int (nI z)), (8, .int (nI q))]) hx hb dL_law_561 hl (by decide) rfl (fun ls hl => ?_)
  have hI9 : LI (s_pass S2 n (nI m0).toNatClampNeg) (c_sv sv) bb n (u + 150) := ⟨Z2, W2, t + m0, B, v2, g6, hbb, by rw [hsv]; exact k1, k3, by omega⟩
  refine W.widen (k := kc + 1) (n := ks + 6) (Nat.le_add_right _ _) (Nat.le_add_right _ _) ?_
  exact K S1 (s_pass S2 n (nI m0).toNatClampNeg) S2 S3 S4 S5 T (c_sv sv) bb hI9 _ _ _ hP hD hS (lv_sub hl [1, 2, 3, 0, 4] rfl)
