set_option maxHeartbeats 1000000 in
set_option maxRecDepth 100000 in
theorem lw_c4 {p9 : Program} {l : Launch} {e9 : Env} {s9 : State} {m9 : MethodId} {below : List Frame} {meth : Method} {c9 : Code} {b L : Nat} {xs : Nat → Int32} {D : va_G} {cI cJ : ClassId} (C0 : lw_C p9 l s9 m9 meth c9 b L xs D cI cJ) {o : Nat} {q1 q2 q3 q4 q5 q6 qt : Nat → Nat} {n u i y z q kc ks : Nat} (hn9 : n = 3) (hu : u ≤ 5000) (hz : z < 2 ^ 27) (hq : q < 3) (hkc : kc + 1 ≤ 292) (hks : ks + 6 ≤ 2600) (K : ∀ (S1 S2 S3 S4 S5 S6 : SS) (T : TS) (sv : Int32) (bb : Int64), LI S2 sv bb n (u + 150) → ∀ (H : Heap) (locs : List Loc) (ls : Array Slot), va_P D vwCl (poW o q1 q2 q3 q4 q5 q6 qt cI cJ S1 S2 S3 S4 S5 S6 T sv) H → va_D (A0 s9) (poW o q1 q2 q3 q4 q5 q6 qt cI cJ S1 S2 S3 S4 S5 S6 T sv) → va_S (A0 s9) s9.heap H locs → lv_has ls 14 [(0, .ref b), (1, .ref o), (2, .long bb), (4, .int 1), (5, .int (nI i))] → W p9 l e9 room_1 s9 m9 #[Value.ref b] below meth c9 H locs (kc + 1) (ks + 6) (lw_Z below #[Value.ref b] s9) (F0 m9 563 ls [])) {S1 S2 S3 S4 S5 S6 : SS} {T : TS} {sv : Int32} {bb : Int64} (hI : LI S2 sv bb n u) {H : Heap} {locs : List Loc} {ls : Array Slot} (hP : va_P D vwCl (poW o q1 q2 q3 q4 q5 q6 qt cI cJ S1 S2 S3 S4 S5 S6 T sv) H) (hD : va_D (A0 s9) (poW o q1 q2 q3 q4 q5 q6 qt cI cJ S1 S2 S3 S4 S5 S6 T sv)) (hS : va_S (A0 s9) s9.heap H locs) (hl : lv_has ls 14 [(0, .ref b), (1, .ref o), (2, .long bb), (4, .int 1), (5, .int (nI i)), (6, .int (nI y)), (7, .int (nI z)), (8, .int (nI q))]) : W p9 l e9 room_1 s9 m9 #[Value.ref b] below meth c9 H locs kc ks (lw_Z below #[Value.ref b] s9) (F0 m9 414 ls []) := by
  have C1 := C0
  obtain ⟨hx, hb, hr, hml, hown, hts, hX, hbl, hlk, hK, hTT, hN, hst, hL⟩ := C1
  have hA : ∀ q : Nat, s9.heap.size ≤ q → A0 s9 q := fun _ h => h
  have hbA : ¬ A0 s9 b := Nat.not_le.mpr hbl
  obtain ⟨Z, Ww, t, B, v, hJ, hbb, hsv, hv4, htu⟩ := id hI
  obtain ⟨h8, hn3, h4⟩ := J_n hJ
  have hn : S2.1 8 = nI n := h8
  have hn6 : n ≤ 6 := by omega
  obtain ⟨m0, hm0⟩ : ∃ m0, m0 = z % (Z 0 + 1) := ⟨_, rfl⟩
  have s0 : S2.1 0 = nI (Z 0) := J_i hJ 0 0 (by omega) rfl
  have s1 : S2.1 1 = nI (Z 1) := J_i hJ 1 1 (by omega) rfl
  obtain ⟨-, -, -, z0, z1, -⟩ := hJ.2.2.2.1
  have hm9 : m0 ≤ Z 0 := by
    have := Nat.mod_lt z (show 0 < Z 0 + 1 by omega)
    omega
  refine lv_aload_n hx hb dL_law_414 rfl (lv_at hl 1 rfl) ?_
  refine lv_iconst (v := 1) hx hb dL_law_415 (by decide) ?_
  refine k_calli (a := []) (z := []) (wc := (poC o q1 q2 q3 q4 q5 q6 qt sv ++ (stW q1 cI cJ S1 ++ (stW q2 cI cJ S2 ++ (stW q3 cI cJ S3 ++ (stW q4 cI cJ S4 ++ (stW q5 cI cJ S5 ++ (stW q6 cI cJ S6 ++ (txW qt cI T))))))))) (wc' := (poC o q1 q2 q3 q4 q5 q6 qt sv ++ (stW q1 cI cJ S1 ++ (stW q2 cI cJ S2 ++ (stW q3 cI cJ S3 ++ (stW q4 cI cJ S4 ++ (stW q5 cI cJ S5 ++ (stW q6 cI cJ S6 ++ (txW qt cI T))))))))) (w' := (poC o q1 q2 q3 q4 q5 q6 qt sv ++ (stW q1 cI cJ S1 ++ (stW q2 cI cJ S2 ++ (stW q3 cI cJ S3 ++ (stW q4 cI cJ S4 ++ (stW q5 cI cJ S5 ++ (stW q6 cI cJ S6 ++ (txW qt cI T))))))))) (vx_runSW (As := [.ref o, .int 1]) (rest := []) ⟨hx, hb, hml, hown, hts⟩ (m_L_value l D o q1 q2 q3 q4 q5 q6 qt cI cJ S1 S2 S3 S4 S5 S6 T sv 1 n hn hn6 (by decide) _) (vx_cwSW 2 hts gL_law_L_value rfl rfl rfl (by decide +kernel) ⟨Nat.le_of_ble_eq_true rfl, Nat.le_of_ble_eq_true rfl⟩) ⟨kB_blind, k_pre (a := []) (z := []) (k_w0 _) hK hP hD⟩ rfl rfl hl.1 rfl (lv_room (Nat.le_of_ble_eq_true rfl)) dL_law_416 ⟨Nat.le_of_succ_le hkc, Nat.le_trans (Nat.le_add_right _ 6) hks⟩) (k_w0 _) (k_w0 _) rfl hP hD hS hA (fun H locs hP hD hS => ?_)
  rw [show s_num S2 n 1 = S2.1 1 from sn_1 S2 n]
  refine lv_istore (lv' := [(12, .int (S2.1 1)), (0, .ref b), (1, .ref o), (2, .long bb), (4, .int 1), (5, .int (nI i)), (6, .int (nI y)), (7, .int (nI z)), (8, .int (nI q))]) hx hb dL_law_419 hl (by decide) rfl (fun ls hl => ?_)
  refine lv_iload hx hb dL_law_421 (lv_at hl 7 rfl) ?_
  refine lv_aload_n hx hb dL_law_423 rfl (lv_at hl 2 rfl) ?_
  refine lv_iconst (v := 0) hx hb dL_law_424 (by decide) ?_
  refine k_calli (a := []) (z := []) (wc := (poC o q1 q2 q3 q4 q5 q6 qt sv ++ (stW q1 cI cJ S1 ++ (stW q2 cI cJ S2 ++ (stW q3 cI cJ S3 ++ (stW q4 cI cJ S4 ++ (stW q5 cI cJ S5 ++ (stW q6 cI cJ S6 ++ (txW qt cI T))))))))) (wc' := (poC o q1 q2 q3 q4 q5 q6 qt sv ++ (stW q1 cI cJ S1 ++ (stW q2 cI cJ S2 ++ (stW q3 cI cJ S3 ++ (stW q4 cI cJ S4 ++ (stW q5 cI cJ S5 ++ (stW q6 cI cJ S6 ++ (txW qt cI T))))))))) (w' := (poC o q1 q2 q3 q4 q5 q6 qt sv ++ (stW q1 cI cJ S1 ++ (stW q2 cI cJ S2 ++ (stW q3 cI cJ S3 ++ (stW q4 cI cJ S4 ++ (stW q5 cI cJ S5 ++ (stW q6 cI cJ S6 ++ (txW qt cI T))))))))) (vx_runSW (As := [.ref o, .int 0]) (rest := [.int (nI z)]) ⟨hx, hb, hml, hown, hts⟩ (m_L_value l D o q1 q2 q3 q4 q5 q6 qt cI cJ S1 S2 S3 S4 S5 S6 T sv 0 n hn hn6 (by decide) _) (vx_cwSW 2 hts gL_law_L_value rfl rfl rfl (by decide +kernel) ⟨Nat.le_of_ble_eq_true rfl, Nat.le_of_ble_eq_true rfl⟩) ⟨kB_blind, k_pre (a := []) (z := []) (k_w0 _) hK hP hD⟩ rfl rfl hl.1 rfl (lv_room (Nat.le_of_ble_eq_true rfl)) dL_law_425 ⟨Nat.le_of_succ_le hkc, Nat.le_trans (Nat.le_add_right _ 6) hks⟩) (k_w0 _) (k_w0 _) rfl hP hD hS hA (fun H locs hP hD hS => ?_)
  rw [show s_num S2 n 0 = S2.1 0 from sn_0 S2 n]
  refine lv_iconst (v := 1) hx hb dL_law_428 (by decide) ?_
  refine lv_iadd hx hb dL_law_429 ?_
  rw [show (S2.1 0) + 1 = nI (Z 0 + 1) from by rw [s0]; exact nI_1 _]
  refine lv_irem hx hb dL_law_430 (nI_ne0 (by omega) (by omega)) ?_
  rw [show (nI z) - (nI z) / (nI (Z 0 + 1)) * (nI (Z 0 + 1)) = nI m0 from by rw [hm0]; exact nm (d := Z 0 + 1) (show z < 2 ^ 31 by omega) (by omega) (by omega)]
  refine lv_istore (lv' := [(13, .int (nI m0)), (12, .int (S2.1 1)), (0, .ref b), (1, .ref o), (2, .long bb), (4, .int 1), (5, .int (nI i)), (6, .int (nI y)), (7, .int (nI z)), (8, .int (nI q))]) hx hb dL_law_431 hl (by decide) rfl (fun ls hl => ?_)
  refine lv_aload_n hx hb dL_law_433 rfl (lv_at hl 3 rfl) ?_
  refine lv_iload hx hb dL_law_434 (lv_at hl 0 rfl) ?_
  refine k_calli (a := []) (z := []) (wc := (poC o q1 q2 q3 q4 q5 q6 qt sv ++ (stW q1 cI cJ S1 ++ (stW q2 cI cJ S2 ++ (stW q3 cI cJ S3 ++ (stW q4 cI cJ S4 ++ (stW q5 cI cJ S5 ++ (stW q6 cI cJ S6 ++ (txW qt cI T))))))))) (wc' := (poC o q1 q2 q3 q4 q5 q6 qt (c_sv sv) ++ (stW q1 cI cJ S1 ++ (stW q2 cI cJ (setI S2 1 (nI m0)) ++ (stW q3 cI cJ S2 ++ (stW q4 cI cJ S3 ++ (stW q5 cI cJ S4 ++ (stW q6 cI cJ S5 ++ (txW qt cI T))))))))) (w' := (poC o q1 q2 q3 q4 q5 q6 qt (c_sv sv) ++ (stW q1 cI cJ S1 ++ (stW q2 cI cJ (setI S2 1 (nI m0)) ++ (stW q3 cI cJ S2 ++ (stW q4 cI cJ S3 ++ (stW q5 cI cJ S4 ++ (stW q6 cI cJ S5 ++ (txW qt cI T))))))))) (vx_runSW (As := [.ref o, .int (nI m0)]) (rest := []) ⟨hx, hb, hml, hown, hts⟩ (m_L_levels l D o q1 q2 q3 q4 q5 q6 qt cI cJ S1 S2 S3 S4 S5 S6 T sv (nI m0) (nI_pos' (by omega)) (by rw [s0]; exact nI_le hm9 (by omega)) _) (vx_cwSW 2 hts gL_law_L_levels rfl rfl rfl (by decide +kernel) ⟨Nat.le_of_ble_eq_true rfl, Nat.le_of_ble_eq_true rfl⟩) ⟨kB_blind, k_pre (a := []) (z := []) (k_w0 _) hK hP hD⟩ rfl rfl hl.1 rfl (lv_room (Nat.le_of_ble_eq_true rfl)) dL_law_436 ⟨Nat.le_of_succ_le hkc, Nat.le_trans (Nat.le_add_right _ 6) hks⟩) (k_w0 _) (k_w0 _) rfl hP hD hS hA (fun H locs hP hD hS => ?_)
  refine lv_iload hx hb dL_law_439 (lv_at hl 1 rfl) ?_
  refine lv_icmp_ne (tgt := 448) hx hb dL_law_441 (by decide) (fun c_441_0 => ?_) (fun c_441_0 => ?_)
  · have c_441_0 : ¬ (S2.1 1) = (S2.1 1) := c_441_0
    exact absurd (rfl) c_441_0 -- done
  · have c_441_0 : (S2.1 1) = (S2.1 1) := c_441_0
    refine lv_iconst (v := 1) hx hb dL_law_444 (by decide) ?_
    refine lv_goto (tgt := 449) hx hb dL_law_445 (by decide) ?_
    refine lv_istore (lv' := [(4, .int 1), (13, .int (nI m0)), (12, .int (S2.1 1)), (0, .ref b), (1, .ref o), (2, .long bb), (5, .int (nI i)), (6, .int (nI y)), (7, .int (nI z)), (8, .int (nI q))]) hx hb dL_law_449 hl (by decide) rfl (fun ls hl => ?_)
    refine lv_lload_n hx hb dL_law_451 rfl (lv_at hl 5 rfl) ?_
    refine lv_iload hx hb dL_law_452 (lv_at hl 1 rfl) ?_
    refine lv_iload hx hb dL_law_454 (lv_at hl 2 rfl) ?_
    refine lv_isub hx hb dL_law_456 ?_
    refine lv_i2l hx hb dL_law_457 rfl ?_
    refine lv_ladd hx hb dL_law_458 ?_
    refine lv_lstore_n (lv' := [(2, .long (bb + (((nI m0) - (S2.1 1)).toInt64))), (4, .int 1), (13, .int (nI m0)), (12, .int (S2.1 1)), (0, .ref b), (1, .ref o), (5, .int (nI i)), (6, .int (nI y)), (7, .int (nI z)), (8, .int (nI q))]) hx hb dL_law_459 rfl hl (by decide) rfl (fun ls hl => ?_)
    refine lv_goto (tgt := 563) hx hb dL_law_460 (by decide) ?_
    have hI9 : LI (setI S2 1 (nI m0)) (c_sv sv) (bb + (((nI m0) - (S2.1 1)).toInt64)) n (u + 150) := by
      obtain ⟨v2, g1, g2, g3⟩ := c_svN hv4
      obtain ⟨Z2, k1⟩ := o_level hJ hm9
      exact ⟨Z2, Ww, t, _, v2, k1, by rw [hbb, s1]; exact lvbb (by omega) (by omega), by rw [hsv]; exact g1, g3, by omega⟩
    refine W.widen (k := kc + 1) (n := ks + 6) (Nat.le_add_right _ _) (Nat.le_add_right _ _) ?_
    exact K S1 (setI S2 1 (nI m0)) S2 S3 S4 S5 T (c_sv sv) (bb + (((nI m0) - (S2.1 1)).toInt64)) hI9 _ _ _ hP hD hS (lv_sub hl [4, 5, 0, 1, 6] rfl)

set_option maxHeartbeats 1000000 in
set_option maxRecDepth 100000 in
theorem lw_c5 {p9 : Program} {l : Launch} {e9 : Env} {s9 : State} {m9 : MethodId} {below : List Frame} {meth : Method} {c9 : Code} {b L : Nat} {xs : Nat → Int32} {D : va_G} {cI cJ : ClassId} (C0 : lw_C p9 l s9 m9 meth c9 b L xs D cI cJ) {o : Nat} {q1 q2 q3 q4 q5 q6 qt : Nat → Nat} {n u i y z q kc ks : Nat} (hn9 : n = 3) (hu : u ≤ 5000) (hz : z < 2 ^ 27) (hq : q < 3) (hkc : kc + 1 ≤ 292) (hks : ks + 6 ≤ 2600) (K : ∀ (S1 S2 S3 S4 S5 S6 : SS) (T : TS) (sv : Int32) (bb : Int64), LI S2 sv bb n (u + 150) → ∀ (H : Heap) (locs : List Loc) (ls : Array Slot), va_P D vwCl (poW o q1 q2 q3 q4 q5 q6 qt cI cJ S1 S2 S3 S4 S5 S6 T sv) H → va_D (A0 s9) (poW o q1 q2 q3 q4 q5 q6 qt cI cJ S1 S2 S3 S4 S5 S6 T sv) → va_S (A0 s9) s9.heap H locs → lv_has ls 14 [(0, .ref b), (1, .ref o), (2, .long bb), (4, .int 1), (5, .int (nI i))] → W p9 l e9 room_1 s9 m9 #[Value.ref b] below meth c9 H locs (kc + 1) (ks + 6) (lw_Z below #[Value.ref b] s9) (F0 m9 563 ls [])) {S1 S2 S3 S4 S5 S6 : SS} {T : TS} {sv : Int32} {bb : Int64} (hI : LI S2 sv bb n u) {H : Heap} {locs : List Loc} {ls : Array Slot} (hP : va_P D vwCl (poW o q1 q2 q3 q4 q5 q6 qt cI cJ S1 S2 S3 S4 S5 S6 T sv) H) (hD : va_D (A0 s9) (poW o q1 q2 q3 q4 q5 q6 qt cI cJ S1 S2 S3 S4 S5 S6 T sv)) (hS : va_S (A0 s9) s9.heap H locs) (hl : lv_has ls 14 [(0, .ref b), (1, .ref o), (2, .long bb), (4, .int 1), (5, .int (nI i)), (6, .int (nI y)), (7, .int (nI z)), (8, .int (nI q))]) : W p9 l e9 room_1 s9 m9 #[Value.ref b] below meth c9 H locs kc ks (lw_Z below #[Value.ref b] s9) (F0 m9 463 ls []) := by
  have C1 := C0
  obtain ⟨hx, hb, hr, hml, hown, hts, hX, hbl, hlk, hK, hTT, hN, hst, hL⟩ := C1
  have hA : ∀ q : Nat, s9.heap.size ≤ q → A0 s9 q := fun _ h => h
  have hbA : ¬ A0 s9 b := Nat.not_le.mpr hbl
  obtain ⟨Z, Ww, t, B, v, hJ, hbb, hsv, hv4, htu⟩ := id hI
  obtain ⟨h8, hn3, h4⟩ := J_n hJ
  have hn : S2.1 8 = nI n := h8
  have hn6 : n ≤ 6 := by omega
  obtain ⟨k0, hk0⟩ : ∃ k0, k0 = z % 2 := ⟨_, rfl⟩
  obtain ⟨v0, hv0⟩ : ∃ v0, v0 = 1 + z / 2 % 100 := ⟨_, rfl⟩
  have hv9 : v0 ≤ (if k0 = 0 then 5000 else if k0 = 1 then 100 else 1) := by
    have e : k0 = 0 ∨ k0 = 1 := by omega
    rcases e with e | e <;> rw [e] <;> simp <;> omega
  have hv8 : (if k0 = 0 then 1 else 0) ≤ v0 := by split <;> omega
  refine lv_aload_n hx hb dL_law_463 rfl (lv_at hl 1 rfl) ?_
  refine lv_iload hx hb dL_law_464 (lv_at hl 6 rfl) ?_
  refine lv_iconst (v := 2) hx hb dL_law_466 (by decide) ?_
  refine lv_irem hx hb dL_law_467 (by decide) ?_
  rw [show (nI z) - (nI z) / 2 * 2 = nI k0 from by rw [hk0]; exact nm (d := 2) (show z < 2 ^ 31 by omega) (by decide) (by decide)]
  refine lv_iconst (v := 1) hx hb dL_law_468 (by decide) ?_
  refine lv_iload hx hb dL_law_469 (lv_at hl 6 rfl) ?_
  refine lv_iconst (v := 2) hx hb dL_law_471 (by decide) ?_
  refine lv_idiv hx hb dL_law_472 (by decide) ?_
  refine lv_bipush (v := 100) hx hb dL_law_473 (by decide) ?_
  refine lv_irem hx hb dL_law_475 (by decide) ?_
  refine lv_iadd hx hb dL_law_476 ?_
  rw [show 1 + (((nI z) / 2) - ((nI z) / 2) / 100 * 100) = nI v0 from by rw [hv0]; exact ncdm (d := 2) (e := 100) (c := 1) (show z < 2 ^ 31 by omega) (by decide) (by decide) (by decide) (by decide)]
  refine k_calli (a := []) (z := []) (wc := (poC o q1 q2 q3 q4 q5 q6 qt sv ++ (stW q1 cI cJ S1 ++ (stW q2 cI cJ S2 ++ (stW q3 cI cJ S3 ++ (stW q4 cI cJ S4 ++ (stW q5 cI cJ S5 ++ (stW q6 cI cJ S6 ++ (txW qt cI T))))))))) (wc' := (poC o q1 q2 q3 q4 q5 q6 qt (c_sv sv) ++ (stW q1 cI cJ S1 ++ (stW q2 cI cJ (s_chS S2 (nI k0) (nI v0)) ++ (stW q3 cI cJ S2 ++ (stW q4 cI cJ S3 ++ (stW q5 cI cJ S4 ++ (stW q6 cI cJ S5 ++ (txW qt cI T))))))))) (w' := (poC o q1 q2 q3 q4 q5 q6 qt (c_sv sv) ++ (stW q1 cI cJ S1 ++ (stW q2 cI cJ (s_chS S2 (nI k0) (nI v0)) ++ (stW q3 cI cJ S2 ++ (stW q4 cI cJ S3 ++ (stW q5 cI cJ S4 ++ (stW q6 cI cJ S5 ++ (txW qt cI T))))))))) (vx_runSW (As := [.ref o, .int (nI k0), .int (nI v0)]) (rest := []) ⟨hx, hb, hml, hown, hts⟩ (m_L_sets l D o q1 q2 q3 q4 q5 q6 qt cI cJ S1 S2 S3 S4 S5 S6 T sv (nI k0) (nI v0) (isSetN (by omega) hv8 hv9) _) (vx_cwSW 3 hts gL_law_L_sets rfl rfl rfl (by decide +kernel) ⟨Nat.le_of_ble_eq_true rfl, Nat.le_of_ble_eq_true rfl⟩) ⟨kBT_blind, k_preT (a := []) (z := []) (k_w0 _) hK hP hD hS hA hTT⟩ rfl rfl hl.1 rfl (lv_room (Nat.le_of_ble_eq_true rfl)) dL_law_477 ⟨Nat.le_of_succ_le hkc, Nat.le_trans (Nat.le_add_right _ 6) hks⟩) (k_w0 _) (k_w0 _) rfl hP hD hS hA (fun H locs hP hD hS => ?_)
  refine lv_if_lt (tgt := 487) hx hb dL_law_480 (by decide) (fun c_480_0 => ?_) (fun c_480_0 => ?_)
  · have c_480_0 : (s_set S2 (nI k0)) < 0 := c_480_0
    exact absurd c_480_0 (f_setN hJ (by omega)) -- done
  · have c_480_0 : ¬ (s_set S2 (nI k0)) < 0 := c_480_0
    refine lv_iconst (v := 1) hx hb dL_law_483 (by decide) ?_
    refine lv_goto (tgt := 488) hx hb dL_law_484 (by decide) ?_
    refine lv_istore (lv' := [(4, .int 1), (0, .ref b), (1, .ref o), (2, .long bb), (5, .int (nI i)), (6, .int (nI y)), (7, .int (nI z)), (8, .int (nI q))]) hx hb dL_law_488 hl (by decide) rfl (fun ls hl => ?_)
    refine lv_goto (tgt := 563) hx hb dL_law_490 (by decide) ?_
    have hI9 : LI (s_chS S2 (nI k0) (nI v0)) (c_sv sv) bb n (u + 150) := LI_up (LI_S hI (fun Z W t B h _ => (o_set h (k := k0) (v := v0) (by omega) hv9).imp (fun _ q9 => q9.1))) (by omega)
    refine W.widen (k := kc + 1) (n := ks + 6) (Nat.le_add_right _ _) (Nat.le_add_right _ _) ?_
    exact K S1 (s_chS S2 (nI k0) (nI v0)) S2 S3 S4 S5 T (c_sv sv) bb hI9 _ _ _ hP hD hS (lv_sub hl [1, 2, 3, 0, 4] rfl)
