set_option maxHeartbeats 1000000 in
set_option maxRecDepth 100000 in
theorem lw_c20 {p : Program} {l : Launch} {e : Env} {s : State} {m : MethodId} {below : List Frame} {meth : Method} {c : Code} {b L : Nat} {xs : Nat → Int32} {D : va_G} {cI cJ : ClassId} (C0 : lw_C p l s m meth c b L xs D cI cJ) {o : Nat} {q1 q2 q3 q4 q5 q6 qt qm : Nat → Nat} {oa : Nat} {i : Nat} (hi : i + 2 < L) {kc ks : Nat} (hkc : kc + 1 ≤ 1160) (hks : ks + 6 ≤ 10503) (K : ∀ (S1 S2 S3 S4 S5 S6 : SS) (T : TS) (sv : Int32) (f : Nat → Int64) (M : MS), ROE S2 S3 S4 S5 S6 T sv M → ∀ (H : Heap) (locs : List Loc) (ls : Array Slot), va_P D vwCl (((poW o q1 q2 q3 q4 q5 q6 qt cI cJ S1 S2 S3 S4 S5 S6 T sv) ++ ouW oa cJ f) ++ moW qm cI cJ M) H → va_D (A0 s) (((poW o q1 q2 q3 q4 q5 q6 qt cI cJ S1 S2 S3 S4 S5 S6 T sv) ++ ouW oa cJ f) ++ moW qm cI cJ M) → va_S (A0 s) s.heap H locs → lv_has ls 9 [(0, .ref b), (1, .ref o), (2, .ref (qm 0)), (3, .ref oa), (4, .int (nI i))] → W p l e room_1 s m #[Value.ref b] below meth c H locs (kc + 1) (ks + 6) (lw_Z below #[Value.ref b] s) (F0 m 1548 ls [])) {S1 S2 S3 S4 S5 S6 : SS} {T : TS} {sv : Int32} {f : Nat → Int64} {M : MS} (hRO : ROE S2 S3 S4 S5 S6 T sv M) {H : Heap} {locs : List Loc} {ls : Array Slot} (hP : va_P D vwCl (((poW o q1 q2 q3 q4 q5 q6 qt cI cJ S1 S2 S3 S4 S5 S6 T sv) ++ ouW oa cJ f) ++ moW qm cI cJ M) H) (hD : va_D (A0 s) (((poW o q1 q2 q3 q4 q5 q6 qt cI cJ S1 S2 S3 S4 S5 S6 T sv) ++ ouW oa cJ f) ++ moW qm cI cJ M)) (hS : va_S (A0 s) s.heap H locs) (hl : lv_has ls 9 [(0, .ref b), (1, .ref o), (2, .ref (qm 0)), (3, .ref oa), (4, .int (nI i))]) : W p l e room_1 s m #[Value.ref b] below meth c H locs kc ks (lw_Z below #[Value.ref b] s) (F0 m 1354 ls []) := by
  obtain ⟨hx, hb, hr, hml, hown, hts, hX, hbl, hlk, hK, hTT, hN, hst, hL⟩ := C0
  have hA : ∀ q : Nat, s.heap.size ≤ q → A0 s q := fun _ h => h
  have hbA : ¬ A0 s b := Nat.not_le.mpr hbl
  obtain ⟨st, n, t, le, hR⟩ := hRO
  obtain ⟨⟨hsv, hst0, hst4⟩, ⟨hRS, ht⟩, -, -, hle, hle1, -⟩ := id hR
  obtain ⟨hok, hn6, hn, h4, hw7⟩ := RS_ok hRS
  obtain ⟨mm, hm12, hms, hmw⟩ := RS_lc hRS
  obtain ⟨M', hM'⟩ : ∃ M', M' = o_setV (o_setI M 2 0) 1 (o_nsRow (M.2.1 0) n t) := ⟨_, rfl⟩
  obtain ⟨hans, hR'⟩ := q_nextStart hR
  rw [← hM'] at hR'
  refine lv_aload_n hx hb dL_law_1354 rfl (lv_at hl 1 rfl) ?_
  refine k_calli (a := []) (z := ouW oa cJ f ++ moW qm cI cJ M) (wc := (poW o q1 q2 q3 q4 q5 q6 qt cI cJ S1 S2 S3 S4 S5 S6 T sv)) (wc' := (poW o q1 q2 q3 q4 q5 q6 qt cI cJ (c_ns S2 n) S2 S3 S4 S5 S6 T sv)) (w' := (((poW o q1 q2 q3 q4 q5 q6 qt cI cJ (c_ns S2 n) S2 S3 S4 S5 S6 T sv) ++ ouW oa cJ f) ++ moW qm cI cJ M)) (va_runV (As := []) (rest := []) ⟨hx, hb, hml, hown, hts⟩ (c_X4_nextStart l D o q1 q2 q3 q4 q5 q6 qt cI cJ S1 S2 S3 S4 S5 S6 T sv n hn hn6 _) (cwV 0 hts gL_law_X4_nextStart rfl rfl rfl (by decide +kernel) ⟨Nat.le_of_ble_eq_true rfl, Nat.le_of_ble_eq_true rfl⟩) ⟨kB_blind, va_recv hK hP (ci := 4) (q0 := 0) rfl rfl, k_pre (a := []) (z := ouW oa cJ f ++ moW qm cI cJ M) (k_as _ _ _) hK hP hD⟩ rfl rfl hl.1 rfl (lv_room (Nat.le_of_ble_eq_true rfl)) dL_law_1355 ⟨Nat.le_of_succ_le hkc, Nat.le_trans (Nat.le_add_right _ 6) hks⟩) (k_as _ _ _) (k_as _ _ _) (poW_ad _ _ _ _ _ _ _ _ _ _ _ _ _ _ _ _ _ _ _ _ _ _ _ _ _ _) hP hD hS hA (fun H locs hP hD hS => ?_)
  refine lv_aload_n hx hb dL_law_1358 rfl (lv_at hl 2 rfl) ?_
  refine k_calli (a := ((poW o q1 q2 q3 q4 q5 q6 qt cI cJ (c_ns S2 n) S2 S3 S4 S5 S6 T sv) ++ ouW oa cJ f)) (z := []) (wc := moW qm cI cJ M) (wc' := moW qm cI cJ (o_setV (o_setI M 2 0) 1 (o_nsRow (M.2.1 0) n t))) (w' := (((poW o q1 q2 q3 q4 q5 q6 qt cI cJ (c_ns S2 n) S2 S3 S4 S5 S6 T sv) ++ ouW oa cJ f) ++ moW qm cI cJ (o_setV (o_setI M 2 0) 1 (o_nsRow (M.2.1 0) n t)))) (va_runV (As := []) (rest := [.int (c_nsR S2 n)]) ⟨hx, hb, hml, hown, hts⟩ (c_X5_nextStart l D qm cI cJ M n t hok hn6 (by omega) _) (cwV 0 hts gL_law_X5_nextStart rfl rfl rfl (by decide +kernel) ⟨Nat.le_of_ble_eq_true rfl, Nat.le_of_ble_eq_true rfl⟩) ⟨kB_blind, va_recv hK hP (ci := 5) (q0 := 95) rfl rfl, k_pre (a := ((poW o q1 q2 q3 q4 q5 q6 qt cI cJ (c_ns S2 n) S2 S3 S4 S5 S6 T sv) ++ ouW oa cJ f)) (z := []) (k_n0 _ _) hK hP hD⟩ rfl rfl hl.1 rfl (lv_room (Nat.le_of_ble_eq_true rfl)) dL_law_1359 ⟨Nat.le_of_succ_le hkc, Nat.le_trans (Nat.le_add_right _ 6) hks⟩) (k_n0 _ _) (k_n0 _ _) (moW_ad _ _ _ _ _) hP hD hS hA (fun H locs hP hD hS => ?_)
  rw [← hM'] at hP hD
  refine lv_icmp_eq (tgt := 1548) hx hb dL_law_1362 (by decide) (fun _ => ?_) (fun c9 => absurd hans c9)
  refine W.widen (k := kc + 1) (n := ks + 6) (Nat.le_add_right _ _) (Nat.le_add_right _ _) ?_
  exact K (c_ns S2 n) S2 S3 S4 S5 S6 T sv f M' hR' _ _ _ hP hD hS (lv_sub hl [0, 1, 2, 3, 4] rfl)

set_option maxHeartbeats 1000000 in
set_option maxRecDepth 100000 in
theorem lw_c21 {p : Program} {l : Launch} {e : Env} {s : State} {m : MethodId} {below : List Frame} {meth : Method} {c : Code} {b L : Nat} {xs : Nat → Int32} {D : va_G} {cI cJ : ClassId} (C0 : lw_C p l s m meth c b L xs D cI cJ) {o : Nat} {q1 q2 q3 q4 q5 q6 qt qm : Nat → Nat} {oa : Nat} {i : Nat} (hi : i + 2 < L) {kc ks : Nat} (hkc : kc + 1 ≤ 1160) (hks : ks + 6 ≤ 10503) (K : ∀ (S1 S2 S3 S4 S5 S6 : SS) (T : TS) (sv : Int32) (f : Nat → Int64) (M : MS), ROE S2 S3 S4 S5 S6 T sv M → ∀ (H : Heap) (locs : List Loc) (ls : Array Slot), va_P D vwCl (((poW o q1 q2 q3 q4 q5 q6 qt cI cJ S1 S2 S3 S4 S5 S6 T sv) ++ ouW oa cJ f) ++ moW qm cI cJ M) H → va_D (A0 s) (((poW o q1 q2 q3 q4 q5 q6 qt cI cJ S1 S2 S3 S4 S5 S6 T sv) ++ ouW oa cJ f) ++ moW qm cI cJ M) → va_S (A0 s) s.heap H locs → lv_has ls 9 [(0, .ref b), (1, .ref o), (2, .ref (qm 0)), (3, .ref oa), (4, .int (nI i))] → W p l e room_1 s m #[Value.ref b] below meth c H locs (kc + 1) (ks + 6) (lw_Z below #[Value.ref b] s) (F0 m 1548 ls [])) {S1 S2 S3 S4 S5 S6 : SS} {T : TS} {sv : Int32} {f : Nat → Int64} {M : MS} (hRO : ROE S2 S3 S4 S5 S6 T sv M) {H : Heap} {locs : List Loc} {ls : Array Slot} (hP : va_P D vwCl (((poW o q1 q2 q3 q4 q5 q6 qt cI cJ S1 S2 S3 S4 S5 S6 T sv) ++ ouW oa cJ f) ++ moW qm cI cJ M) H) (hD : va_D (A0 s) (((poW o q1 q2 q3 q4 q5 q6 qt cI cJ S1 S2 S3 S4 S5 S6 T sv) ++ ouW oa cJ f) ++ moW qm cI cJ M)) (hS : va_S (A0 s) s.heap H locs) (hl : lv_has ls 9 [(0, .ref b), (1, .ref o), (2, .ref (qm 0)), (3, .ref oa), (4, .int (nI i))]) : W p l e room_1 s m #[Value.ref b] below meth c H locs kc ks (lw_Z below #[Value.ref b] s) (F0 m 1367 ls []) := by
  obtain ⟨hx, hb, hr, hml, hown, hts, hX, hbl, hlk, hK, hTT, hN, hst, hL⟩ := C0
  have hA : ∀ q : Nat, s.heap.size ≤ q → A0 s q := fun _ h => h
  have hbA : ¬ A0 s b := Nat.not_le.mpr hbl
  obtain ⟨st, n, t, le, hR⟩ := hRO
  obtain ⟨⟨hsv, hst0, hst4⟩, ⟨hRS, ht⟩, -, -, hle, hle1, -⟩ := id hR
  obtain ⟨hok, hn6, hn, h4, hw7⟩ := RS_ok hRS
  obtain ⟨mm, hm12, hms, hmw⟩ := RS_lc hRS
  obtain ⟨M', hM'⟩ : ∃ M', M' = o_setI M 2 0 := ⟨_, rfl⟩
  have hans := q_honesty hR
  have hR' : ROE S2 S3 S4 S5 S6 T sv M' := by rw [hM']; exact ⟨st, n, t, le, hR⟩
  refine lv_aload_n hx hb dL_law_1367 rfl (lv_at hl 1 rfl) ?_
  refine k_calld (a := []) (z := ouW oa cJ f ++ moW qm cI cJ M) (wc := (poW o q1 q2 q3 q4 q5 q6 qt cI cJ S1 S2 S3 S4 S5 S6 T sv)) (wc' := (poW o q1 q2 q3 q4 q5 q6 qt cI cJ S1 S2 S3 S4 S5 S6 T sv)) (w' := (((poW o q1 q2 q3 q4 q5 q6 qt cI cJ S1 S2 S3 S4 S5 S6 T sv) ++ ouW oa cJ f) ++ moW qm cI cJ M)) (va_runV (As := []) (rest := []) ⟨hx, hb, hml, hown, hts⟩ (c_X4_honesty l D o q1 q2 q3 q4 q5 q6 qt cI cJ S1 S2 S3 S4 S5 S6 T sv n hn hn6 _) (cwV 0 hts gL_law_X4_honesty rfl rfl rfl (by decide +kernel) ⟨Nat.le_of_ble_eq_true rfl, Nat.le_of_ble_eq_true rfl⟩) ⟨kB_blind, va_recv hK hP (ci := 4) (q0 := 0) rfl rfl, k_pre (a := []) (z := ouW oa cJ f ++ moW qm cI cJ M) (k_as _ _ _) hK hP hD⟩ rfl rfl hl.1 rfl (lv_room (Nat.le_of_ble_eq_true rfl)) dL_law_1368 ⟨Nat.le_of_succ_le hkc, Nat.le_trans (Nat.le_add_right _ 6) hks⟩) (k_as _ _ _) (k_as _ _ _) (poW_ad _ _ _ _ _ _ _ _ _ _ _ _ _ _ _ _ _ _ _ _ _ _ _ _ _ _) hP hD hS hA (fun H locs hP hD hS => ?_)
  refine lv_dstore (lv' := [(5, .double (c_hon S2 n)), (0, .ref b), (1, .ref o), (2, .ref (qm 0)), (3, .ref oa), (4, .int (nI i))]) hx hb dL_law_1371 hl (by decide) rfl (fun ls hl => ?_)
  refine lv_aload_n hx hb dL_law_1373 rfl (lv_at hl 3 rfl) ?_
  refine k_calld (a := ((poW o q1 q2 q3 q4 q5 q6 qt cI cJ S1 S2 S3 S4 S5 S6 T sv) ++ ouW oa cJ f)) (z := []) (wc := moW qm cI cJ M) (wc' := moW qm cI cJ (o_setI M 2 0)) (w' := (((poW o q1 q2 q3 q4 q5 q6 qt cI cJ S1 S2 S3 S4 S5 S6 T sv) ++ ouW oa cJ f) ++ moW qm cI cJ (o_setI M 2 0))) (va_runV (As := []) (rest := []) ⟨hx, hb, hml, hown, hts⟩ (c_X5_honesty l D qm cI cJ M n hw7 hn6 _) (cwV 0 hts gL_law_X5_honesty rfl rfl rfl (by decide +kernel) ⟨Nat.le_of_ble_eq_true rfl, Nat.le_of_ble_eq_true rfl⟩) ⟨kB_blind, va_recv hK hP (ci := 5) (q0 := 95) rfl rfl, k_pre (a := ((poW o q1 q2 q3 q4 q5 q6 qt cI cJ S1 S2 S3 S4 S5 S6 T sv) ++ ouW oa cJ f)) (z := []) (k_n0 _ _) hK hP hD⟩ rfl rfl hl.1 rfl (lv_room (Nat.le_of_ble_eq_true rfl)) dL_law_1374 ⟨Nat.le_of_succ_le hkc, Nat.le_trans (Nat.le_add_right _ 6) hks⟩) (k_n0 _ _) (k_n0 _ _) (moW_ad _ _ _ _ _) hP hD hS hA (fun H locs hP hD hS => ?_)
  rw [← hM'] at hP hD
  rw [← hans]
  refine lv_dstore (lv' := [(7, .double (c_hon S2 n)), (5, .double (c_hon S2 n)), (0, .ref b), (1, .ref o), (2, .ref (qm 0)), (3, .ref oa), (4, .int (nI i))]) hx hb dL_law_1377 hl (by decide) rfl (fun ls hl => ?_)
  refine lv_dload hx hb dL_law_1379 (lv_at hl 1 rfl) ?_
  refine lv_dload hx hb dL_law_1381 (lv_at hl 0 rfl) ?_
  refine lv_dcmp hx hb dL_law_1383 ?_
  refine lv_if_eq (tgt := 1405) hx hb dL_law_1384 (by decide) (fun _ => ?_) (fun c_d => ?_)
  · skip
    refine lv_goto (tgt := 1548) hx hb dL_law_1405 (by decide) ?_
    refine W.widen (k := kc + 1) (n := ks + 6) (Nat.le_add_right _ _) (Nat.le_add_right _ _) ?_
    exact K S1 S2 S3 S4 S5 S6 T sv f M' hR' _ _ _ hP hD hS (lv_sub hl [2, 3, 4, 5, 6] rfl)
  · skip
    refine lv_dload hx hb dL_law_1387 (lv_at hl 1 rfl) ?_
    refine lv_dload hx hb dL_law_1389 (lv_at hl 1 rfl) ?_
    refine lv_dcmp hx hb dL_law_1391 ?_
    refine lv_if_eq (tgt := 1403) hx hb dL_law_1392 (by decide) (fun c9 => absurd c9 c_d) (fun _ => ?_)
    refine lv_dload hx hb dL_law_1395 (lv_at hl 0 rfl) ?_
    refine lv_dload hx hb dL_law_1397 (lv_at hl 0 rfl) ?_
    refine lv_dcmp hx hb dL_law_1399 ?_
    refine lv_if_ne (tgt := 1405) hx hb dL_law_1400 (by decide) (fun _ => ?_) (fun c9 => absurd c9 c_d)
    refine lv_goto (tgt := 1548) hx hb dL_law_1405 (by decide) ?_
    refine W.widen (k := kc + 1) (n := ks + 6) (Nat.le_add_right _ _) (Nat.le_add_right _ _) ?_
    exact K S1 S2 S3 S4 S5 S6 T sv f M' hR' _ _ _ hP hD hS (lv_sub hl [2, 3, 4, 5, 6] rfl)

set_option maxHeartbeats 1000000 in
set_option maxRecDepth 100000 in
theorem lw_c22 {p : Program} {l : Launch} {e : Env} {s : State} {m : MethodId} {below : List Frame} {meth : Method} {c : Code} {b L : Nat} {xs : Nat → Int32} {D : va_G} {cI cJ : ClassId} (C0 : lw_C p l s m meth c b L xs D cI cJ) {o : Nat} {q1 q2 q3 q4 q5 q6 qt qm : Nat → Nat} {oa : Nat} {i : Nat} (hi : i + 2 < L) {kc ks : Nat} (hkc : kc + 1 ≤ 1160) (hks : ks + 6 ≤ 10503) (K : ∀ (S1 S2 S3 S4 S5 S6 : SS) (T : TS) (sv : Int32) (f : Nat → Int64) (M : MS), ROE S2 S3 S4 S5 S6 T sv M → ∀ (H : Heap) (locs : List Loc) (ls : Array Slot), va_P D vwCl (((poW o q1 q2 q3 q4 q5 q6 qt cI cJ S1 S2 S3 S4 S5 S6 T sv) ++ ouW oa cJ f) ++ moW qm cI cJ M) H → va_D (A0 s) (((poW o q1 q2 q3 q4 q5 q6 qt cI cJ S1 S2 S3 S4 S5 S6 T sv) ++ ouW oa cJ f) ++ moW qm cI cJ M) → va_S (A0 s) s.heap H locs → lv_has ls 9 [(0, .ref b), (1, .ref o), (2, .ref (qm 0)), (3, .ref oa), (4, .int (nI i))] → W p l e room_1 s m #[Value.ref b] below meth c H locs (kc + 1) (ks + 6) (lw_Z below #[Value.ref b] s) (F0 m 1548 ls [])) {S1 S2 S3 S4 S5 S6 : SS} {T : TS} {sv : Int32} {f : Nat → Int64} {M : MS} (hRO : ROE S2 S3 S4 S5 S6 T sv M) {H : Heap} {locs : List Loc} {ls : Array Slot} (hP : va_P D vwCl (((poW o q1 q2 q3 q4 q5 q6 qt cI cJ S1 S2 S3 S4 S5 S6 T sv) ++ ouW oa cJ f) ++ moW qm cI cJ M) H) (hD : va_D (A0 s) (((poW o q1 q2 q3 q4 q5 q6 qt cI cJ S1 S2 S3 S4 S5 S6 T sv) ++ ouW oa cJ f) ++ moW qm cI cJ M)) (hS : va_S (A0 s) s.heap H locs) (hl : lv_has ls 9 [(0, .ref b), (1, .ref o), (2, .ref (qm 0)), (3, .ref oa), (4, .int (nI i))]) : W p l e room_1 s m #[Value.ref b] below meth c H locs kc ks (lw_Z below #[Value.ref b] s) (F0 m 1408 ls []) := by
  obtain ⟨hx, hb, hr, hml, hown, hts, hX, hbl, hlk, hK, hTT, hN, hst, hL⟩ := C0
  have hA : ∀ q : Nat, s.heap.size ≤ q → A0 s q := fun _ h => h
  have hbA : ¬ A0 s b := Nat.not_le.mpr hbl
  obtain ⟨st, n, t, le, hR⟩ := hRO
  obtain ⟨⟨hsv, hst0, hst4⟩, ⟨hRS, ht⟩, -, -, hle, hle1, -⟩ := id hR
  obtain ⟨hok, hn6, hn, h4, hw7⟩ := RS_ok hRS
  obtain ⟨mm, hm12, hms, hmw⟩ := RS_lc hRS
  obtain ⟨x, hxe⟩ : ∃ x, x = xs (nI (i + 1)).toNatClampNeg := ⟨_, rfl⟩
  obtain ⟨M', hM'⟩ : ∃ M', M' = A_X5_append_s0 M le x := ⟨_, rfl⟩
  have hQ := q_append (S1 := S1) hR x
  obtain ⟨hk, S1', S2', S3', S4', S5', S6', T', sv', f', hW, hR', hB⟩ := Q3_n (W1 := ((poW o q1 q2 q3 q4 q5 q6 qt cI cJ S1 S2 S3 S4 S5 S6 (A_X4_append_s7 S1 S2 S3 S4 S5 S6 T sv x) sv) ++ ouW oa cJ (vp_updL f 0 (A_X4_append_r S1 S2 S3 S4 S5 S6 T sv x).toInt64))) (W0 := ((poW o q1 q2 q3 q4 q5 q6 qt cI cJ S1 S2 S3 S4 S5 S6 T sv) ++ ouW oa cJ f)) (P := lw_P9 o q1 q2 q3 q4 q5 q6 qt oa cI cJ (A_X5_append_s0 M le x) (k_code iae (A_X4_append_t S1 S2 S3 S4 S5 S6 T sv x)) ((A_X5_append_r M le x).toInt64)) hQ (by decide) (fun he h9 => ⟨_, _, _, _, _, _, _, _, _, rfl, h9, fun _ => by rw [pk_uLs, he]⟩) (fun h9 hn9 => ⟨_, _, _, _, _, _, _, _, _, rfl, h9, fun hz => absurd hz (k_code_n hn9)⟩)
  rw [← hM'] at hk hR'
  have hc := h_append l D o q1 q2 q3 q4 q5 q6 qt cI cJ S1 S2 S3 S4 S5 S6 T sv oa f x hst (Q3_t hQ)
  rw [hW] at hc
  obtain ⟨k9, hk9⟩ : ∃ k9, k9 = k_code iae (A_X4_append_t S1 S2 S3 S4 S5 S6 T sv x) := ⟨_, rfl⟩
  rw [← hk9] at hk hB hc
  refine lv_aload_n hx hb dL_law_1408 rfl (lv_at hl 1 rfl) ?_
  refine lv_aload_n hx hb dL_law_1409 rfl (lv_at hl 0 rfl) ?_
  refine lv_iload hx hb dL_law_1410 (lv_at hl 4 rfl) ?_
  refine lv_iconst (v := 1) hx hb dL_law_1412 (by decide) ?_
  refine lv_iadd hx hb dL_law_1413 ?_
  rw [show nI i + 1 = nI (i + 1) from nI_add i 1]
  refine va_sld hx hb hX hbl hbA hS (vp_in_nI (by omega) (by omega)) dL_law_1414 ?_
  rw [← hxe]
  refine lv_aload_n hx hb dL_law_1415 rfl (lv_at hl 3 rfl) ?_
  refine k_callH (a := []) (z := moW qm cI cJ M) (wc := ((poW o q1 q2 q3 q4 q5 q6 qt cI cJ S1 S2 S3 S4 S5 S6 T sv) ++ ouW oa cJ f)) (wc' := ((poW o q1 q2 q3 q4 q5 q6 qt cI cJ S1' S2' S3' S4' S5' S6' T' sv') ++ ouW oa cJ f')) (w' := (((poW o q1 q2 q3 q4 q5 q6 qt cI cJ S1' S2' S3' S4' S5' S6' T' sv') ++ ouW oa cJ f') ++ moW qm cI cJ M)) (vx_runSW (As := [.ref o, .int x, .ref oa]) (rest := []) ⟨hx, hb, hml, hown, hts⟩ (hc _) (vx_cwSW 3 hts gL_law_L_append rfl rfl rfl (by decide +kernel) ⟨Nat.le_of_ble_eq_true rfl, Nat.le_of_ble_eq_true rfl⟩) ⟨kBH_blind, k_preH (a := []) (z := moW qm cI cJ M) rfl hK hP hD hS hA hTT hN⟩ rfl rfl hl.1 rfl (lv_room (Nat.le_of_ble_eq_true rfl)) dL_law_1416 ⟨hkc, hks⟩) rfl rfl (k_ad2 (poW_ad _ _ _ _ _ _ _ _ _ _ _ _ _ _ _ _ _ _ _ _ _ _ _ _ _ _) rfl) hP hD hS hA (fun H locs hP hD hS => ?_)
  refine lv_istore (lv' := [(5, .int k9), (0, .ref b), (1, .ref o), (2, .ref (qm 0)), (3, .ref oa), (4, .int (nI i))]) hx hb dL_law_1419 hl (by decide) rfl (fun ls hl => ?_)
  refine lv_aload_n hx hb dL_law_1421 rfl (lv_at hl 3 rfl) ?_
  refine lv_aload_n hx hb dL_law_1422 rfl (lv_at hl 1 rfl) ?_
  refine lv_iload hx hb dL_law_1423 (lv_at hl 5 rfl) ?_
  refine lv_iconst (v := 1) hx hb dL_law_1425 (by decide) ?_
  refine lv_iadd hx hb dL_law_1426 ?_
  rw [show nI i + 1 = nI (i + 1) from nI_add i 1]
  refine va_sld hx hb hX hbl hbA hS (vp_in_nI (by omega) (by omega)) dL_law_1427 ?_
  rw [← hxe]
  refine k_calli (a := ((poW o q1 q2 q3 q4 q5 q6 qt cI cJ S1' S2' S3' S4' S5' S6' T' sv') ++ ouW oa cJ f')) (z := []) (wc := moW qm cI cJ M) (wc' := moW qm cI cJ (A_X5_append_s0 M le x)) (w' := (((poW o q1 q2 q3 q4 q5 q6 qt cI cJ S1' S2' S3' S4' S5' S6' T' sv') ++ ouW oa cJ f') ++ moW qm cI cJ (A_X5_append_s0 M le x))) (va_runV (As := [.int x]) (rest := []) ⟨hx, hb, hml, hown, hts⟩ (c_X5_append l D qm cI cJ M x le hle hle1 _) (cwV 1 hts gL_law_X5_append rfl rfl rfl (by decide +kernel) ⟨Nat.le_of_ble_eq_true rfl, Nat.le_of_ble_eq_true rfl⟩) ⟨kB_blind, va_recv hK hP (ci := 5) (q0 := 95) rfl rfl, k_pre (a := ((poW o q1 q2 q3 q4 q5 q6 qt cI cJ S1' S2' S3' S4' S5' S6' T' sv') ++ ouW oa cJ f')) (z := []) (k_n0 _ _) hK hP hD⟩ rfl rfl hl.1 rfl (lv_room (Nat.le_of_ble_eq_true rfl)) dL_law_1428 ⟨hkc, hks⟩) (k_n0 _ _) (k_n0 _ _) (moW_ad _ _ _ _ _) hP hD hS hA (fun H locs hP hD hS => ?_)
  rw [← hM'] at hP hD
  refine lv_istore (lv' := [(6, .int (A_X5_append_r M le x)), (5, .int k9), (0, .ref b), (1, .ref o), (2, .ref (qm 0)), (3, .ref oa), (4, .int (nI i))]) hx hb dL_law_1431 hl (by decide) rfl (fun ls hl => ?_)
  refine lv_aload_n hx hb dL_law_1433 rfl (lv_at hl 4 rfl) ?_
  refine k_calli (a := ((poW o q1 q2 q3 q4 q5 q6 qt cI cJ S1' S2' S3' S4' S5' S6' T' sv') ++ ouW oa cJ f')) (z := []) (wc := moW qm cI cJ M') (wc' := moW qm cI cJ M') (w' := (((poW o q1 q2 q3 q4 q5 q6 qt cI cJ S1' S2' S3' S4' S5' S6' T' sv') ++ ouW oa cJ f') ++ moW qm cI cJ M')) (va_runV (As := []) (rest := []) ⟨hx, hb, hml, hown, hts⟩ (c_X5_thrown l D qm cI cJ M' _) (cwV 0 hts gL_law_X5_thrown rfl rfl rfl (by decide +kernel) ⟨Nat.le_of_ble_eq_true rfl, Nat.le_of_ble_eq_true rfl⟩) ⟨kB_blind, va_recv hK hP (ci := 5) (q0 := 95) rfl rfl, k_pre (a := ((poW o q1 q2 q3 q4 q5 q6 qt cI cJ S1' S2' S3' S4' S5' S6' T' sv') ++ ouW oa cJ f')) (z := []) (k_n0 _ _) hK hP hD⟩ rfl rfl hl.1 rfl (lv_room (Nat.le_of_ble_eq_true rfl)) dL_law_1434 ⟨hkc, hks⟩) (k_n0 _ _) (k_n0 _ _) (moW_ad _ _ _ _ _) hP hD hS hA (fun H locs hP hD hS => ?_)
  refine lv_iload hx hb dL_law_1437 (lv_at hl 1 rfl) ?_
  refine lv_icmp_eq (tgt := 1444) hx hb dL_law_1439 (by decide) (fun _ => ?_) (fun c9 => absurd hk c9)
  refine lv_iload hx hb dL_law_1444 (lv_at hl 1 rfl) ?_
  refine lv_if_ne (tgt := 1461) hx hb dL_law_1446 (by decide) (fun c_k => ?_) (fun c_k => ?_)
  · skip
    refine lv_goto (tgt := 1548) hx hb dL_law_1461 (by decide) ?_
    exact K S1' S2' S3' S4' S5' S6' T' sv' f' M' hR' _ _ _ hP hD hS (lv_sub hl [2, 3, 4, 5, 6] rfl)
  · have c_k : k9 = 0 := by first | exact c_k | exact Classical.not_not.mp c_k
    refine lv_aload_n hx hb dL_law_1449 rfl (lv_at hl 5 rfl) ?_
    refine lv_iconst (v := 0) hx hb dL_law_1450 (by decide) ?_
    refine va_lald (f := f') hx hb hK hP 94 1 rfl rfl (k_in (k := 0) rfl (by decide) (by decide)) dL_law_1451 ?_
    rw [show (0 : Int32).toNatClampNeg = 0 from rfl, hB c_k]
    refine lv_iload hx hb dL_law_1452 (lv_at hl 0 rfl) ?_
    refine lv_i2l hx hb dL_law_1454 rfl ?_
    refine W.lcmp hx hb dL_law_1455 ?_
    refine lv_if_eq (tgt := 1461) hx hb dL_law_1456 (by decide) (fun _ => ?_) (fun c9 => absurd ((lg_cmp_eq _ _).mpr rfl) c9)
    refine lv_goto (tgt := 1548) hx hb dL_law_1461 (by decide) ?_
    exact K S1' S2' S3' S4' S5' S6' T' sv' f' M' hR' _ _ _ hP hD hS (lv_sub hl [2, 3, 4, 5, 6] rfl)

set_option maxHeartbeats 1000000 in
set_option maxRecDepth 100000 in
theorem lw_c23 {p : Program} {l : Launch} {e : Env} {s : State} {m : MethodId} {below : List Frame} {meth : Method} {c : Code} {b L : Nat} {xs : Nat → Int32} {D : va_G} {cI cJ : ClassId} (C0 : lw_C p l s m meth c b L xs D cI cJ) {o : Nat} {q1 q2 q3 q4 q5 q6 qt qm : Nat → Nat} {oa : Nat} {i : Nat} (hi : i + 2 < L) {kc ks : Nat} (hkc : kc + 1 ≤ 1160) (hks : ks + 6 ≤ 10503) (K : ∀ (S1 S2 S3 S4 S5 S6 : SS) (T : TS) (sv : Int32) (f : Nat → Int64) (M : MS), ROE S2 S3 S4 S5 S6 T sv M → ∀ (H : Heap) (locs : List Loc) (ls : Array Slot), va_P D vwCl (((poW o q1 q2 q3 q4 q5 q6 qt cI cJ S1 S2 S3 S4 S5 S6 T sv) ++ ouW oa cJ f) ++ moW qm cI cJ M) H → va_D (A0 s) (((poW o q1 q2 q3 q4 q5 q6 qt cI cJ S1 S2 S3 S4 S5 S6 T sv) ++ ouW oa cJ f) ++ moW qm cI cJ M) → va_S (A0 s) s.heap H locs → lv_has ls 9 [(0, .ref b), (1, .ref o), (2, .ref (qm 0)), (3, .ref oa), (4, .int (nI i))] → W p l e room_1 s m #[Value.ref b] below meth c H locs (kc + 1) (ks + 6) (lw_Z below #[Value.ref b] s) (F0 m 1548 ls [])) {S1 S2 S3 S4 S5 S6 : SS} {T : TS} {sv : Int32} {f : Nat → Int64} {M : MS} (hRO : ROE S2 S3 S4 S5 S6 T sv M) {H : Heap} {locs : List Loc} {ls : Array Slot} (hP : va_P D vwCl (((poW o q1 q2 q3 q4 q5 q6 qt cI cJ S1 S2 S3 S4 S5 S6 T sv) ++ ouW oa cJ f) ++ moW qm cI cJ M) H) (hD : va_D (A0 s) (((poW o q1 q2 q3 q4 q5 q6 qt cI cJ S1 S2 S3 S4 S5 S6 T sv) ++ ouW oa cJ f) ++ moW qm cI cJ M)) (hS : va_S (A0 s) s.heap H locs) (hl : lv_has ls 9 [(0, .ref b), (1, .ref o), (2, .ref (qm 0)), (3, .ref oa), (4, .int (nI i))]) : W p l e room_1 s m #[Value.ref b] below meth c H locs kc ks (lw_Z below #[Value.ref b] s) (F0 m 1464 ls []) := by
  obtain ⟨hx, hb, hr, hml, hown, hts, hX, hbl, hlk, hK, hTT, hN, hst, hL⟩ := C0
  have hA : ∀ q : Nat, s.heap.size ≤ q → A0 s q := fun _ h => h
  have hbA : ¬ A0 s b := Nat.not_le.mpr hbl
  obtain ⟨st, n, t, le, hR⟩ := hRO
  obtain ⟨⟨hsv, hst0, hst4⟩, ⟨hRS, ht⟩, -, -, hle, hle1, -⟩ := id hR
  obtain ⟨hok, hn6, hn, h4, hw7⟩ := RS_ok hRS
  obtain ⟨mm, hm12, hms, hmw⟩ := RS_lc hRS
  obtain ⟨M', hM'⟩ : ∃ M', M' = A_X5_clearText_s0 M := ⟨_, rfl⟩
  obtain ⟨hans, hR'⟩ := q_clearText hR
  rw [← hM'] at hR'
  refine lv_aload_n hx hb dL_law_1464 rfl (lv_at hl 1 rfl) ?_
  refine k_calli (a := []) (z := ouW oa cJ f ++ moW qm cI cJ M) (wc := (poW o q1 q2 q3 q4 q5 q6 qt cI cJ S1 S2 S3 S4 S5 S6 T sv)) (wc' := (poW o q1 q2 q3 q4 q5 q6 qt cI cJ S1 S2 S3 S4 S5 S6 (t_setI T 0 0) sv)) (w' := (((poW o q1 q2 q3 q4 q5 q6 qt cI cJ S1 S2 S3 S4 S5 S6 (t_setI T 0 0) sv) ++ ouW oa cJ f) ++ moW qm cI cJ M)) (va_runV (As := []) (rest := []) ⟨hx, hb, hml, hown, hts⟩ (c_X4_clearText l D o q1 q2 q3 q4 q5 q6 qt cI cJ S1 S2 S3 S4 S5 S6 T sv _) (cwV 0 hts gL_law_X4_clearText rfl rfl rfl (by decide +kernel) ⟨Nat.le_of_ble_eq_true rfl, Nat.le_of_ble_eq_true rfl⟩) ⟨kB_blind, va_recv hK hP (ci := 4) (q0 := 0) rfl rfl, k_pre (a := []) (z := ouW oa cJ f ++ moW qm cI cJ M) (k_as _ _ _) hK hP hD⟩ rfl rfl hl.1 rfl (lv_room (Nat.le_of_ble_eq_true rfl)) dL_law_1465 ⟨Nat.le_of_succ_le hkc, Nat.le_trans (Nat.le_add_right _ 6) hks⟩) (k_as _ _ _) (k_as _ _ _) (poW_ad _ _ _ _ _ _ _ _ _ _ _ _ _ _ _ _ _ _ _ _ _ _ _ _ _ _) hP hD hS hA (fun H locs hP hD hS => ?_)
  refine lv_aload_n hx hb dL_law_1468 rfl (lv_at hl 2 rfl) ?_
  refine k_calli (a := ((poW o q1 q2 q3 q4 q5 q6 qt cI cJ S1 S2 S3 S4 S5 S6 (t_setI T 0 0) sv) ++ ouW oa cJ f)) (z := []) (wc := moW qm cI cJ M) (wc' := moW qm cI cJ (A_X5_clearText_s0 M)) (w' := (((poW o q1 q2 q3 q4 q5 q6 qt cI cJ S1 S2 S3 S4 S5 S6 (t_setI T 0 0) sv) ++ ouW oa cJ f) ++ moW qm cI cJ (A_X5_clearText_s0 M))) (va_runV (As := []) (rest := [.int (T.1 0)]) ⟨hx, hb, hml, hown, hts⟩ (c_X5_clearText l D qm cI cJ M _) (cwV 0 hts gL_law_X5_clearText rfl rfl rfl (by decide +kernel) ⟨Nat.le_of_ble_eq_true rfl, Nat.le_of_ble_eq_true rfl⟩) ⟨kB_blind, va_recv hK hP (ci := 5) (q0 := 95) rfl rfl, k_pre (a := ((poW o q1 q2 q3 q4 q5 q6 qt cI cJ S1 S2 S3 S4 S5 S6 (t_setI T 0 0) sv) ++ ouW oa cJ f)) (z := []) (k_n0 _ _) hK hP hD⟩ rfl rfl hl.1 rfl (lv_room (Nat.le_of_ble_eq_true rfl)) dL_law_1469 ⟨Nat.le_of_succ_le hkc, Nat.le_trans (Nat.le_add_right _ 6) hks⟩) (k_n0 _ _) (k_n0 _ _) (moW_ad _ _ _ _ _) hP hD hS hA (fun H locs hP hD hS => ?_)
  rw [← hM'] at hP hD
  refine lv_icmp_eq (tgt := 1548) hx hb dL_law_1472 (by decide) (fun _ => ?_) (fun c9 => absurd hans c9)
  refine W.widen (k := kc + 1) (n := ks + 6) (Nat.le_add_right _ _) (Nat.le_add_right _ _) ?_
  exact K S1 S2 S3 S4 S5 S6 (t_setI T 0 0) sv f M' hR' _ _ _ hP hD hS (lv_sub hl [0, 1, 2, 3, 4] rfl)
