set_option maxHeartbeats 1000000 in
set_option maxRecDepth 100000 in
theorem lw_c16 {p : Program} {l : Launch} {e : Env} {s : State} {m : MethodId} {below : List Frame} {meth : Method} {c : Code} {b L : Nat} {xs : Nat → Int32} {D : va_G} {cI cJ : ClassId} (C0 : lw_C p l s m meth c b L xs D cI cJ) {o : Nat} {q1 q2 q3 q4 q5 q6 qt qm : Nat → Nat} {oa : Nat} {i : Nat} (hi : i + 2 < L) {kc ks : Nat} (hkc : kc + 1 ≤ 1160) (hks : ks + 6 ≤ 10503) (K : ∀ (S1 S2 S3 S4 S5 S6 : SS) (T : TS) (sv : Int32) (f : Nat → Int64) (M : MS), ROE S2 S3 S4 S5 S6 T sv M → ∀ (H : Heap) (locs : List Loc) (ls : Array Slot), va_P D vwCl (((poW o q1 q2 q3 q4 q5 q6 qt cI cJ S1 S2 S3 S4 S5 S6 T sv) ++ ouW oa cJ f) ++ moW qm cI cJ M) H → va_D (A0 s) (((poW o q1 q2 q3 q4 q5 q6 qt cI cJ S1 S2 S3 S4 S5 S6 T sv) ++ ouW oa cJ f) ++ moW qm cI cJ M) → va_S (A0 s) s.heap H locs → lv_has ls 9 [(0, .ref b), (1, .ref o), (2, .ref (qm 0)), (3, .ref oa), (4, .int (nI i))] → W p l e room_1 s m #[Value.ref b] below meth c H locs (kc + 1) (ks + 6) (lw_Z below #[Value.ref b] s) (F0 m 1548 ls [])) {S1 S2 S3 S4 S5 S6 : SS} {T : TS} {sv : Int32} {f : Nat → Int64} {M : MS} (hRO : ROE S2 S3 S4 S5 S6 T sv M) {H : Heap} {locs : List Loc} {ls : Array Slot} (hP : va_P D vwCl (((poW o q1 q2 q3 q4 q5 q6 qt cI cJ S1 S2 S3 S4 S5 S6 T sv) ++ ouW oa cJ f) ++ moW qm cI cJ M) H) (hD : va_D (A0 s) (((poW o q1 q2 q3 q4 q5 q6 qt cI cJ S1 S2 S3 S4 S5 S6 T sv) ++ ouW oa cJ f) ++ moW qm cI cJ M)) (hS : va_S (A0 s) s.heap H locs) (hl : lv_has ls 9 [(0, .ref b), (1, .ref o), (2, .ref (qm 0)), (3, .ref oa), (4, .int (nI i))]) : W p l e room_1 s m #[Value.ref b] below meth c H locs kc ks (lw_Z below #[Value.ref b] s) (F0 m 1161 ls []) := by
  obtain ⟨hx, hb, hr, hml, hown, hts, hX, hbl, hlk, hK, hTT, hN, hst, hL⟩ := C0
  have hA : ∀ q : Nat, s.heap.size ≤ q → A0 s q := fun _ h => h
  have hbA : ¬ A0 s b := Nat.not_le.mpr hbl
  obtain ⟨st, n, t, le, hR⟩ := hRO
  obtain ⟨⟨hsv, hst0, hst4⟩, ⟨hRS, ht⟩, -, -, hle, hle1, -⟩ := id hR
  obtain ⟨hok, hn6, hn, h4, hw7⟩ := RS_ok hRS
  obtain ⟨mm, hm12, hms, hmw⟩ := RS_lc hRS
  obtain ⟨x, hxe⟩ : ∃ x, x = xs (nI (i + 1)).toNatClampNeg := ⟨_, rfl⟩
  obtain ⟨M', hM'⟩ : ∃ M', M' = A_X5_levelIn_s0 M n t x := ⟨_, rfl⟩
  have hQ := q_levelIn (S1 := S1) hR x
  obtain ⟨hk, S1', S2', S3', S4', S5', S6', T', sv', f', hW, hR', hB⟩ := Q2_n (W1 := ((poW o q1 q2 q3 q4 q5 q6 qt cI cJ (A_X4_levelIn_s1 S1 S2 S3 S4 S5 S6 T sv n x) S2 S3 S4 S5 S6 T sv) ++ ouW oa cJ (vp_updL f 0 (A_X4_levelIn_r S1 S2 S3 S4 S5 S6 T sv n x).toInt64))) (W0 := ((poW o q1 q2 q3 q4 q5 q6 qt cI cJ S1 S2 S3 S4 S5 S6 T sv) ++ ouW oa cJ f)) (P := lw_P9 o q1 q2 q3 q4 q5 q6 qt oa cI cJ (A_X5_levelIn_s0 M n t x) (k_code iae (A_X4_levelIn_t S1 S2 S3 S4 S5 S6 T sv n x)) ((A_X5_levelIn_r M n t x).toInt64)) hQ (fun he h9 => ⟨_, _, _, _, _, _, _, _, _, rfl, h9, fun _ => by rw [pk_uLs, he]⟩) (fun h9 hn9 => ⟨_, _, _, _, _, _, _, _, _, rfl, h9, fun hz => absurd hz (k_code_n hn9)⟩)
  rw [← hM'] at hk hR'
  have hc := h_levelIn l D o q1 q2 q3 q4 q5 q6 qt cI cJ S1 S2 S3 S4 S5 S6 T sv oa f x n hn hn6 hst (Q2_t hQ)
  rw [hW] at hc
  obtain ⟨k9, hk9⟩ : ∃ k9, k9 = k_code iae (A_X4_levelIn_t S1 S2 S3 S4 S5 S6 T sv n x) := ⟨_, rfl⟩
  rw [← hk9] at hk hB hc
  refine lv_aload_n hx hb dL_law_1161 rfl (lv_at hl 1 rfl) ?_
  refine lv_aload_n hx hb dL_law_1162 rfl (lv_at hl 0 rfl) ?_
  refine lv_iload hx hb dL_law_1163 (lv_at hl 4 rfl) ?_
  refine lv_iconst (v := 1) hx hb dL_law_1165 (by decide) ?_
  refine lv_iadd hx hb dL_law_1166 ?_
  rw [show nI i + 1 = nI (i + 1) from nI_add i 1]
  refine va_sld hx hb hX hbl hbA hS (vp_in_nI (by omega) (by omega)) dL_law_1167 ?_
  rw [← hxe]
  refine lv_aload_n hx hb dL_law_1168 rfl (lv_at hl 3 rfl) ?_
  refine k_callH (a := []) (z := moW qm cI cJ M) (wc := ((poW o q1 q2 q3 q4 q5 q6 qt cI cJ S1 S2 S3 S4 S5 S6 T sv) ++ ouW oa cJ f)) (wc' := ((poW o q1 q2 q3 q4 q5 q6 qt cI cJ S1' S2' S3' S4' S5' S6' T' sv') ++ ouW oa cJ f')) (w' := (((poW o q1 q2 q3 q4 q5 q6 qt cI cJ S1' S2' S3' S4' S5' S6' T' sv') ++ ouW oa cJ f') ++ moW qm cI cJ M)) (vx_runSW (As := [.ref o, .int x, .ref oa]) (rest := []) ⟨hx, hb, hml, hown, hts⟩ (hc _) (vx_cwSW 3 hts gL_law_L_levelIn rfl rfl rfl (by decide +kernel) ⟨Nat.le_of_ble_eq_true rfl, Nat.le_of_ble_eq_true rfl⟩) ⟨kBH_blind, k_preH (a := []) (z := moW qm cI cJ M) rfl hK hP hD hS hA hTT hN⟩ rfl rfl hl.1 rfl (lv_room (Nat.le_of_ble_eq_true rfl)) dL_law_1169 ⟨hkc, hks⟩) rfl rfl (k_ad2 (poW_ad _ _ _ _ _ _ _ _ _ _ _ _ _ _ _ _ _ _ _ _ _ _ _ _ _ _) rfl) hP hD hS hA (fun H locs hP hD hS => ?_)
  refine lv_istore (lv' := [(5, .int k9), (0, .ref b), (1, .ref o), (2, .ref (qm 0)), (3, .ref oa), (4, .int (nI i))]) hx hb dL_law_1172 hl (by decide) rfl (fun ls hl => ?_)
  refine lv_aload_n hx hb dL_law_1174 rfl (lv_at hl 3 rfl) ?_
  refine lv_aload_n hx hb dL_law_1175 rfl (lv_at hl 1 rfl) ?_
  refine lv_iload hx hb dL_law_1176 (lv_at hl 5 rfl) ?_
  refine lv_iconst (v := 1) hx hb dL_law_1178 (by decide) ?_
  refine lv_iadd hx hb dL_law_1179 ?_
  rw [show nI i + 1 = nI (i + 1) from nI_add i 1]
  refine va_sld hx hb hX hbl hbA hS (vp_in_nI (by omega) (by omega)) dL_law_1180 ?_
  rw [← hxe]
  refine k_calli (a := ((poW o q1 q2 q3 q4 q5 q6 qt cI cJ S1' S2' S3' S4' S5' S6' T' sv') ++ ouW oa cJ f')) (z := []) (wc := moW qm cI cJ M) (wc' := moW qm cI cJ (A_X5_levelIn_s0 M n t x)) (w' := (((poW o q1 q2 q3 q4 q5 q6 qt cI cJ S1' S2' S3' S4' S5' S6' T' sv') ++ ouW oa cJ f') ++ moW qm cI cJ (A_X5_levelIn_s0 M n t x))) (va_runV (As := [.int x]) (rest := []) ⟨hx, hb, hml, hown, hts⟩ (c_X5_levelIn l D qm cI cJ M x n t hok hn6 (by omega) _) (cwV 1 hts gL_law_X5_levelIn rfl rfl rfl (by decide +kernel) ⟨Nat.le_of_ble_eq_true rfl, Nat.le_of_ble_eq_true rfl⟩) ⟨kB_blind, va_recv hK hP (ci := 5) (q0 := 95) rfl rfl, k_pre (a := ((poW o q1 q2 q3 q4 q5 q6 qt cI cJ S1' S2' S3' S4' S5' S6' T' sv') ++ ouW oa cJ f')) (z := []) (k_n0 _ _) hK hP hD⟩ rfl rfl hl.1 rfl (lv_room (Nat.le_of_ble_eq_true rfl)) dL_law_1181 ⟨hkc, hks⟩) (k_n0 _ _) (k_n0 _ _) (moW_ad _ _ _ _ _) hP hD hS hA (fun H locs hP hD hS => ?_)
  rw [← hM'] at hP hD
  refine lv_istore (lv' := [(6, .int (A_X5_levelIn_r M n t x)), (5, .int k9), (0, .ref b), (1, .ref o), (2, .ref (qm 0)), (3, .ref oa), (4, .int (nI i))]) hx hb dL_law_1184 hl (by decide) rfl (fun ls hl => ?_)
  refine lv_aload_n hx hb dL_law_1186 rfl (lv_at hl 4 rfl) ?_
  refine k_calli (a := ((poW o q1 q2 q3 q4 q5 q6 qt cI cJ S1' S2' S3' S4' S5' S6' T' sv') ++ ouW oa cJ f')) (z := []) (wc := moW qm cI cJ M') (wc' := moW qm cI cJ M') (w' := (((poW o q1 q2 q3 q4 q5 q6 qt cI cJ S1' S2' S3' S4' S5' S6' T' sv') ++ ouW oa cJ f') ++ moW qm cI cJ M')) (va_runV (As := []) (rest := []) ⟨hx, hb, hml, hown, hts⟩ (c_X5_thrown l D qm cI cJ M' _) (cwV 0 hts gL_law_X5_thrown rfl rfl rfl (by decide +kernel) ⟨Nat.le_of_ble_eq_true rfl, Nat.le_of_ble_eq_true rfl⟩) ⟨kB_blind, va_recv hK hP (ci := 5) (q0 := 95) rfl rfl, k_pre (a := ((poW o q1 q2 q3 q4 q5 q6 qt cI cJ S1' S2' S3' S4' S5' S6' T' sv') ++ ouW oa cJ f')) (z := []) (k_n0 _ _) hK hP hD⟩ rfl rfl hl.1 rfl (lv_room (Nat.le_of_ble_eq_true rfl)) dL_law_1187 ⟨hkc, hks⟩) (k_n0 _ _) (k_n0 _ _) (moW_ad _ _ _ _ _) hP hD hS hA (fun H locs hP hD hS => ?_)
  refine lv_iload hx hb dL_law_1190 (lv_at hl 1 rfl) ?_
  refine lv_icmp_eq (tgt := 1197) hx hb dL_law_1192 (by decide) (fun _ => ?_) (fun c9 => absurd hk c9)
  refine lv_iload hx hb dL_law_1197 (lv_at hl 1 rfl) ?_
  refine lv_if_ne (tgt := 1214) hx hb dL_law_1199 (by decide) (fun c_k => ?_) (fun c_k => ?_)
  · skip
    refine lv_goto (tgt := 1548) hx hb dL_law_1214 (by decide) ?_
    exact K S1' S2' S3' S4' S5' S6' T' sv' f' M' hR' _ _ _ hP hD hS (lv_sub hl [2, 3, 4, 5, 6] rfl)
  · have c_k : k9 = 0 := by first | exact c_k | exact Classical.not_not.mp c_k
    refine lv_aload_n hx hb dL_law_1202 rfl (lv_at hl 5 rfl) ?_
    refine lv_iconst (v := 0) hx hb dL_law_1203 (by decide) ?_
    refine va_lald (f := f') hx hb hK hP 94 1 rfl rfl (k_in (k := 0) rfl (by decide) (by decide)) dL_law_1204 ?_
    rw [show (0 : Int32).toNatClampNeg = 0 from rfl, hB c_k]
    refine lv_iload hx hb dL_law_1205 (lv_at hl 0 rfl) ?_
    refine lv_i2l hx hb dL_law_1207 rfl ?_
    refine W.lcmp hx hb dL_law_1208 ?_
    refine lv_if_eq (tgt := 1214) hx hb dL_law_1209 (by decide) (fun _ => ?_) (fun c9 => absurd ((lg_cmp_eq _ _).mpr rfl) c9)
    refine lv_goto (tgt := 1548) hx hb dL_law_1214 (by decide) ?_
    exact K S1' S2' S3' S4' S5' S6' T' sv' f' M' hR' _ _ _ hP hD hS (lv_sub hl [2, 3, 4, 5, 6] rfl)

set_option maxHeartbeats 1000000 in
set_option maxRecDepth 100000 in
theorem lw_c17 {p : Program} {l : Launch} {e : Env} {s : State} {m : MethodId} {below : List Frame} {meth : Method} {c : Code} {b L : Nat} {xs : Nat → Int32} {D : va_G} {cI cJ : ClassId} (C0 : lw_C p l s m meth c b L xs D cI cJ) {o : Nat} {q1 q2 q3 q4 q5 q6 qt qm : Nat → Nat} {oa : Nat} {i : Nat} (hi : i + 2 < L) {kc ks : Nat} (hkc : kc + 1 ≤ 1160) (hks : ks + 6 ≤ 10503) (K : ∀ (S1 S2 S3 S4 S5 S6 : SS) (T : TS) (sv : Int32) (f : Nat → Int64) (M : MS), ROE S2 S3 S4 S5 S6 T sv M → ∀ (H : Heap) (locs : List Loc) (ls : Array Slot), va_P D vwCl (((poW o q1 q2 q3 q4 q5 q6 qt cI cJ S1 S2 S3 S4 S5 S6 T sv) ++ ouW oa cJ f) ++ moW qm cI cJ M) H → va_D (A0 s) (((poW o q1 q2 q3 q4 q5 q6 qt cI cJ S1 S2 S3 S4 S5 S6 T sv) ++ ouW oa cJ f) ++ moW qm cI cJ M) → va_S (A0 s) s.heap H locs → lv_has ls 9 [(0, .ref b), (1, .ref o), (2, .ref (qm 0)), (3, .ref oa), (4, .int (nI i))] → W p l e room_1 s m #[Value.ref b] below meth c H locs (kc + 1) (ks + 6) (lw_Z below #[Value.ref b] s) (F0 m 1548 ls [])) {S1 S2 S3 S4 S5 S6 : SS} {T : TS} {sv : Int32} {f : Nat → Int64} {M : MS} (hRO : ROE S2 S3 S4 S5 S6 T sv M) {H : Heap} {locs : List Loc} {ls : Array Slot} (hP : va_P D vwCl (((poW o q1 q2 q3 q4 q5 q6 qt cI cJ S1 S2 S3 S4 S5 S6 T sv) ++ ouW oa cJ f) ++ moW qm cI cJ M) H) (hD : va_D (A0 s) (((poW o q1 q2 q3 q4 q5 q6 qt cI cJ S1 S2 S3 S4 S5 S6 T sv) ++ ouW oa cJ f) ++ moW qm cI cJ M)) (hS : va_S (A0 s) s.heap H locs) (hl : lv_has ls 9 [(0, .ref b), (1, .ref o), (2, .ref (qm 0)), (3, .ref oa), (4, .int (nI i))]) : W p l e room_1 s m #[Value.ref b] below meth c H locs kc ks (lw_Z below #[Value.ref b] s) (F0 m 1217 ls []) := by
  obtain ⟨hx, hb, hr, hml, hown, hts, hX, hbl, hlk, hK, hTT, hN, hst, hL⟩ := C0
  have hA : ∀ q : Nat, s.heap.size ≤ q → A0 s q := fun _ h => h
  have hbA : ¬ A0 s b := Nat.not_le.mpr hbl
  obtain ⟨st, n, t, le, hR⟩ := hRO
  obtain ⟨⟨hsv, hst0, hst4⟩, ⟨hRS, ht⟩, -, -, hle, hle1, -⟩ := id hR
  obtain ⟨hok, hn6, hn, h4, hw7⟩ := RS_ok hRS
  obtain ⟨mm, hm12, hms, hmw⟩ := RS_lc hRS
  obtain ⟨x, hxe⟩ : ∃ x, x = xs (nI (i + 1)).toNatClampNeg := ⟨_, rfl⟩
  obtain ⟨y, hye⟩ : ∃ y, y = xs (nI (i + 2)).toNatClampNeg := ⟨_, rfl⟩
  obtain ⟨M', hM'⟩ : ∃ M', M' = A_X5_startsIn_s0 M n t x y := ⟨_, rfl⟩
  have hQ := q_startsIn (S1 := S1) hR x y
  obtain ⟨hk, S1', S2', S3', S4', S5', S6', T', sv', f', hW, hR', hB⟩ := Q3_n (W1 := ((poW o q1 q2 q3 q4 q5 q6 qt cI cJ (A_X4_startsIn_s1 S1 S2 S3 S4 S5 S6 T sv n x y) S2 S3 S4 S5 S6 T sv) ++ ouW oa cJ (vp_updL f 0 (A_X4_startsIn_r S1 S2 S3 S4 S5 S6 T sv n x y).toInt64))) (W0 := ((poW o q1 q2 q3 q4 q5 q6 qt cI cJ S1 S2 S3 S4 S5 S6 T sv) ++ ouW oa cJ f)) (P := lw_P9 o q1 q2 q3 q4 q5 q6 qt oa cI cJ (A_X5_startsIn_s0 M n t x y) (k_code iob (A_X4_startsIn_t S1 S2 S3 S4 S5 S6 T sv n x y)) ((A_X5_startsIn_r M n t x y).toInt64)) hQ (by decide) (fun he h9 => ⟨_, _, _, _, _, _, _, _, _, rfl, h9, fun _ => by rw [pk_uLs, he]⟩) (fun h9 hn9 => ⟨_, _, _, _, _, _, _, _, _, rfl, h9, fun hz => absurd hz (k_code_n hn9)⟩)
  rw [← hM'] at hk hR'
  have hc := h_startsIn l D o q1 q2 q3 q4 q5 q6 qt cI cJ S1 S2 S3 S4 S5 S6 T sv oa f x y n hn hn6 hst (Q3_t hQ)
  rw [hW] at hc
  obtain ⟨k9, hk9⟩ : ∃ k9, k9 = k_code iob (A_X4_startsIn_t S1 S2 S3 S4 S5 S6 T sv n x y) := ⟨_, rfl⟩
  rw [← hk9] at hk hB hc
  refine lv_aload_n hx hb dL_law_1217 rfl (lv_at hl 1 rfl) ?_
  refine lv_aload_n hx hb dL_law_1218 rfl (lv_at hl 0 rfl) ?_
  refine lv_iload hx hb dL_law_1219 (lv_at hl 4 rfl) ?_
  refine lv_iconst (v := 1) hx hb dL_law_1221 (by decide) ?_
  refine lv_iadd hx hb dL_law_1222 ?_
  rw [show nI i + 1 = nI (i + 1) from nI_add i 1]
  refine va_sld hx hb hX hbl hbA hS (vp_in_nI (by omega) (by omega)) dL_law_1223 ?_
  rw [← hxe]
  refine lv_aload_n hx hb dL_law_1224 rfl (lv_at hl 0 rfl) ?_
  refine lv_iload hx hb dL_law_1225 (lv_at hl 4 rfl) ?_
  refine lv_iconst (v := 2) hx hb dL_law_1227 (by decide) ?_
  refine lv_iadd hx hb dL_law_1228 ?_
  rw [show nI i + 2 = nI (i + 2) from nI_add i 2]
  refine va_sld hx hb hX hbl hbA hS (vp_in_nI (by omega) (by omega)) dL_law_1229 ?_
  rw [← hye]
  refine lv_aload_n hx hb dL_law_1230 rfl (lv_at hl 3 rfl) ?_
  refine k_callH (a := []) (z := moW qm cI cJ M) (wc := ((poW o q1 q2 q3 q4 q5 q6 qt cI cJ S1 S2 S3 S4 S5 S6 T sv) ++ ouW oa cJ f)) (wc' := ((poW o q1 q2 q3 q4 q5 q6 qt cI cJ S1' S2' S3' S4' S5' S6' T' sv') ++ ouW oa cJ f')) (w' := (((poW o q1 q2 q3 q4 q5 q6 qt cI cJ S1' S2' S3' S4' S5' S6' T' sv') ++ ouW oa cJ f') ++ moW qm cI cJ M)) (vx_runSW (As := [.ref o, .int x, .int y, .ref oa]) (rest := []) ⟨hx, hb, hml, hown, hts⟩ (hc _) (vx_cwSW 4 hts gL_law_L_startsIn rfl rfl rfl (by decide +kernel) ⟨Nat.le_of_ble_eq_true rfl, Nat.le_of_ble_eq_true rfl⟩) ⟨kBH_blind, k_preH (a := []) (z := moW qm cI cJ M) rfl hK hP hD hS hA hTT hN⟩ rfl rfl hl.1 rfl (lv_room (Nat.le_of_ble_eq_true rfl)) dL_law_1231 ⟨hkc, hks⟩) rfl rfl (k_ad2 (poW_ad _ _ _ _ _ _ _ _ _ _ _ _ _ _ _ _ _ _ _ _ _ _ _ _ _ _) rfl) hP hD hS hA (fun H locs hP hD hS => ?_)
  refine lv_istore (lv' := [(5, .int k9), (0, .ref b), (1, .ref o), (2, .ref (qm 0)), (3, .ref oa), (4, .int (nI i))]) hx hb dL_law_1234 hl (by decide) rfl (fun ls hl => ?_)
  refine lv_aload_n hx hb dL_law_1236 rfl (lv_at hl 3 rfl) ?_
  refine lv_aload_n hx hb dL_law_1237 rfl (lv_at hl 1 rfl) ?_
  refine lv_iload hx hb dL_law_1238 (lv_at hl 5 rfl) ?_
  refine lv_iconst (v := 1) hx hb dL_law_1240 (by decide) ?_
  refine lv_iadd hx hb dL_law_1241 ?_
  rw [show nI i + 1 = nI (i + 1) from nI_add i 1]
  refine va_sld hx hb hX hbl hbA hS (vp_in_nI (by omega) (by omega)) dL_law_1242 ?_
  rw [← hxe]
  refine lv_aload_n hx hb dL_law_1243 rfl (lv_at hl 1 rfl) ?_
  refine lv_iload hx hb dL_law_1244 (lv_at hl 5 rfl) ?_
  refine lv_iconst (v := 2) hx hb dL_law_1246 (by decide) ?_
  refine lv_iadd hx hb dL_law_1247 ?_
  rw [show nI i + 2 = nI (i + 2) from nI_add i 2]
  refine va_sld hx hb hX hbl hbA hS (vp_in_nI (by omega) (by omega)) dL_law_1248 ?_
  rw [← hye]
  refine k_calli (a := ((poW o q1 q2 q3 q4 q5 q6 qt cI cJ S1' S2' S3' S4' S5' S6' T' sv') ++ ouW oa cJ f')) (z := []) (wc := moW qm cI cJ M) (wc' := moW qm cI cJ (A_X5_startsIn_s0 M n t x y)) (w' := (((poW o q1 q2 q3 q4 q5 q6 qt cI cJ S1' S2' S3' S4' S5' S6' T' sv') ++ ouW oa cJ f') ++ moW qm cI cJ (A_X5_startsIn_s0 M n t x y))) (va_runV (As := [.int x, .int y]) (rest := []) ⟨hx, hb, hml, hown, hts⟩ (c_X5_startsIn l D qm cI cJ M x y n hw7 hn6 t hok (by omega) _) (cwV 2 hts gL_law_X5_startsIn rfl rfl rfl (by decide +kernel) ⟨Nat.le_of_ble_eq_true rfl, Nat.le_of_ble_eq_true rfl⟩) ⟨kB_blind, va_recv hK hP (ci := 5) (q0 := 95) rfl rfl, k_pre (a := ((poW o q1 q2 q3 q4 q5 q6 qt cI cJ S1' S2' S3' S4' S5' S6' T' sv') ++ ouW oa cJ f')) (z := []) (k_n0 _ _) hK hP hD⟩ rfl rfl hl.1 rfl (lv_room (Nat.le_of_ble_eq_true rfl)) dL_law_1249 ⟨hkc, hks⟩) (k_n0 _ _) (k_n0 _ _) (moW_ad _ _ _ _ _) hP hD hS hA (fun H locs hP hD hS => ?_)
  rw [← hM'] at hP hD
  refine lv_istore (lv' := [(6, .int (A_X5_startsIn_r M n t x y)), (5, .int k9), (0, .ref b), (1, .ref o), (2, .ref (qm 0)), (3, .ref oa), (4, .int (nI i))]) hx hb dL_law_1252 hl (by decide) rfl (fun ls hl => ?_)
  refine lv_aload_n hx hb dL_law_1254 rfl (lv_at hl 4 rfl) ?_
  refine k_calli (a := ((poW o q1 q2 q3 q4 q5 q6 qt cI cJ S1' S2' S3' S4' S5' S6' T' sv') ++ ouW oa cJ f')) (z := []) (wc := moW qm cI cJ M') (wc' := moW qm cI cJ M') (w' := (((poW o q1 q2 q3 q4 q5 q6 qt cI cJ S1' S2' S3' S4' S5' S6' T' sv') ++ ouW oa cJ f') ++ moW qm cI cJ M')) (va_runV (As := []) (rest := []) ⟨hx, hb, hml, hown, hts⟩ (c_X5_thrown l D qm cI cJ M' _) (cwV 0 hts gL_law_X5_thrown rfl rfl rfl (by decide +kernel) ⟨Nat.le_of_ble_eq_true rfl, Nat.le_of_ble_eq_true rfl⟩) ⟨kB_blind, va_recv hK hP (ci := 5) (q0 := 95) rfl rfl, k_pre (a := ((poW o q1 q2 q3 q4 q5 q6 qt cI cJ S1' S2' S3' S4' S5' S6' T' sv') ++ ouW oa cJ f')) (z := []) (k_n0 _ _) hK hP hD⟩ rfl rfl hl.1 rfl (lv_room (Nat.le_of_ble_eq_true rfl)) dL_law_1255 ⟨hkc, hks⟩) (k_n0 _ _) (k_n0 _ _) (moW_ad _ _ _ _ _) hP hD hS hA (fun H locs hP hD hS => ?_)
  refine lv_iload hx hb dL_law_1258 (lv_at hl 1 rfl) ?_
  refine lv_icmp_eq (tgt := 1265) hx hb dL_law_1260 (by decide) (fun _ => ?_) (fun c9 => absurd hk c9)
  refine lv_iload hx hb dL_law_1265 (lv_at hl 1 rfl) ?_
  refine lv_if_ne (tgt := 1282) hx hb dL_law_1267 (by decide) (fun c_k => ?_) (fun c_k => ?_)
  · skip
    refine lv_goto (tgt := 1548) hx hb dL_law_1282 (by decide) ?_
    exact K S1' S2' S3' S4' S5' S6' T' sv' f' M' hR' _ _ _ hP hD hS (lv_sub hl [2, 3, 4, 5, 6] rfl)
  · have c_k : k9 = 0 := by first | exact c_k | exact Classical.not_not.mp c_k
    refine lv_aload_n hx hb dL_law_1270 rfl (lv_at hl 5 rfl) ?_
    refine lv_iconst (v := 0) hx hb dL_law_1271 (by decide) ?_
    refine va_lald (f := f') hx hb hK hP 94 1 rfl rfl (k_in (k := 0) rfl (by decide) (by decide)) dL_law_1272 ?_
    rw [show (0 : Int32).toNatClampNeg = 0 from rfl, hB c_k]
    refine lv_iload hx hb dL_law_1273 (lv_at hl 0 rfl) ?_
    refine lv_i2l hx hb dL_law_1275 rfl ?_
    refine W.lcmp hx hb dL_law_1276 ?_
    refine lv_if_eq (tgt := 1282) hx hb dL_law_1277 (by decide) (fun _ => ?_) (fun c9 => absurd ((lg_cmp_eq _ _).mpr rfl) c9)
    refine lv_goto (tgt := 1548) hx hb dL_law_1282 (by decide) ?_
    exact K S1' S2' S3' S4' S5' S6' T' sv' f' M' hR' _ _ _ hP hD hS (lv_sub hl [2, 3, 4, 5, 6] rfl)

set_option maxHeartbeats 1000000 in
set_option maxRecDepth 100000 in
theorem lw_c18 {p : Program} {l : Launch} {e : Env} {s : State} {m : MethodId} {below : List Frame} {meth : Method} {c : Code} {b L : Nat} {xs : Nat → Int32} {D : va_G} {cI cJ : ClassId} (C0 : lw_C p l s m meth c b L xs D cI cJ) {o : Nat} {q1 q2 q3 q4 q5 q6 qt qm : Nat → Nat} {oa : Nat} {i : Nat} (hi : i + 2 < L) {kc ks : Nat} (hkc : kc + 1 ≤ 1160) (hks : ks + 6 ≤ 10503) (K : ∀ (S1 S2 S3 S4 S5 S6 : SS) (T : TS) (sv : Int32) (f : Nat → Int64) (M : MS), ROE S2 S3 S4 S5 S6 T sv M → ∀ (H : Heap) (locs : List Loc) (ls : Array Slot), va_P D vwCl (((poW o q1 q2 q3 q4 q5 q6 qt cI cJ S1 S2 S3 S4 S5 S6 T sv) ++ ouW oa cJ f) ++ moW qm cI cJ M) H → va_D (A0 s) (((poW o q1 q2 q3 q4 q5 q6 qt cI cJ S1 S2 S3 S4 S5 S6 T sv) ++ ouW oa cJ f) ++ moW qm cI cJ M) → va_S (A0 s) s.heap H locs → lv_has ls 9 [(0, .ref b), (1, .ref o), (2, .ref (qm 0)), (3, .ref oa), (4, .int (nI i))] → W p l e room_1 s m #[Value.ref b] below meth c H locs (kc + 1) (ks + 6) (lw_Z below #[Value.ref b] s) (F0 m 1548 ls [])) {S1 S2 S3 S4 S5 S6 : SS} {T : TS} {sv : Int32} {f : Nat → Int64} {M : MS} (hRO : ROE S2 S3 S4 S5 S6 T sv M) {H : Heap} {locs : List Loc} {ls : Array Slot} (hP : va_P D vwCl (((poW o q1 q2 q3 q4 q5 q6 qt cI cJ S1 S2 S3 S4 S5 S6 T sv) ++ ouW oa cJ f) ++ moW qm cI cJ M) H) (hD : va_D (A0 s) (((poW o q1 q2 q3 q4 q5 q6 qt cI cJ S1 S2 S3 S4 S5 S6 T sv) ++ ouW oa cJ f) ++ moW qm cI cJ M)) (hS : va_S (A0 s) s.heap H locs) (hl : lv_has ls 9 [(0, .ref b), (1, .ref o), (2, .ref (qm 0)), (3, .ref oa), (4, .int (nI i))]) : W p l e room_1 s m #[Value.ref b] below meth c H locs kc ks (lw_Z below #[Value.ref b] s) (F0 m 1285 ls []) := by
  obtain ⟨hx, hb, hr, hml, hown, hts, hX, hbl, hlk, hK, hTT, hN, hst, hL⟩ := C0
  have hA : ∀ q : Nat, s.heap.size ≤ q → A0 s q := fun _ h => h
  have hbA : ¬ A0 s b := Nat.not_le.mpr hbl
  obtain ⟨st, n, t, le, hR⟩ := hRO
  obtain ⟨⟨hsv, hst0, hst4⟩, ⟨hRS, ht⟩, -, -, hle, hle1, -⟩ := id hR
  obtain ⟨hok, hn6, hn, h4, hw7⟩ := RS_ok hRS
  obtain ⟨mm, hm12, hms, hmw⟩ := RS_lc hRS
  obtain ⟨x, hxe⟩ : ∃ x, x = xs (nI (i + 1)).toNatClampNeg := ⟨_, rfl⟩
  obtain ⟨M', hM'⟩ : ∃ M', M' = o_oathFor M n t x := ⟨_, rfl⟩
  have hQ := q_oathFor hR x
  obtain ⟨hk, S1', S2', S3', S4', S5', S6', T', sv', f', hW, hR', hB⟩ := Q2_n (W1 := ((poW o q1 q2 q3 q4 q5 q6 qt cI cJ (c_ofS S2 n x.toNatClampNeg) S2 S3 S4 S5 S6 T sv) ++ ouW oa cJ (vp_updL f 0 (c_ofR S2 n x.toNatClampNeg).toInt64))) (W0 := ((poW o q1 q2 q3 q4 q5 q6 qt cI cJ S1 S2 S3 S4 S5 S6 T sv) ++ ouW oa cJ f)) (P := lw_P9 o q1 q2 q3 q4 q5 q6 qt oa cI cJ (o_oathFor M n t x) (k_code iae (c_ofT x)) ((o_oathForR M n t x).toInt64)) hQ (fun he h9 => ⟨_, _, _, _, _, _, _, _, _, rfl, h9, fun _ => by rw [pk_uLs, he]⟩) (fun h9 hn9 => ⟨_, _, _, _, _, _, _, _, _, rfl, h9, fun hz => absurd hz (k_code_n hn9)⟩)
  rw [← hM'] at hk hR'
  have hc := h_oathFor l D o q1 q2 q3 q4 q5 q6 qt cI cJ S1 S2 S3 S4 S5 S6 T sv oa f x n hn hn6 hst (Q2_t hQ)
  rw [hW] at hc
  obtain ⟨k9, hk9⟩ : ∃ k9, k9 = k_code iae (c_ofT x) := ⟨_, rfl⟩
  rw [← hk9] at hk hB hc
  refine lv_aload_n hx hb dL_law_1285 rfl (lv_at hl 1 rfl) ?_
  refine lv_aload_n hx hb dL_law_1286 rfl (lv_at hl 0 rfl) ?_
  refine lv_iload hx hb dL_law_1287 (lv_at hl 4 rfl) ?_
  refine lv_iconst (v := 1) hx hb dL_law_1289 (by decide) ?_
  refine lv_iadd hx hb dL_law_1290 ?_
  rw [show nI i + 1 = nI (i + 1) from nI_add i 1]
  refine va_sld hx hb hX hbl hbA hS (vp_in_nI (by omega) (by omega)) dL_law_1291 ?_
  rw [← hxe]
  refine lv_aload_n hx hb dL_law_1292 rfl (lv_at hl 3 rfl) ?_
  refine k_callH (a := []) (z := moW qm cI cJ M) (wc := ((poW o q1 q2 q3 q4 q5 q6 qt cI cJ S1 S2 S3 S4 S5 S6 T sv) ++ ouW oa cJ f)) (wc' := ((poW o q1 q2 q3 q4 q5 q6 qt cI cJ S1' S2' S3' S4' S5' S6' T' sv') ++ ouW oa cJ f')) (w' := (((poW o q1 q2 q3 q4 q5 q6 qt cI cJ S1' S2' S3' S4' S5' S6' T' sv') ++ ouW oa cJ f') ++ moW qm cI cJ M)) (vx_runSW (As := [.ref o, .int x, .ref oa]) (rest := []) ⟨hx, hb, hml, hown, hts⟩ (hc _) (vx_cwSW 3 hts gL_law_L_oathFor rfl rfl rfl (by decide +kernel) ⟨Nat.le_of_ble_eq_true rfl, Nat.le_of_ble_eq_true rfl⟩) ⟨kBH_blind, k_preH (a := []) (z := moW qm cI cJ M) rfl hK hP hD hS hA hTT hN⟩ rfl rfl hl.1 rfl (lv_room (Nat.le_of_ble_eq_true rfl)) dL_law_1293 ⟨hkc, hks⟩) rfl rfl (k_ad2 (poW_ad _ _ _ _ _ _ _ _ _ _ _ _ _ _ _ _ _ _ _ _ _ _ _ _ _ _) rfl) hP hD hS hA (fun H locs hP hD hS => ?_)
  refine lv_istore (lv' := [(5, .int k9), (0, .ref b), (1, .ref o), (2, .ref (qm 0)), (3, .ref oa), (4, .int (nI i))]) hx hb dL_law_1296 hl (by decide) rfl (fun ls hl => ?_)
  refine lv_aload_n hx hb dL_law_1298 rfl (lv_at hl 3 rfl) ?_
  refine lv_aload_n hx hb dL_law_1299 rfl (lv_at hl 1 rfl) ?_
  refine lv_iload hx hb dL_law_1300 (lv_at hl 5 rfl) ?_
  refine lv_iconst (v := 1) hx hb dL_law_1302 (by decide) ?_
  refine lv_iadd hx hb dL_law_1303 ?_
  rw [show nI i + 1 = nI (i + 1) from nI_add i 1]
  refine va_sld hx hb hX hbl hbA hS (vp_in_nI (by omega) (by omega)) dL_law_1304 ?_
  rw [← hxe]
  refine k_calli (a := ((poW o q1 q2 q3 q4 q5 q6 qt cI cJ S1' S2' S3' S4' S5' S6' T' sv') ++ ouW oa cJ f')) (z := []) (wc := moW qm cI cJ M) (wc' := moW qm cI cJ (o_oathFor M n t x)) (w' := (((poW o q1 q2 q3 q4 q5 q6 qt cI cJ S1' S2' S3' S4' S5' S6' T' sv') ++ ouW oa cJ f') ++ moW qm cI cJ (o_oathFor M n t x))) (va_runV (As := [.int x]) (rest := []) ⟨hx, hb, hml, hown, hts⟩ (c_X5_oathFor l D qm cI cJ M x n t hok hn6 (by omega) _) (cwV 1 hts gL_law_X5_oathFor rfl rfl rfl (by decide +kernel) ⟨Nat.le_of_ble_eq_true rfl, Nat.le_of_ble_eq_true rfl⟩) ⟨kB_blind, va_recv hK hP (ci := 5) (q0 := 95) rfl rfl, k_pre (a := ((poW o q1 q2 q3 q4 q5 q6 qt cI cJ S1' S2' S3' S4' S5' S6' T' sv') ++ ouW oa cJ f')) (z := []) (k_n0 _ _) hK hP hD⟩ rfl rfl hl.1 rfl (lv_room (Nat.le_of_ble_eq_true rfl)) dL_law_1305 ⟨hkc, hks⟩) (k_n0 _ _) (k_n0 _ _) (moW_ad _ _ _ _ _) hP hD hS hA (fun H locs hP hD hS => ?_)
  rw [← hM'] at hP hD
  refine lv_istore (lv' := [(6, .int (o_oathForR M n t x)), (5, .int k9), (0, .ref b), (1, .ref o), (2, .ref (qm 0)), (3, .ref oa), (4, .int (nI i))]) hx hb dL_law_1308 hl (by decide) rfl (fun ls hl => ?_)
  refine lv_aload_n hx hb dL_law_1310 rfl (lv_at hl 4 rfl) ?_
  refine k_calli (a := ((poW o q1 q2 q3 q4 q5 q6 qt cI cJ S1' S2' S3' S4' S5' S6' T' sv') ++ ouW oa cJ f')) (z := []) (wc := moW qm cI cJ M') (wc' := moW qm cI cJ M') (w' := (((poW o q1 q2 q3 q4 q5 q6 qt cI cJ S1' S2' S3' S4' S5' S6' T' sv') ++ ouW oa cJ f') ++ moW qm cI cJ M')) (va_runV (As := []) (rest := []) ⟨hx, hb, hml, hown, hts⟩ (c_X5_thrown l D qm cI cJ M' _) (cwV 0 hts gL_law_X5_thrown rfl rfl rfl (by decide +kernel) ⟨Nat.le_of_ble_eq_true rfl, Nat.le_of_ble_eq_true rfl⟩) ⟨kB_blind, va_recv hK hP (ci := 5) (q0 := 95) rfl rfl, k_pre (a := ((poW o q1 q2 q3 q4 q5 q6 qt cI cJ S1' S2' S3' S4' S5' S6' T' sv') ++ ouW oa cJ f')) (z := []) (k_n0 _ _) hK hP hD⟩ rfl rfl hl.1 rfl (lv_room (Nat.le_of_ble_eq_true rfl)) dL_law_1311 ⟨hkc, hks⟩) (k_n0 _ _) (k_n0 _ _) (moW_ad _ _ _ _ _) hP hD hS hA (fun H locs hP hD hS => ?_)
  refine lv_iload hx hb dL_law_1314 (lv_at hl 1 rfl) ?_
  refine lv_icmp_eq (tgt := 1321) hx hb dL_law_1316 (by decide) (fun _ => ?_) (fun c9 => absurd hk c9)
  refine lv_iload hx hb dL_law_1321 (lv_at hl 1 rfl) ?_
  refine lv_if_ne (tgt := 1338) hx hb dL_law_1323 (by decide) (fun c_k => ?_) (fun c_k => ?_)
  · skip
    refine lv_goto (tgt := 1548) hx hb dL_law_1338 (by decide) ?_
    exact K S1' S2' S3' S4' S5' S6' T' sv' f' M' hR' _ _ _ hP hD hS (lv_sub hl [2, 3, 4, 5, 6] rfl)
  · have c_k : k9 = 0 := by first | exact c_k | exact Classical.not_not.mp c_k
    refine lv_aload_n hx hb dL_law_1326 rfl (lv_at hl 5 rfl) ?_
    refine lv_iconst (v := 0) hx hb dL_law_1327 (by decide) ?_
    refine va_lald (f := f') hx hb hK hP 94 1 rfl rfl (k_in (k := 0) rfl (by decide) (by decide)) dL_law_1328 ?_
    rw [show (0 : Int32).toNatClampNeg = 0 from rfl, hB c_k]
    refine lv_iload hx hb dL_law_1329 (lv_at hl 0 rfl) ?_
    refine lv_i2l hx hb dL_law_1331 rfl ?_
    refine W.lcmp hx hb dL_law_1332 ?_
    refine lv_if_eq (tgt := 1338) hx hb dL_law_1333 (by decide) (fun _ => ?_) (fun c9 => absurd ((lg_cmp_eq _ _).mpr rfl) c9)
    refine lv_goto (tgt := 1548) hx hb dL_law_1338 (by decide) ?_
    exact K S1' S2' S3' S4' S5' S6' T' sv' f' M' hR' _ _ _ hP hD hS (lv_sub hl [2, 3, 4, 5, 6] rfl)

set_option maxHeartbeats 1000000 in
set_option maxRecDepth 100000 in
theorem lw_c19 {p : Program} {l : Launch} {e : Env} {s : State} {m : MethodId} {below : List Frame} {meth : Method} {c : Code} {b L : Nat} {xs : Nat → Int32} {D : va_G} {cI cJ : ClassId} (C0 : lw_C p l s m meth c b L xs D cI cJ) {o : Nat} {q1 q2 q3 q4 q5 q6 qt qm : Nat → Nat} {oa : Nat} {i : Nat} (hi : i + 2 < L) {kc ks : Nat} (hkc : kc + 1 ≤ 1160) (hks : ks + 6 ≤ 10503) (K : ∀ (S1 S2 S3 S4 S5 S6 : SS) (T : TS) (sv : Int32) (f : Nat → Int64) (M : MS), ROE S2 S3 S4 S5 S6 T sv M → ∀ (H : Heap) (locs : List Loc) (ls : Array Slot), va_P D vwCl (((poW o q1 q2 q3 q4 q5 q6 qt cI cJ S1 S2 S3 S4 S5 S6 T sv) ++ ouW oa cJ f) ++ moW qm cI cJ M) H → va_D (A0 s) (((poW o q1 q2 q3 q4 q5 q6 qt cI cJ S1 S2 S3 S4 S5 S6 T sv) ++ ouW oa cJ f) ++ moW qm cI cJ M) → va_S (A0 s) s.heap H locs → lv_has ls 9 [(0, .ref b), (1, .ref o), (2, .ref (qm 0)), (3, .ref oa), (4, .int (nI i))] → W p l e room_1 s m #[Value.ref b] below meth c H locs (kc + 1) (ks + 6) (lw_Z below #[Value.ref b] s) (F0 m 1548 ls [])) {S1 S2 S3 S4 S5 S6 : SS} {T : TS} {sv : Int32} {f : Nat → Int64} {M : MS} (hRO : ROE S2 S3 S4 S5 S6 T sv M) {H : Heap} {locs : List Loc} {ls : Array Slot} (hP : va_P D vwCl (((poW o q1 q2 q3 q4 q5 q6 qt cI cJ S1 S2 S3 S4 S5 S6 T sv) ++ ouW oa cJ f) ++ moW qm cI cJ M) H) (hD : va_D (A0 s) (((poW o q1 q2 q3 q4 q5 q6 qt cI cJ S1 S2 S3 S4 S5 S6 T sv) ++ ouW oa cJ f) ++ moW qm cI cJ M)) (hS : va_S (A0 s) s.heap H locs) (hl : lv_has ls 9 [(0, .ref b), (1, .ref o), (2, .ref (qm 0)), (3, .ref oa), (4, .int (nI i))]) : W p l e room_1 s m #[Value.ref b] below meth c H locs kc ks (lw_Z below #[Value.ref b] s) (F0 m 1341 ls []) := by
  obtain ⟨hx, hb, hr, hml, hown, hts, hX, hbl, hlk, hK, hTT, hN, hst, hL⟩ := C0
  have hA : ∀ q : Nat, s.heap.size ≤ q → A0 s q := fun _ h => h
  have hbA : ¬ A0 s b := Nat.not_le.mpr hbl
  obtain ⟨st, n, t, le, hR⟩ := hRO
  obtain ⟨⟨hsv, hst0, hst4⟩, ⟨hRS, ht⟩, -, -, hle, hle1, -⟩ := id hR
  obtain ⟨hok, hn6, hn, h4, hw7⟩ := RS_ok hRS
  obtain ⟨mm, hm12, hms, hmw⟩ := RS_lc hRS
  obtain ⟨M', hM'⟩ : ∃ M', M' = o_emptyIn M n t := ⟨_, rfl⟩
  obtain ⟨hans, hR'⟩ := q_emptyIn hR
  rw [← hM'] at hR'
  refine lv_aload_n hx hb dL_law_1341 rfl (lv_at hl 1 rfl) ?_
  refine k_calli (a := []) (z := ouW oa cJ f ++ moW qm cI cJ M) (wc := (poW o q1 q2 q3 q4 q5 q6 qt cI cJ S1 S2 S3 S4 S5 S6 T sv)) (wc' := (poW o q1 q2 q3 q4 q5 q6 qt cI cJ (c_em S2 n) S2 S3 S4 S5 S6 T sv)) (w' := (((poW o q1 q2 q3 q4 q5 q6 qt cI cJ (c_em S2 n) S2 S3 S4 S5 S6 T sv) ++ ouW oa cJ f) ++ moW qm cI cJ M)) (va_runV (As := []) (rest := []) ⟨hx, hb, hml, hown, hts⟩ (c_X4_emptyIn l D o q1 q2 q3 q4 q5 q6 qt cI cJ S1 S2 S3 S4 S5 S6 T sv n hn hn6 _) (cwV 0 hts gL_law_X4_emptyIn rfl rfl rfl (by decide +kernel) ⟨Nat.le_of_ble_eq_true rfl, Nat.le_of_ble_eq_true rfl⟩) ⟨kB_blind, va_recv hK hP (ci := 4) (q0 := 0) rfl rfl, k_pre (a := []) (z := ouW oa cJ f ++ moW qm cI cJ M) (k_as _ _ _) hK hP hD⟩ rfl rfl hl.1 rfl (lv_room (Nat.le_of_ble_eq_true rfl)) dL_law_1342 ⟨Nat.le_of_succ_le hkc, Nat.le_trans (Nat.le_add_right _ 6) hks⟩) (k_as _ _ _) (k_as _ _ _) (poW_ad _ _ _ _ _ _ _ _ _ _ _ _ _ _ _ _ _ _ _ _ _ _ _ _ _ _) hP hD hS hA (fun H locs hP hD hS => ?_)
  refine lv_aload_n hx hb dL_law_1345 rfl (lv_at hl 2 rfl) ?_
  refine k_calli (a := ((poW o q1 q2 q3 q4 q5 q6 qt cI cJ (c_em S2 n) S2 S3 S4 S5 S6 T sv) ++ ouW oa cJ f)) (z := []) (wc := moW qm cI cJ M) (wc' := moW qm cI cJ (o_emptyIn M n t)) (w' := (((poW o q1 q2 q3 q4 q5 q6 qt cI cJ (c_em S2 n) S2 S3 S4 S5 S6 T sv) ++ ouW oa cJ f) ++ moW qm cI cJ (o_emptyIn M n t))) (va_runV (As := []) (rest := [.int (c_emR S2 n)]) ⟨hx, hb, hml, hown, hts⟩ (c_X5_emptyIn l D qm cI cJ M n t hok hn6 (by omega) _) (cwV 0 hts gL_law_X5_emptyIn rfl rfl rfl (by decide +kernel) ⟨Nat.le_of_ble_eq_true rfl, Nat.le_of_ble_eq_true rfl⟩) ⟨kB_blind, va_recv hK hP (ci := 5) (q0 := 95) rfl rfl, k_pre (a := ((poW o q1 q2 q3 q4 q5 q6 qt cI cJ (c_em S2 n) S2 S3 S4 S5 S6 T sv) ++ ouW oa cJ f)) (z := []) (k_n0 _ _) hK hP hD⟩ rfl rfl hl.1 rfl (lv_room (Nat.le_of_ble_eq_true rfl)) dL_law_1346 ⟨Nat.le_of_succ_le hkc, Nat.le_trans (Nat.le_add_right _ 6) hks⟩) (k_n0 _ _) (k_n0 _ _) (moW_ad _ _ _ _ _) hP hD hS hA (fun H locs hP hD hS => ?_)
  rw [← hM'] at hP hD
  refine lv_icmp_eq (tgt := 1548) hx hb dL_law_1349 (by decide) (fun _ => ?_) (fun c9 => absurd hans c9)
  refine W.widen (k := kc + 1) (n := ks + 6) (Nat.le_add_right _ _) (Nat.le_add_right _ _) ?_
  exact K (c_em S2 n) S2 S3 S4 S5 S6 T sv f M' hR' _ _ _ hP hD hS (lv_sub hl [0, 1, 2, 3, 4] rfl)
