set_option maxHeartbeats 1000000 in
set_option maxRecDepth 100000 in
theorem lw_c12 {p : Program} {l : Launch} {e : Env} {s : State} {m : MethodId} {below : List Frame} {meth : Method} {c : Code} {b L : Nat} {xs : Nat → Int32} {D : va_G} {cI cJ : ClassId} (C0 : lw_C p l s m meth c b L xs D cI cJ) {o : Nat} {q1 q2 q3 q4 q5 q6 qt qm : Nat → Nat} {oa : Nat} {i : Nat} (hi : i + 2 < L) {kc ks : Nat} (hkc : kc + 1 ≤ 1160) (hks : ks + 6 ≤ 10503) (K : ∀ (S1 S2 S3 S4 S5 S6 : SS) (T : TS) (sv : Int32) (f : Nat → Int64) (M : MS), ROE S2 S3 S4 S5 S6 T sv M → ∀ (H : Heap) (locs : List Loc) (ls : Array Slot), va_P D vwCl (((poW o q1 q2 q3 q4 q5 q6 qt cI cJ S1 S2 S3 S4 S5 S6 T sv) ++ ouW oa cJ f) ++ moW qm cI cJ M) H → va_D (A0 s) (((poW o q1 q2 q3 q4 q5 q6 qt cI cJ S1 S2 S3 S4 S5 S6 T sv) ++ ouW oa cJ f) ++ moW qm cI cJ M) → va_S (A0 s) s.heap H locs → lv_has ls 9 [(0, .ref b), (1, .ref o), (2, .ref (qm 0)), (3, .ref oa), (4, .int (nI i))] → W p l e room_1 s m #[Value.ref b] below meth c H locs (kc + 1) (ks + 6) (lw_Z below #[Value.ref b] s) (F0 m 1548 ls [])) {S1 S2 S3 S4 S5 S6 : SS} {T : TS} {sv : Int32} {f : Nat → Int64} {M : MS} (hRO : ROE S2 S3 S4 S5 S6 T sv M) {H : Heap} {locs : List Loc} {ls : Array Slot} (hP : va_P D vwCl (((poW o q1 q2 q3 q4 q5 q6 qt cI cJ S1 S2 S3 S4 S5 S6 T sv) ++ ouW oa cJ f) ++ moW qm cI cJ M) H) (hD : va_D (A0 s) (((poW o q1 q2 q3 q4 q5 q6 qt cI cJ S1 S2 S3 S4 S5 S6 T sv) ++ ouW oa cJ f) ++ moW qm cI cJ M)) (hS : va_S (A0 s) s.heap H locs) (hl : lv_has ls 9 [(0, .ref b), (1, .ref o), (2, .ref (qm 0)), (3, .ref oa), (4, .int (nI i))]) : W p l e room_1 s m #[Value.ref b] below meth c H locs kc ks (lw_Z below #[Value.ref b] s) (F0 m 939 ls []) := by
  obtain ⟨hx, hb, hr, hml, hown, hts, hX, hbl, hlk, hK, hTT, hN, hst, hL⟩ := C0
  have hA : ∀ q : Nat, s.heap.size ≤ q → A0 s q := fun _ h => h
  have hbA : ¬ A0 s b := Nat.not_le.mpr hbl
  obtain ⟨st, n, t, le, hR⟩ := hRO
  obtain ⟨⟨hsv, hst0, hst4⟩, ⟨hRS, ht⟩, -, -, hle, hle1, -⟩ := id hR
  obtain ⟨hok, hn6, hn, h4, hw7⟩ := RS_ok hRS
  obtain ⟨mm, hm12, hms, hmw⟩ := RS_lc hRS
  obtain ⟨x, hxe⟩ : ∃ x, x = xs (nI (i + 1)).toNatClampNeg := ⟨_, rfl⟩
  obtain ⟨M', hM'⟩ : ∃ M', M' = A_X5_setting_s0 M x := ⟨_, rfl⟩
  have hQ := q_setting (S1 := S1) hR x
  obtain ⟨hk, S1', S2', S3', S4', S5', S6', T', sv', f', hW, hR', hB⟩ := Q2_n (W1 := ((poW o q1 q2 q3 q4 q5 q6 qt cI cJ S1 S2 S3 S4 S5 S6 T sv) ++ ouW oa cJ (vp_updL f 0 (A_X4_setting_r S1 S2 S3 S4 S5 S6 T sv x).toInt64))) (W0 := ((poW o q1 q2 q3 q4 q5 q6 qt cI cJ S1 S2 S3 S4 S5 S6 T sv) ++ ouW oa cJ f)) (P := lw_P9 o q1 q2 q3 q4 q5 q6 qt oa cI cJ (A_X5_setting_s0 M x) (k_code iae (A_X4_setting_t S1 S2 S3 S4 S5 S6 T sv x)) ((A_X5_setting_r M x).toInt64)) hQ (fun he h9 => ⟨_, _, _, _, _, _, _, _, _, rfl, h9, fun _ => by rw [pk_uLs, he]⟩) (fun h9 hn9 => ⟨_, _, _, _, _, _, _, _, _, rfl, h9, fun hz => absurd hz (k_code_n hn9)⟩)
  rw [← hM'] at hk hR'
  have hc := h_setting l D o q1 q2 q3 q4 q5 q6 qt cI cJ S1 S2 S3 S4 S5 S6 T sv oa f x hst (Q2_t hQ)
  rw [hW] at hc
  obtain ⟨k9, hk9⟩ : ∃ k9, k9 = k_code iae (A_X4_setting_t S1 S2 S3 S4 S5 S6 T sv x) := ⟨_, rfl⟩
  rw [← hk9] at hk hB hc
  refine lv_aload_n hx hb dL_law_939 rfl (lv_at hl 1 rfl) ?_
  refine lv_aload_n hx hb dL_law_940 rfl (lv_at hl 0 rfl) ?_
  refine lv_iload hx hb dL_law_941 (lv_at hl 4 rfl) ?_
  refine lv_iconst (v := 1) hx hb dL_law_943 (by decide) ?_
  refine lv_iadd hx hb dL_law_944 ?_
  rw [show nI i + 1 = nI (i + 1) from nI_add i 1]
  refine va_sld hx hb hX hbl hbA hS (vp_in_nI (by omega) (by omega)) dL_law_945 ?_
  rw [← hxe]
  refine lv_aload_n hx hb dL_law_946 rfl (lv_at hl 3 rfl) ?_
  refine k_callH (a := []) (z := moW qm cI cJ M) (wc := ((poW o q1 q2 q3 q4 q5 q6 qt cI cJ S1 S2 S3 S4 S5 S6 T sv) ++ ouW oa cJ f)) (wc' := ((poW o q1 q2 q3 q4 q5 q6 qt cI cJ S1' S2' S3' S4' S5' S6' T' sv') ++ ouW oa cJ f')) (w' := (((poW o q1 q2 q3 q4 q5 q6 qt cI cJ S1' S2' S3' S4' S5' S6' T' sv') ++ ouW oa cJ f') ++ moW qm cI cJ M)) (vx_runSW (As := [.ref o, .int x, .ref oa]) (rest := []) ⟨hx, hb, hml, hown, hts⟩ (hc _) (vx_cwSW 3 hts gL_law_L_setting rfl rfl rfl (by decide +kernel) ⟨Nat.le_of_ble_eq_true rfl, Nat.le_of_ble_eq_true rfl⟩) ⟨kBH_blind, k_preH (a := []) (z := moW qm cI cJ M) rfl hK hP hD hS hA hTT hN⟩ rfl rfl hl.1 rfl (lv_room (Nat.le_of_ble_eq_true rfl)) dL_law_947 ⟨hkc, hks⟩) rfl rfl (k_ad2 (poW_ad _ _ _ _ _ _ _ _ _ _ _ _ _ _ _ _ _ _ _ _ _ _ _ _ _ _) rfl) hP hD hS hA (fun H locs hP hD hS => ?_)
  refine lv_istore (lv' := [(5, .int k9), (0, .ref b), (1, .ref o), (2, .ref (qm 0)), (3, .ref oa), (4, .int (nI i))]) hx hb dL_law_950 hl (by decide) rfl (fun ls hl => ?_)
  refine lv_aload_n hx hb dL_law_952 rfl (lv_at hl 3 rfl) ?_
  refine lv_aload_n hx hb dL_law_953 rfl (lv_at hl 1 rfl) ?_
  refine lv_iload hx hb dL_law_954 (lv_at hl 5 rfl) ?_
  refine lv_iconst (v := 1) hx hb dL_law_956 (by decide) ?_
  refine lv_iadd hx hb dL_law_957 ?_
  rw [show nI i + 1 = nI (i + 1) from nI_add i 1]
  refine va_sld hx hb hX hbl hbA hS (vp_in_nI (by omega) (by omega)) dL_law_958 ?_
  rw [← hxe]
  refine k_calli (a := ((poW o q1 q2 q3 q4 q5 q6 qt cI cJ S1' S2' S3' S4' S5' S6' T' sv') ++ ouW oa cJ f')) (z := []) (wc := moW qm cI cJ M) (wc' := moW qm cI cJ (A_X5_setting_s0 M x)) (w' := (((poW o q1 q2 q3 q4 q5 q6 qt cI cJ S1' S2' S3' S4' S5' S6' T' sv') ++ ouW oa cJ f') ++ moW qm cI cJ (A_X5_setting_s0 M x))) (va_runV (As := [.int x]) (rest := []) ⟨hx, hb, hml, hown, hts⟩ (c_X5_setting l D qm cI cJ M x _) (cwV 1 hts gL_law_X5_setting rfl rfl rfl (by decide +kernel) ⟨Nat.le_of_ble_eq_true rfl, Nat.le_of_ble_eq_true rfl⟩) ⟨kB_blind, va_recv hK hP (ci := 5) (q0 := 95) rfl rfl, k_pre (a := ((poW o q1 q2 q3 q4 q5 q6 qt cI cJ S1' S2' S3' S4' S5' S6' T' sv') ++ ouW oa cJ f')) (z := []) (k_n0 _ _) hK hP hD⟩ rfl rfl hl.1 rfl (lv_room (Nat.le_of_ble_eq_true rfl)) dL_law_959 ⟨hkc, hks⟩) (k_n0 _ _) (k_n0 _ _) (moW_ad _ _ _ _ _) hP hD hS hA (fun H locs hP hD hS => ?_)
  rw [← hM'] at hP hD
  refine lv_istore (lv' := [(6, .int (A_X5_setting_r M x)), (5, .int k9), (0, .ref b), (1, .ref o), (2, .ref (qm 0)), (3, .ref oa), (4, .int (nI i))]) hx hb dL_law_962 hl (by decide) rfl (fun ls hl => ?_)
  refine lv_aload_n hx hb dL_law_964 rfl (lv_at hl 4 rfl) ?_
  refine k_calli (a := ((poW o q1 q2 q3 q4 q5 q6 qt cI cJ S1' S2' S3' S4' S5' S6' T' sv') ++ ouW oa cJ f')) (z := []) (wc := moW qm cI cJ M') (wc' := moW qm cI cJ M') (w' := (((poW o q1 q2 q3 q4 q5 q6 qt cI cJ S1' S2' S3' S4' S5' S6' T' sv') ++ ouW oa cJ f') ++ moW qm cI cJ M')) (va_runV (As := []) (rest := []) ⟨hx, hb, hml, hown, hts⟩ (c_X5_thrown l D qm cI cJ M' _) (cwV 0 hts gL_law_X5_thrown rfl rfl rfl (by decide +kernel) ⟨Nat.le_of_ble_eq_true rfl, Nat.le_of_ble_eq_true rfl⟩) ⟨kB_blind, va_recv hK hP (ci := 5) (q0 := 95) rfl rfl, k_pre (a := ((poW o q1 q2 q3 q4 q5 q6 qt cI cJ S1' S2' S3' S4' S5' S6' T' sv') ++ ouW oa cJ f')) (z := []) (k_n0 _ _) hK hP hD⟩ rfl rfl hl.1 rfl (lv_room (Nat.le_of_ble_eq_true rfl)) dL_law_965 ⟨hkc, hks⟩) (k_n0 _ _) (k_n0 _ _) (moW_ad _ _ _ _ _) hP hD hS hA (fun H locs hP hD hS => ?_)
  refine lv_iload hx hb dL_law_968 (lv_at hl 1 rfl) ?_
  refine lv_icmp_eq (tgt := 975) hx hb dL_law_970 (by decide) (fun _ => ?_) (fun c9 => absurd hk c9)
  refine lv_iload hx hb dL_law_975 (lv_at hl 1 rfl) ?_
  refine lv_if_ne (tgt := 992) hx hb dL_law_977 (by decide) (fun c_k => ?_) (fun c_k => ?_)
  · skip
    refine lv_goto (tgt := 1548) hx hb dL_law_992 (by decide) ?_
    exact K S1' S2' S3' S4' S5' S6' T' sv' f' M' hR' _ _ _ hP hD hS (lv_sub hl [2, 3, 4, 5, 6] rfl)
  · have c_k : k9 = 0 := by first | exact c_k | exact Classical.not_not.mp c_k
    refine lv_aload_n hx hb dL_law_980 rfl (lv_at hl 5 rfl) ?_
    refine lv_iconst (v := 0) hx hb dL_law_981 (by decide) ?_
    refine va_lald (f := f') hx hb hK hP 94 1 rfl rfl (k_in (k := 0) rfl (by decide) (by decide)) dL_law_982 ?_
    rw [show (0 : Int32).toNatClampNeg = 0 from rfl, hB c_k]
    refine lv_iload hx hb dL_law_983 (lv_at hl 0 rfl) ?_
    refine lv_i2l hx hb dL_law_985 rfl ?_
    refine W.lcmp hx hb dL_law_986 ?_
    refine lv_if_eq (tgt := 992) hx hb dL_law_987 (by decide) (fun _ => ?_) (fun c9 => absurd ((lg_cmp_eq _ _).mpr rfl) c9)
    refine lv_goto (tgt := 1548) hx hb dL_law_992 (by decide) ?_
    exact K S1' S2' S3' S4' S5' S6' T' sv' f' M' hR' _ _ _ hP hD hS (lv_sub hl [2, 3, 4, 5, 6] rfl)

set_option maxHeartbeats 1000000 in
set_option maxRecDepth 100000 in
theorem lw_c13 {p : Program} {l : Launch} {e : Env} {s : State} {m : MethodId} {below : List Frame} {meth : Method} {c : Code} {b L : Nat} {xs : Nat → Int32} {D : va_G} {cI cJ : ClassId} (C0 : lw_C p l s m meth c b L xs D cI cJ) {o : Nat} {q1 q2 q3 q4 q5 q6 qt qm : Nat → Nat} {oa : Nat} {i : Nat} (hi : i + 2 < L) {kc ks : Nat} (hkc : kc + 1 ≤ 1160) (hks : ks + 6 ≤ 10503) (K : ∀ (S1 S2 S3 S4 S5 S6 : SS) (T : TS) (sv : Int32) (f : Nat → Int64) (M : MS), ROE S2 S3 S4 S5 S6 T sv M → ∀ (H : Heap) (locs : List Loc) (ls : Array Slot), va_P D vwCl (((poW o q1 q2 q3 q4 q5 q6 qt cI cJ S1 S2 S3 S4 S5 S6 T sv) ++ ouW oa cJ f) ++ moW qm cI cJ M) H → va_D (A0 s) (((poW o q1 q2 q3 q4 q5 q6 qt cI cJ S1 S2 S3 S4 S5 S6 T sv) ++ ouW oa cJ f) ++ moW qm cI cJ M) → va_S (A0 s) s.heap H locs → lv_has ls 9 [(0, .ref b), (1, .ref o), (2, .ref (qm 0)), (3, .ref oa), (4, .int (nI i))] → W p l e room_1 s m #[Value.ref b] below meth c H locs (kc + 1) (ks + 6) (lw_Z below #[Value.ref b] s) (F0 m 1548 ls [])) {S1 S2 S3 S4 S5 S6 : SS} {T : TS} {sv : Int32} {f : Nat → Int64} {M : MS} (hRO : ROE S2 S3 S4 S5 S6 T sv M) {H : Heap} {locs : List Loc} {ls : Array Slot} (hP : va_P D vwCl (((poW o q1 q2 q3 q4 q5 q6 qt cI cJ S1 S2 S3 S4 S5 S6 T sv) ++ ouW oa cJ f) ++ moW qm cI cJ M) H) (hD : va_D (A0 s) (((poW o q1 q2 q3 q4 q5 q6 qt cI cJ S1 S2 S3 S4 S5 S6 T sv) ++ ouW oa cJ f) ++ moW qm cI cJ M)) (hS : va_S (A0 s) s.heap H locs) (hl : lv_has ls 9 [(0, .ref b), (1, .ref o), (2, .ref (qm 0)), (3, .ref oa), (4, .int (nI i))]) : W p l e room_1 s m #[Value.ref b] below meth c H locs kc ks (lw_Z below #[Value.ref b] s) (F0 m 995 ls []) := by
  obtain ⟨hx, hb, hr, hml, hown, hts, hX, hbl, hlk, hK, hTT, hN, hst, hL⟩ := C0
  have hA : ∀ q : Nat, s.heap.size ≤ q → A0 s q := fun _ h => h
  have hbA : ¬ A0 s b := Nat.not_le.mpr hbl
  obtain ⟨st, n, t, le, hR⟩ := hRO
  obtain ⟨⟨hsv, hst0, hst4⟩, ⟨hRS, ht⟩, -, -, hle, hle1, -⟩ := id hR
  obtain ⟨hok, hn6, hn, h4, hw7⟩ := RS_ok hRS
  obtain ⟨mm, hm12, hms, hmw⟩ := RS_lc hRS
  obtain ⟨x, hxe⟩ : ∃ x, x = xs (nI (i + 1)).toNatClampNeg := ⟨_, rfl⟩
  obtain ⟨M', hM'⟩ : ∃ M', M' = A_X5_water_s0 M x := ⟨_, rfl⟩
  have hQ := q_water (S1 := S1) hR x
  obtain ⟨hk, S1', S2', S3', S4', S5', S6', T', sv', f', hW, hR', hB⟩ := Q2_n (W1 := ((poW o q1 q2 q3 q4 q5 q6 qt cI cJ S1 S2 S3 S4 S5 S6 T sv) ++ ouW oa cJ (vp_updL f 0 (A_X4_water_r S1 S2 S3 S4 S5 S6 T sv x)))) (W0 := ((poW o q1 q2 q3 q4 q5 q6 qt cI cJ S1 S2 S3 S4 S5 S6 T sv) ++ ouW oa cJ f)) (P := lw_P9 o q1 q2 q3 q4 q5 q6 qt oa cI cJ (A_X5_water_s0 M x) (k_code iae (A_X4_water_t S1 S2 S3 S4 S5 S6 T sv x)) (A_X5_water_r M x)) hQ (fun he h9 => ⟨_, _, _, _, _, _, _, _, _, rfl, h9, fun _ => by rw [pk_uLs, he]⟩) (fun h9 hn9 => ⟨_, _, _, _, _, _, _, _, _, rfl, h9, fun hz => absurd hz (k_code_n hn9)⟩)
  rw [← hM'] at hk hR'
  have hc := h_water l D o q1 q2 q3 q4 q5 q6 qt cI cJ S1 S2 S3 S4 S5 S6 T sv oa f x hst (Q2_t hQ)
  rw [hW] at hc
  obtain ⟨k9, hk9⟩ : ∃ k9, k9 = k_code iae (A_X4_water_t S1 S2 S3 S4 S5 S6 T sv x) := ⟨_, rfl⟩
  rw [← hk9] at hk hB hc
  refine lv_aload_n hx hb dL_law_995 rfl (lv_at hl 1 rfl) ?_
  refine lv_aload_n hx hb dL_law_996 rfl (lv_at hl 0 rfl) ?_
  refine lv_iload hx hb dL_law_997 (lv_at hl 4 rfl) ?_
  refine lv_iconst (v := 1) hx hb dL_law_999 (by decide) ?_
  refine lv_iadd hx hb dL_law_1000 ?_
  rw [show nI i + 1 = nI (i + 1) from nI_add i 1]
  refine va_sld hx hb hX hbl hbA hS (vp_in_nI (by omega) (by omega)) dL_law_1001 ?_
  rw [← hxe]
  refine lv_aload_n hx hb dL_law_1002 rfl (lv_at hl 3 rfl) ?_
  refine k_callH (a := []) (z := moW qm cI cJ M) (wc := ((poW o q1 q2 q3 q4 q5 q6 qt cI cJ S1 S2 S3 S4 S5 S6 T sv) ++ ouW oa cJ f)) (wc' := ((poW o q1 q2 q3 q4 q5 q6 qt cI cJ S1' S2' S3' S4' S5' S6' T' sv') ++ ouW oa cJ f')) (w' := (((poW o q1 q2 q3 q4 q5 q6 qt cI cJ S1' S2' S3' S4' S5' S6' T' sv') ++ ouW oa cJ f') ++ moW qm cI cJ M)) (vx_runSW (As := [.ref o, .int x, .ref oa]) (rest := []) ⟨hx, hb, hml, hown, hts⟩ (hc _) (vx_cwSW 3 hts gL_law_L_water rfl rfl rfl (by decide +kernel) ⟨Nat.le_of_ble_eq_true rfl, Nat.le_of_ble_eq_true rfl⟩) ⟨kBH_blind, k_preH (a := []) (z := moW qm cI cJ M) rfl hK hP hD hS hA hTT hN⟩ rfl rfl hl.1 rfl (lv_room (Nat.le_of_ble_eq_true rfl)) dL_law_1003 ⟨hkc, hks⟩) rfl rfl (k_ad2 (poW_ad _ _ _ _ _ _ _ _ _ _ _ _ _ _ _ _ _ _ _ _ _ _ _ _ _ _) rfl) hP hD hS hA (fun H locs hP hD hS => ?_)
  refine lv_istore (lv' := [(5, .int k9), (0, .ref b), (1, .ref o), (2, .ref (qm 0)), (3, .ref oa), (4, .int (nI i))]) hx hb dL_law_1006 hl (by decide) rfl (fun ls hl => ?_)
  refine lv_aload_n hx hb dL_law_1008 rfl (lv_at hl 3 rfl) ?_
  refine lv_aload_n hx hb dL_law_1009 rfl (lv_at hl 1 rfl) ?_
  refine lv_iload hx hb dL_law_1010 (lv_at hl 5 rfl) ?_
  refine lv_iconst (v := 1) hx hb dL_law_1012 (by decide) ?_
  refine lv_iadd hx hb dL_law_1013 ?_
  rw [show nI i + 1 = nI (i + 1) from nI_add i 1]
  refine va_sld hx hb hX hbl hbA hS (vp_in_nI (by omega) (by omega)) dL_law_1014 ?_
  rw [← hxe]
  refine k_calll (a := ((poW o q1 q2 q3 q4 q5 q6 qt cI cJ S1' S2' S3' S4' S5' S6' T' sv') ++ ouW oa cJ f')) (z := []) (wc := moW qm cI cJ M) (wc' := moW qm cI cJ (A_X5_water_s0 M x)) (w' := (((poW o q1 q2 q3 q4 q5 q6 qt cI cJ S1' S2' S3' S4' S5' S6' T' sv') ++ ouW oa cJ f') ++ moW qm cI cJ (A_X5_water_s0 M x))) (va_runV (As := [.int x]) (rest := []) ⟨hx, hb, hml, hown, hts⟩ (c_X5_water l D qm cI cJ M x _) (cwV 1 hts gL_law_X5_water rfl rfl rfl (by decide +kernel) ⟨Nat.le_of_ble_eq_true rfl, Nat.le_of_ble_eq_true rfl⟩) ⟨kB_blind, va_recv hK hP (ci := 5) (q0 := 95) rfl rfl, k_pre (a := ((poW o q1 q2 q3 q4 q5 q6 qt cI cJ S1' S2' S3' S4' S5' S6' T' sv') ++ ouW oa cJ f')) (z := []) (k_n0 _ _) hK hP hD⟩ rfl rfl hl.1 rfl (lv_room (Nat.le_of_ble_eq_true rfl)) dL_law_1015 ⟨hkc, hks⟩) (k_n0 _ _) (k_n0 _ _) (moW_ad _ _ _ _ _) hP hD hS hA (fun H locs hP hD hS => ?_)
  rw [← hM'] at hP hD
  refine lv_lstore (lv' := [(6, .long (A_X5_water_r M x)), (5, .int k9), (0, .ref b), (1, .ref o), (2, .ref (qm 0)), (3, .ref oa), (4, .int (nI i))]) hx hb dL_law_1018 hl (by decide) rfl (fun ls hl => ?_)
  refine lv_aload_n hx hb dL_law_1020 rfl (lv_at hl 4 rfl) ?_
  refine k_calli (a := ((poW o q1 q2 q3 q4 q5 q6 qt cI cJ S1' S2' S3' S4' S5' S6' T' sv') ++ ouW oa cJ f')) (z := []) (wc := moW qm cI cJ M') (wc' := moW qm cI cJ M') (w' := (((poW o q1 q2 q3 q4 q5 q6 qt cI cJ S1' S2' S3' S4' S5' S6' T' sv') ++ ouW oa cJ f') ++ moW qm cI cJ M')) (va_runV (As := []) (rest := []) ⟨hx, hb, hml, hown, hts⟩ (c_X5_thrown l D qm cI cJ M' _) (cwV 0 hts gL_law_X5_thrown rfl rfl rfl (by decide +kernel) ⟨Nat.le_of_ble_eq_true rfl, Nat.le_of_ble_eq_true rfl⟩) ⟨kB_blind, va_recv hK hP (ci := 5) (q0 := 95) rfl rfl, k_pre (a := ((poW o q1 q2 q3 q4 q5 q6 qt cI cJ S1' S2' S3' S4' S5' S6' T' sv') ++ ouW oa cJ f')) (z := []) (k_n0 _ _) hK hP hD⟩ rfl rfl hl.1 rfl (lv_room (Nat.le_of_ble_eq_true rfl)) dL_law_1021 ⟨hkc, hks⟩) (k_n0 _ _) (k_n0 _ _) (moW_ad _ _ _ _ _) hP hD hS hA (fun H locs hP hD hS => ?_)
  refine lv_iload hx hb dL_law_1024 (lv_at hl 1 rfl) ?_
  refine lv_icmp_eq (tgt := 1031) hx hb dL_law_1026 (by decide) (fun _ => ?_) (fun c9 => absurd hk c9)
  refine lv_iload hx hb dL_law_1031 (lv_at hl 1 rfl) ?_
  refine lv_if_ne (tgt := 1047) hx hb dL_law_1033 (by decide) (fun c_k => ?_) (fun c_k => ?_)
  · skip
    refine lv_goto (tgt := 1548) hx hb dL_law_1047 (by decide) ?_
    exact K S1' S2' S3' S4' S5' S6' T' sv' f' M' hR' _ _ _ hP hD hS (lv_sub hl [2, 3, 4, 5, 6] rfl)
  · have c_k : k9 = 0 := by first | exact c_k | exact Classical.not_not.mp c_k
    refine lv_aload_n hx hb dL_law_1036 rfl (lv_at hl 5 rfl) ?_
    refine lv_iconst (v := 0) hx hb dL_law_1037 (by decide) ?_
    refine va_lald (f := f') hx hb hK hP 94 1 rfl rfl (k_in (k := 0) rfl (by decide) (by decide)) dL_law_1038 ?_
    rw [show (0 : Int32).toNatClampNeg = 0 from rfl, hB c_k]
    refine lv_lload hx hb dL_law_1039 (lv_at hl 0 rfl) ?_
    refine W.lcmp hx hb dL_law_1041 ?_
    refine lv_if_eq (tgt := 1047) hx hb dL_law_1042 (by decide) (fun _ => ?_) (fun c9 => absurd ((lg_cmp_eq _ _).mpr rfl) c9)
    refine lv_goto (tgt := 1548) hx hb dL_law_1047 (by decide) ?_
    exact K S1' S2' S3' S4' S5' S6' T' sv' f' M' hR' _ _ _ hP hD hS (lv_sub hl [2, 3, 4, 5, 6] rfl)

set_option maxHeartbeats 1000000 in
set_option maxRecDepth 100000 in
theorem lw_c14 {p : Program} {l : Launch} {e : Env} {s : State} {m : MethodId} {below : List Frame} {meth : Method} {c : Code} {b L : Nat} {xs : Nat → Int32} {D : va_G} {cI cJ : ClassId} (C0 : lw_C p l s m meth c b L xs D cI cJ) {o : Nat} {q1 q2 q3 q4 q5 q6 qt qm : Nat → Nat} {oa : Nat} {i : Nat} (hi : i + 2 < L) {kc ks : Nat} (hkc : kc + 1 ≤ 1160) (hks : ks + 6 ≤ 10503) (K : ∀ (S1 S2 S3 S4 S5 S6 : SS) (T : TS) (sv : Int32) (f : Nat → Int64) (M : MS), ROE S2 S3 S4 S5 S6 T sv M → ∀ (H : Heap) (locs : List Loc) (ls : Array Slot), va_P D vwCl (((poW o q1 q2 q3 q4 q5 q6 qt cI cJ S1 S2 S3 S4 S5 S6 T sv) ++ ouW oa cJ f) ++ moW qm cI cJ M) H → va_D (A0 s) (((poW o q1 q2 q3 q4 q5 q6 qt cI cJ S1 S2 S3 S4 S5 S6 T sv) ++ ouW oa cJ f) ++ moW qm cI cJ M) → va_S (A0 s) s.heap H locs → lv_has ls 9 [(0, .ref b), (1, .ref o), (2, .ref (qm 0)), (3, .ref oa), (4, .int (nI i))] → W p l e room_1 s m #[Value.ref b] below meth c H locs (kc + 1) (ks + 6) (lw_Z below #[Value.ref b] s) (F0 m 1548 ls [])) {S1 S2 S3 S4 S5 S6 : SS} {T : TS} {sv : Int32} {f : Nat → Int64} {M : MS} (hRO : ROE S2 S3 S4 S5 S6 T sv M) {H : Heap} {locs : List Loc} {ls : Array Slot} (hP : va_P D vwCl (((poW o q1 q2 q3 q4 q5 q6 qt cI cJ S1 S2 S3 S4 S5 S6 T sv) ++ ouW oa cJ f) ++ moW qm cI cJ M) H) (hD : va_D (A0 s) (((poW o q1 q2 q3 q4 q5 q6 qt cI cJ S1 S2 S3 S4 S5 S6 T sv) ++ ouW oa cJ f) ++ moW qm cI cJ M)) (hS : va_S (A0 s) s.heap H locs) (hl : lv_has ls 9 [(0, .ref b), (1, .ref o), (2, .ref (qm 0)), (3, .ref oa), (4, .int (nI i))]) : W p l e room_1 s m #[Value.ref b] below meth c H locs kc ks (lw_Z below #[Value.ref b] s) (F0 m 1050 ls []) := by
  obtain ⟨hx, hb, hr, hml, hown, hts, hX, hbl, hlk, hK, hTT, hN, hst, hL⟩ := C0
  have hA : ∀ q : Nat, s.heap.size ≤ q → A0 s q := fun _ h => h
  have hbA : ¬ A0 s b := Nat.not_le.mpr hbl
  obtain ⟨st, n, t, le, hR⟩ := hRO
  obtain ⟨⟨hsv, hst0, hst4⟩, ⟨hRS, ht⟩, -, -, hle, hle1, -⟩ := id hR
  obtain ⟨hok, hn6, hn, h4, hw7⟩ := RS_ok hRS
  obtain ⟨mm, hm12, hms, hmw⟩ := RS_lc hRS
  obtain ⟨M', hM'⟩ : ∃ M', M' = A_X5_nightLeak_s0 M := ⟨_, rfl⟩
  have hQ := q_nightLeak (S1 := S1) hR
  obtain ⟨hk, S1', S2', S3', S4', S5', S6', T', sv', f', hW, hR', hB⟩ := Q2_n (W1 := ((poW o q1 q2 q3 q4 q5 q6 qt cI cJ S1 S2 S3 S4 S5 S6 T sv) ++ ouW oa cJ (vp_updL f 0 (A_X4_nightLeak_r S1 S2 S3 S4 S5 S6 T sv)))) (W0 := ((poW o q1 q2 q3 q4 q5 q6 qt cI cJ S1 S2 S3 S4 S5 S6 T sv) ++ ouW oa cJ f)) (P := lw_P9 o q1 q2 q3 q4 q5 q6 qt oa cI cJ (A_X5_nightLeak_s0 M) (k_code ise (A_X4_nightLeak_t S1 S2 S3 S4 S5 S6 T sv)) (A_X5_nightLeak_r M)) hQ (fun he h9 => ⟨_, _, _, _, _, _, _, _, _, rfl, h9, fun _ => by rw [pk_uLs, he]⟩) (fun h9 hn9 => ⟨_, _, _, _, _, _, _, _, _, rfl, h9, fun hz => absurd hz (k_code_n hn9)⟩)
  rw [← hM'] at hk hR'
  have hc := h_nightLeak l D o q1 q2 q3 q4 q5 q6 qt cI cJ S1 S2 S3 S4 S5 S6 T sv oa f hst (Q2_t hQ)
  rw [hW] at hc
  obtain ⟨k9, hk9⟩ : ∃ k9, k9 = k_code ise (A_X4_nightLeak_t S1 S2 S3 S4 S5 S6 T sv) := ⟨_, rfl⟩
  rw [← hk9] at hk hB hc
  refine lv_aload_n hx hb dL_law_1050 rfl (lv_at hl 1 rfl) ?_
  refine lv_aload_n hx hb dL_law_1051 rfl (lv_at hl 3 rfl) ?_
  refine k_callH (a := []) (z := moW qm cI cJ M) (wc := ((poW o q1 q2 q3 q4 q5 q6 qt cI cJ S1 S2 S3 S4 S5 S6 T sv) ++ ouW oa cJ f)) (wc' := ((poW o q1 q2 q3 q4 q5 q6 qt cI cJ S1' S2' S3' S4' S5' S6' T' sv') ++ ouW oa cJ f')) (w' := (((poW o q1 q2 q3 q4 q5 q6 qt cI cJ S1' S2' S3' S4' S5' S6' T' sv') ++ ouW oa cJ f') ++ moW qm cI cJ M)) (vx_runSW (As := [.ref o, .ref oa]) (rest := []) ⟨hx, hb, hml, hown, hts⟩ (hc _) (vx_cwSW 2 hts gL_law_L_nightLeak rfl rfl rfl (by decide +kernel) ⟨Nat.le_of_ble_eq_true rfl, Nat.le_of_ble_eq_true rfl⟩) ⟨kBH_blind, k_preH (a := []) (z := moW qm cI cJ M) rfl hK hP hD hS hA hTT hN⟩ rfl rfl hl.1 rfl (lv_room (Nat.le_of_ble_eq_true rfl)) dL_law_1052 ⟨hkc, hks⟩) rfl rfl (k_ad2 (poW_ad _ _ _ _ _ _ _ _ _ _ _ _ _ _ _ _ _ _ _ _ _ _ _ _ _ _) rfl) hP hD hS hA (fun H locs hP hD hS => ?_)
  refine lv_istore (lv' := [(5, .int k9), (0, .ref b), (1, .ref o), (2, .ref (qm 0)), (3, .ref oa), (4, .int (nI i))]) hx hb dL_law_1055 hl (by decide) rfl (fun ls hl => ?_)
  refine lv_aload_n hx hb dL_law_1057 rfl (lv_at hl 3 rfl) ?_
  refine k_calll (a := ((poW o q1 q2 q3 q4 q5 q6 qt cI cJ S1' S2' S3' S4' S5' S6' T' sv') ++ ouW oa cJ f')) (z := []) (wc := moW qm cI cJ M) (wc' := moW qm cI cJ (A_X5_nightLeak_s0 M)) (w' := (((poW o q1 q2 q3 q4 q5 q6 qt cI cJ S1' S2' S3' S4' S5' S6' T' sv') ++ ouW oa cJ f') ++ moW qm cI cJ (A_X5_nightLeak_s0 M))) (va_runV (As := []) (rest := []) ⟨hx, hb, hml, hown, hts⟩ (c_X5_nightLeak l D qm cI cJ M _) (cwV 0 hts gL_law_X5_nightLeak rfl rfl rfl (by decide +kernel) ⟨Nat.le_of_ble_eq_true rfl, Nat.le_of_ble_eq_true rfl⟩) ⟨kB_blind, va_recv hK hP (ci := 5) (q0 := 95) rfl rfl, k_pre (a := ((poW o q1 q2 q3 q4 q5 q6 qt cI cJ S1' S2' S3' S4' S5' S6' T' sv') ++ ouW oa cJ f')) (z := []) (k_n0 _ _) hK hP hD⟩ rfl rfl hl.1 rfl (lv_room (Nat.le_of_ble_eq_true rfl)) dL_law_1058 ⟨hkc, hks⟩) (k_n0 _ _) (k_n0 _ _) (moW_ad _ _ _ _ _) hP hD hS hA (fun H locs hP hD hS => ?_)
  rw [← hM'] at hP hD
  refine lv_lstore (lv' := [(6, .long (A_X5_nightLeak_r M)), (5, .int k9), (0, .ref b), (1, .ref o), (2, .ref (qm 0)), (3, .ref oa), (4, .int (nI i))]) hx hb dL_law_1061 hl (by decide) rfl (fun ls hl => ?_)
  refine lv_aload_n hx hb dL_law_1063 rfl (lv_at hl 4 rfl) ?_
  refine k_calli (a := ((poW o q1 q2 q3 q4 q5 q6 qt cI cJ S1' S2' S3' S4' S5' S6' T' sv') ++ ouW oa cJ f')) (z := []) (wc := moW qm cI cJ M') (wc' := moW qm cI cJ M') (w' := (((poW o q1 q2 q3 q4 q5 q6 qt cI cJ S1' S2' S3' S4' S5' S6' T' sv') ++ ouW oa cJ f') ++ moW qm cI cJ M')) (va_runV (As := []) (rest := []) ⟨hx, hb, hml, hown, hts⟩ (c_X5_thrown l D qm cI cJ M' _) (cwV 0 hts gL_law_X5_thrown rfl rfl rfl (by decide +kernel) ⟨Nat.le_of_ble_eq_true rfl, Nat.le_of_ble_eq_true rfl⟩) ⟨kB_blind, va_recv hK hP (ci := 5) (q0 := 95) rfl rfl, k_pre (a := ((poW o q1 q2 q3 q4 q5 q6 qt cI cJ S1' S2' S3' S4' S5' S6' T' sv') ++ ouW oa cJ f')) (z := []) (k_n0 _ _) hK hP hD⟩ rfl rfl hl.1 rfl (lv_room (Nat.le_of_ble_eq_true rfl)) dL_law_1064 ⟨hkc, hks⟩) (k_n0 _ _) (k_n0 _ _) (moW_ad _ _ _ _ _) hP hD hS hA (fun H locs hP hD hS => ?_)
  refine lv_iload hx hb dL_law_1067 (lv_at hl 1 rfl) ?_
  refine lv_icmp_eq (tgt := 1074) hx hb dL_law_1069 (by decide) (fun _ => ?_) (fun c9 => absurd hk c9)
  refine lv_iload hx hb dL_law_1074 (lv_at hl 1 rfl) ?_
  refine lv_if_ne (tgt := 1090) hx hb dL_law_1076 (by decide) (fun c_k => ?_) (fun c_k => ?_)
  · skip
    refine lv_goto (tgt := 1548) hx hb dL_law_1090 (by decide) ?_
    exact K S1' S2' S3' S4' S5' S6' T' sv' f' M' hR' _ _ _ hP hD hS (lv_sub hl [2, 3, 4, 5, 6] rfl)
  · have c_k : k9 = 0 := by first | exact c_k | exact Classical.not_not.mp c_k
    refine lv_aload_n hx hb dL_law_1079 rfl (lv_at hl 5 rfl) ?_
    refine lv_iconst (v := 0) hx hb dL_law_1080 (by decide) ?_
    refine va_lald (f := f') hx hb hK hP 94 1 rfl rfl (k_in (k := 0) rfl (by decide) (by decide)) dL_law_1081 ?_
    rw [show (0 : Int32).toNatClampNeg = 0 from rfl, hB c_k]
    refine lv_lload hx hb dL_law_1082 (lv_at hl 0 rfl) ?_
    refine W.lcmp hx hb dL_law_1084 ?_
    refine lv_if_eq (tgt := 1090) hx hb dL_law_1085 (by decide) (fun _ => ?_) (fun c9 => absurd ((lg_cmp_eq _ _).mpr rfl) c9)
    refine lv_goto (tgt := 1548) hx hb dL_law_1090 (by decide) ?_
    exact K S1' S2' S3' S4' S5' S6' T' sv' f' M' hR' _ _ _ hP hD hS (lv_sub hl [2, 3, 4, 5, 6] rfl)

set_option maxHeartbeats 1000000 in
set_option maxRecDepth 100000 in
theorem lw_c15 {p : Program} {l : Launch} {e : Env} {s : State} {m : MethodId} {below : List Frame} {meth : Method} {c : Code} {b L : Nat} {xs : Nat → Int32} {D : va_G} {cI cJ : ClassId} (C0 : lw_C p l s m meth c b L xs D cI cJ) {o : Nat} {q1 q2 q3 q4 q5 q6 qt qm : Nat → Nat} {oa : Nat} {i : Nat} (hi : i + 2 < L) {kc ks : Nat} (hkc : kc + 1 ≤ 1160) (hks : ks + 6 ≤ 10503) (K : ∀ (S1 S2 S3 S4 S5 S6 : SS) (T : TS) (sv : Int32) (f : Nat → Int64) (M : MS), ROE S2 S3 S4 S5 S6 T sv M → ∀ (H : Heap) (locs : List Loc) (ls : Array Slot), va_P D vwCl (((poW o q1 q2 q3 q4 q5 q6 qt cI cJ S1 S2 S3 S4 S5 S6 T sv) ++ ouW oa cJ f) ++ moW qm cI cJ M) H → va_D (A0 s) (((poW o q1 q2 q3 q4 q5 q6 qt cI cJ S1 S2 S3 S4 S5 S6 T sv) ++ ouW oa cJ f) ++ moW qm cI cJ M) → va_S (A0 s) s.heap H locs → lv_has ls 9 [(0, .ref b), (1, .ref o), (2, .ref (qm 0)), (3, .ref oa), (4, .int (nI i))] → W p l e room_1 s m #[Value.ref b] below meth c H locs (kc + 1) (ks + 6) (lw_Z below #[Value.ref b] s) (F0 m 1548 ls [])) {S1 S2 S3 S4 S5 S6 : SS} {T : TS} {sv : Int32} {f : Nat → Int64} {M : MS} (hRO : ROE S2 S3 S4 S5 S6 T sv M) {H : Heap} {locs : List Loc} {ls : Array Slot} (hP : va_P D vwCl (((poW o q1 q2 q3 q4 q5 q6 qt cI cJ S1 S2 S3 S4 S5 S6 T sv) ++ ouW oa cJ f) ++ moW qm cI cJ M) H) (hD : va_D (A0 s) (((poW o q1 q2 q3 q4 q5 q6 qt cI cJ S1 S2 S3 S4 S5 S6 T sv) ++ ouW oa cJ f) ++ moW qm cI cJ M)) (hS : va_S (A0 s) s.heap H locs) (hl : lv_has ls 9 [(0, .ref b), (1, .ref o), (2, .ref (qm 0)), (3, .ref oa), (4, .int (nI i))]) : W p l e room_1 s m #[Value.ref b] below meth c H locs kc ks (lw_Z below #[Value.ref b] s) (F0 m 1093 ls []) := by
  obtain ⟨hx, hb, hr, hml, hown, hts, hX, hbl, hlk, hK, hTT, hN, hst, hL⟩ := C0
  have hA : ∀ q : Nat, s.heap.size ≤ q → A0 s q := fun _ h => h
  have hbA : ¬ A0 s b := Nat.not_le.mpr hbl
  obtain ⟨st, n, t, le, hR⟩ := hRO
  obtain ⟨⟨hsv, hst0, hst4⟩, ⟨hRS, ht⟩, -, -, hle, hle1, -⟩ := id hR
  obtain ⟨hok, hn6, hn, h4, hw7⟩ := RS_ok hRS
  obtain ⟨mm, hm12, hms, hmw⟩ := RS_lc hRS
  obtain ⟨x, hxe⟩ : ∃ x, x = xs (nI (i + 1)).toNatClampNeg := ⟨_, rfl⟩
  obtain ⟨y, hye⟩ : ∃ y, y = xs (nI (i + 2)).toNatClampNeg := ⟨_, rfl⟩
  obtain ⟨M', hM'⟩ : ∃ M', M' = A_X5_entry_s0 M x y := ⟨_, rfl⟩
  have hQ := q_entry (S1 := S1) hR x y
  obtain ⟨hk, S1', S2', S3', S4', S5', S6', T', sv', f', hW, hR', hB⟩ := Q3_n (W1 := ((poW o q1 q2 q3 q4 q5 q6 qt cI cJ S1 S2 S3 S4 S5 S6 T sv) ++ ouW oa cJ (vp_updL f 0 (A_X4_entry_r S1 S2 S3 S4 S5 S6 T sv x y).toInt64))) (W0 := ((poW o q1 q2 q3 q4 q5 q6 qt cI cJ S1 S2 S3 S4 S5 S6 T sv) ++ ouW oa cJ f)) (P := lw_P9 o q1 q2 q3 q4 q5 q6 qt oa cI cJ (A_X5_entry_s0 M x y) (k_code iob (A_X4_entry_t S1 S2 S3 S4 S5 S6 T sv x y)) ((A_X5_entry_r M x y).toInt64)) hQ (by decide) (fun he h9 => ⟨_, _, _, _, _, _, _, _, _, rfl, h9, fun _ => by rw [pk_uLs, he]⟩) (fun h9 hn9 => ⟨_, _, _, _, _, _, _, _, _, rfl, h9, fun hz => absurd hz (k_code_n hn9)⟩)
  rw [← hM'] at hk hR'
  have hc := h_entry l D o q1 q2 q3 q4 q5 q6 qt cI cJ S1 S2 S3 S4 S5 S6 T sv oa f x y hst (Q3_t hQ)
  rw [hW] at hc
  obtain ⟨k9, hk9⟩ : ∃ k9, k9 = k_code iob (A_X4_entry_t S1 S2 S3 S4 S5 S6 T sv x y) := ⟨_, rfl⟩
  rw [← hk9] at hk hB hc
  refine lv_aload_n hx hb dL_law_1093 rfl (lv_at hl 1 rfl) ?_
  refine lv_aload_n hx hb dL_law_1094 rfl (lv_at hl 0 rfl) ?_
  refine lv_iload hx hb dL_law_1095 (lv_at hl 4 rfl) ?_
  refine lv_iconst (v := 1) hx hb dL_law_1097 (by decide) ?_
  refine lv_iadd hx hb dL_law_1098 ?_
  rw [show nI i + 1 = nI (i + 1) from nI_add i 1]
  refine va_sld hx hb hX hbl hbA hS (vp_in_nI (by omega) (by omega)) dL_law_1099 ?_
  rw [← hxe]
  refine lv_aload_n hx hb dL_law_1100 rfl (lv_at hl 0 rfl) ?_
  refine lv_iload hx hb dL_law_1101 (lv_at hl 4 rfl) ?_
  refine lv_iconst (v := 2) hx hb dL_law_1103 (by decide) ?_
  refine lv_iadd hx hb dL_law_1104 ?_
  rw [show nI i + 2 = nI (i + 2) from nI_add i 2]
  refine va_sld hx hb hX hbl hbA hS (vp_in_nI (by omega) (by omega)) dL_law_1105 ?_
  rw [← hye]
  refine lv_aload_n hx hb dL_law_1106 rfl (lv_at hl 3 rfl) ?_
  refine k_callH (a := []) (z := moW qm cI cJ M) (wc := ((poW o q1 q2 q3 q4 q5 q6 qt cI cJ S1 S2 S3 S4 S5 S6 T sv) ++ ouW oa cJ f)) (wc' := ((poW o q1 q2 q3 q4 q5 q6 qt cI cJ S1' S2' S3' S4' S5' S6' T' sv') ++ ouW oa cJ f')) (w' := (((poW o q1 q2 q3 q4 q5 q6 qt cI cJ S1' S2' S3' S4' S5' S6' T' sv') ++ ouW oa cJ f') ++ moW qm cI cJ M)) (vx_runSW (As := [.ref o, .int x, .int y, .ref oa]) (rest := []) ⟨hx, hb, hml, hown, hts⟩ (hc _) (vx_cwSW 4 hts gL_law_L_entry rfl rfl rfl (by decide +kernel) ⟨Nat.le_of_ble_eq_true rfl, Nat.le_of_ble_eq_true rfl⟩) ⟨kBH_blind, k_preH (a := []) (z := moW qm cI cJ M) rfl hK hP hD hS hA hTT hN⟩ rfl rfl hl.1 rfl (lv_room (Nat.le_of_ble_eq_true rfl)) dL_law_1107 ⟨hkc, hks⟩) rfl rfl (k_ad2 (poW_ad _ _ _ _ _ _ _ _ _ _ _ _ _ _ _ _ _ _ _ _ _ _ _ _ _ _) rfl) hP hD hS hA (fun H locs hP hD hS => ?_)
  refine lv_istore (lv' := [(5, .int k9), (0, .ref b), (1, .ref o), (2, .ref (qm 0)), (3, .ref oa), (4, .int (nI i))]) hx hb dL_law_1110 hl (by decide) rfl (fun ls hl => ?_)
  refine lv_aload_n hx hb dL_law_1112 rfl (lv_at hl 3 rfl) ?_
  refine lv_aload_n hx hb dL_law_1113 rfl (lv_at hl 1 rfl) ?_
  refine lv_iload hx hb dL_law_1114 (lv_at hl 5 rfl) ?_
  refine lv_iconst (v := 1) hx hb dL_law_1116 (by decide) ?_
  refine lv_iadd hx hb dL_law_1117 ?_
  rw [show nI i + 1 = nI (i + 1) from nI_add i 1]
  refine va_sld hx hb hX hbl hbA hS (vp_in_nI (by omega) (by omega)) dL_law_1118 ?_
  rw [← hxe]
  refine lv_aload_n hx hb dL_law_1119 rfl (lv_at hl 1 rfl) ?_
  refine lv_iload hx hb dL_law_1120 (lv_at hl 5 rfl) ?_
  refine lv_iconst (v := 2) hx hb dL_law_1122 (by decide) ?_
  refine lv_iadd hx hb dL_law_1123 ?_
  rw [show nI i + 2 = nI (i + 2) from nI_add i 2]
  refine va_sld hx hb hX hbl hbA hS (vp_in_nI (by omega) (by omega)) dL_law_1124 ?_
  rw [← hye]
  refine k_calli (a := ((poW o q1 q2 q3 q4 q5 q6 qt cI cJ S1' S2' S3' S4' S5' S6' T' sv') ++ ouW oa cJ f')) (z := []) (wc := moW qm cI cJ M) (wc' := moW qm cI cJ (A_X5_entry_s0 M x y)) (w' := (((poW o q1 q2 q3 q4 q5 q6 qt cI cJ S1' S2' S3' S4' S5' S6' T' sv') ++ ouW oa cJ f') ++ moW qm cI cJ (A_X5_entry_s0 M x y))) (va_runV (As := [.int x, .int y]) (rest := []) ⟨hx, hb, hml, hown, hts⟩ (c_X5_entry l D qm cI cJ M x y mm hmw hm12 _) (cwV 2 hts gL_law_X5_entry rfl rfl rfl (by decide +kernel) ⟨Nat.le_of_ble_eq_true rfl, Nat.le_of_ble_eq_true rfl⟩) ⟨kB_blind, va_recv hK hP (ci := 5) (q0 := 95) rfl rfl, k_pre (a := ((poW o q1 q2 q3 q4 q5 q6 qt cI cJ S1' S2' S3' S4' S5' S6' T' sv') ++ ouW oa cJ f')) (z := []) (k_n0 _ _) hK hP hD⟩ rfl rfl hl.1 rfl (lv_room (Nat.le_of_ble_eq_true rfl)) dL_law_1125 ⟨hkc, hks⟩) (k_n0 _ _) (k_n0 _ _) (moW_ad _ _ _ _ _) hP hD hS hA (fun H locs hP hD hS => ?_)
  rw [← hM'] at hP hD
  refine lv_istore (lv' := [(6, .int (A_X5_entry_r M x y)), (5, .int k9), (0, .ref b), (1, .ref o), (2, .ref (qm 0)), (3, .ref oa), (4, .int (nI i))]) hx hb dL_law_1128 hl (by decide) rfl (fun ls hl => ?_)
  refine lv_aload_n hx hb dL_law_1130 rfl (lv_at hl 4 rfl) ?_
  refine k_calli (a := ((poW o q1 q2 q3 q4 q5 q6 qt cI cJ S1' S2' S3' S4' S5' S6' T' sv') ++ ouW oa cJ f')) (z := []) (wc := moW qm cI cJ M') (wc' := moW qm cI cJ M') (w' := (((poW o q1 q2 q3 q4 q5 q6 qt cI cJ S1' S2' S3' S4' S5' S6' T' sv') ++ ouW oa cJ f') ++ moW qm cI cJ M')) (va_runV (As := []) (rest := []) ⟨hx, hb, hml, hown, hts⟩ (c_X5_thrown l D qm cI cJ M' _) (cwV 0 hts gL_law_X5_thrown rfl rfl rfl (by decide +kernel) ⟨Nat.le_of_ble_eq_true rfl, Nat.le_of_ble_eq_true rfl⟩) ⟨kB_blind, va_recv hK hP (ci := 5) (q0 := 95) rfl rfl, k_pre (a := ((poW o q1 q2 q3 q4 q5 q6 qt cI cJ S1' S2' S3' S4' S5' S6' T' sv') ++ ouW oa cJ f')) (z := []) (k_n0 _ _) hK hP hD⟩ rfl rfl hl.1 rfl (lv_room (Nat.le_of_ble_eq_true rfl)) dL_law_1131 ⟨hkc, hks⟩) (k_n0 _ _) (k_n0 _ _) (moW_ad _ _ _ _ _) hP hD hS hA (fun H locs hP hD hS => ?_)
  refine lv_iload hx hb dL_law_1134 (lv_at hl 1 rfl) ?_
  refine lv_icmp_eq (tgt := 1141) hx hb dL_law_1136 (by decide) (fun _ => ?_) (fun c9 => absurd hk c9)
  refine lv_iload hx hb dL_law_1141 (lv_at hl 1 rfl) ?_
  refine lv_if_ne (tgt := 1158) hx hb dL_law_1143 (by decide) (fun c_k => ?_) (fun c_k => ?_)
  · skip
    refine lv_goto (tgt := 1548) hx hb dL_law_1158 (by decide) ?_
    exact K S1' S2' S3' S4' S5' S6' T' sv' f' M' hR' _ _ _ hP hD hS (lv_sub hl [2, 3, 4, 5, 6] rfl)
  · have c_k : k9 = 0 := by first | exact c_k | exact Classical.not_not.mp c_k
    refine lv_aload_n hx hb dL_law_1146 rfl (lv_at hl 5 rfl) ?_
    refine lv_iconst (v := 0) hx hb dL_law_1147 (by decide) ?_
    refine va_lald (f := f') hx hb hK hP 94 1 rfl rfl (k_in (k := 0) rfl (by decide) (by decide)) dL_law_1148 ?_
    rw [show (0 : Int32).toNatClampNeg = 0 from rfl, hB c_k]
    refine lv_iload hx hb dL_law_1149 (lv_at hl 0 rfl) ?_
    refine lv_i2l hx hb dL_law_1151 rfl ?_
    refine W.lcmp hx hb dL_law_1152 ?_
    refine lv_if_eq (tgt := 1158) hx hb dL_law_1153 (by decide) (fun _ => ?_) (fun c9 => absurd ((lg_cmp_eq _ _).mpr rfl) c9)
    refine lv_goto (tgt := 1548) hx hb dL_law_1158 (by decide) ?_
    exact K S1' S2' S3' S4' S5' S6' T' sv' f' M' hR' _ _ _ hP hD hS (lv_sub hl [2, 3, 4, 5, 6] rfl)
