set_option maxHeartbeats 1000000 in
set_option maxRecDepth 100000 in
theorem lw_c8 {p : Program} {l : Launch} {e : Env} {s : State} {m : MethodId} {below : List Frame} {meth : Method} {c : Code} {b L : Nat} {xs : Nat → Int32} {D : va_G} {cI cJ : ClassId} (C0 : lw_C p l s m meth c b L xs D cI cJ) {o : Nat} {q1 q2 q3 q4 q5 q6 qt qm : Nat → Nat} {oa : Nat} {i : Nat} (hi : i + 2 < L) {kc ks : Nat} (hkc : kc + 1 ≤ 1160) (hks : ks + 6 ≤ 10503) (K : ∀ (S1 S2 S3 S4 S5 S6 : SS) (T : TS) (sv : Int32) (f : Nat → Int64) (M : MS), ROE S2 S3 S4 S5 S6 T sv M → ∀ (H : Heap) (locs : List Loc) (ls : Array Slot), va_P D vwCl (((poW o q1 q2 q3 q4 q5 q6 qt cI cJ S1 S2 S3 S4 S5 S6 T sv) ++ ouW oa cJ f) ++ moW qm cI cJ M) H → va_D (A0 s) (((poW o q1 q2 q3 q4 q5 q6 qt cI cJ S1 S2 S3 S4 S5 S6 T sv) ++ ouW oa cJ f) ++ moW qm cI cJ M) → va_S (A0 s) s.heap H locs → lv_has ls 9 [(0, .ref b), (1, .ref o), (2, .ref (qm 0)), (3, .ref oa), (4, .int (nI i))] → W p l e room_1 s m #[Value.ref b] below meth c H locs (kc + 1) (ks + 6) (lw_Z below #[Value.ref b] s) (F0 m 1548 ls [])) {S1 S2 S3 S4 S5 S6 : SS} {T : TS} {sv : Int32} {f : Nat → Int64} {M : MS} (hRO : ROE S2 S3 S4 S5 S6 T sv M) {H : Heap} {locs : List Loc} {ls : Array Slot} (hP : va_P D vwCl (((poW o q1 q2 q3 q4 q5 q6 qt cI cJ S1 S2 S3 S4 S5 S6 T sv) ++ ouW oa cJ f) ++ moW qm cI cJ M) H) (hD : va_D (A0 s) (((poW o q1 q2 q3 q4 q5 q6 qt cI cJ S1 S2 S3 S4 S5 S6 T sv) ++ ouW oa cJ f) ++ moW qm cI cJ M)) (hS : va_S (A0 s) s.heap H locs) (hl : lv_has ls 9 [(0, .ref b), (1, .ref o), (2, .ref (qm 0)), (3, .ref oa), (4, .int (nI i))]) : W p l e room_1 s m #[Value.ref b] below meth c H locs kc ks (lw_Z below #[Value.ref b] s) (F0 m 703 ls []) := by
  obtain ⟨hx, hb, hr, hml, hown, hts, hX, hbl, hlk, hK, hTT, hN, hst, hL⟩ := C0
  have hA : ∀ q : Nat, s.heap.size ≤ q → A0 s q := fun _ h => h
  have hbA : ¬ A0 s b := Nat.not_le.mpr hbl
  obtain ⟨st, n, t, le, hR⟩ := hRO
  obtain ⟨⟨hsv, hst0, hst4⟩, ⟨hRS, ht⟩, -, -, hle, hle1, -⟩ := id hR
  obtain ⟨hok, hn6, hn, h4, hw7⟩ := RS_ok hRS
  obtain ⟨mm, hm12, hms, hmw⟩ := RS_lc hRS
  obtain ⟨x, hxe⟩ : ∃ x, x = xs (nI (i + 1)).toNatClampNeg := ⟨_, rfl⟩
  obtain ⟨M', hM'⟩ : ∃ M', M' = A_X5_pass_s0 M st n t x := ⟨_, rfl⟩
  have hQ := q_pass (S1 := S1) hR x
  obtain ⟨hk, S1', S2', S3', S4', S5', S6', T', sv', f', hW, hR', hB⟩ := Q3_n (W1 := ((poW o q1 q2 q3 q4 q5 q6 qt cI cJ S1 (A_X4_pass_s2 S1 S2 S3 S4 S5 S6 T sv n x) (A_X4_pass_s3 S1 S2 S3 S4 S5 S6 T sv n x) (A_X4_pass_s4 S1 S2 S3 S4 S5 S6 T sv n x) (A_X4_pass_s5 S1 S2 S3 S4 S5 S6 T sv n x) (A_X4_pass_s6 S1 S2 S3 S4 S5 S6 T sv n x) T (A_X4_pass_s0 S1 S2 S3 S4 S5 S6 T sv n x)) ++ ouW oa cJ (vp_updL f 0 (A_X4_pass_r S1 S2 S3 S4 S5 S6 T sv n x).toInt64))) (W0 := ((poW o q1 q2 q3 q4 q5 q6 qt cI cJ S1 S2 S3 S4 S5 S6 T sv) ++ ouW oa cJ f)) (P := lw_P9 o q1 q2 q3 q4 q5 q6 qt oa cI cJ (A_X5_pass_s0 M st n t x) (k_code iae (A_X4_pass_t S1 S2 S3 S4 S5 S6 T sv n x)) ((A_X5_pass_r M st n t x).toInt64)) hQ (by decide) (fun he h9 => ⟨_, _, _, _, _, _, _, _, _, rfl, h9, fun _ => by rw [pk_uLs, he]⟩) (fun h9 hn9 => ⟨_, _, _, _, _, _, _, _, _, rfl, h9, fun hz => absurd hz (k_code_n hn9)⟩)
  rw [← hM'] at hk hR'
  have hc := h_pass l D o q1 q2 q3 q4 q5 q6 qt cI cJ S1 S2 S3 S4 S5 S6 T sv oa f x n hn hn6 hst (Q3_t hQ)
  rw [hW] at hc
  obtain ⟨k9, hk9⟩ : ∃ k9, k9 = k_code iae (A_X4_pass_t S1 S2 S3 S4 S5 S6 T sv n x) := ⟨_, rfl⟩
  rw [← hk9] at hk hB hc
  refine lv_aload_n hx hb dL_law_703 rfl (lv_at hl 1 rfl) ?_
  refine lv_aload_n hx hb dL_law_704 rfl (lv_at hl 0 rfl) ?_
  refine lv_iload hx hb dL_law_705 (lv_at hl 4 rfl) ?_
  refine lv_iconst (v := 1) hx hb dL_law_707 (by decide) ?_
  refine lv_iadd hx hb dL_law_708 ?_
  rw [show nI i + 1 = nI (i + 1) from nI_add i 1]
  refine va_sld hx hb hX hbl hbA hS (vp_in_nI (by omega) (by omega)) dL_law_709 ?_
  rw [← hxe]
  refine lv_aload_n hx hb dL_law_710 rfl (lv_at hl 3 rfl) ?_
  refine k_callH (a := []) (z := moW qm cI cJ M) (wc := ((poW o q1 q2 q3 q4 q5 q6 qt cI cJ S1 S2 S3 S4 S5 S6 T sv) ++ ouW oa cJ f)) (wc' := ((poW o q1 q2 q3 q4 q5 q6 qt cI cJ S1' S2' S3' S4' S5' S6' T' sv') ++ ouW oa cJ f')) (w' := (((poW o q1 q2 q3 q4 q5 q6 qt cI cJ S1' S2' S3' S4' S5' S6' T' sv') ++ ouW oa cJ f') ++ moW qm cI cJ M)) (vx_runSW (As := [.ref o, .int x, .ref oa]) (rest := []) ⟨hx, hb, hml, hown, hts⟩ (hc _) (vx_cwSW 3 hts gL_law_L_pass rfl rfl rfl (by decide +kernel) ⟨Nat.le_of_ble_eq_true rfl, Nat.le_of_ble_eq_true rfl⟩) ⟨kBH_blind, k_preH (a := []) (z := moW qm cI cJ M) rfl hK hP hD hS hA hTT hN⟩ rfl rfl hl.1 rfl (lv_room (Nat.le_of_ble_eq_true rfl)) dL_law_711 ⟨hkc, hks⟩) rfl rfl (k_ad2 (poW_ad _ _ _ _ _ _ _ _ _ _ _ _ _ _ _ _ _ _ _ _ _ _ _ _ _ _) rfl) hP hD hS hA (fun H locs hP hD hS => ?_)
  refine lv_istore (lv' := [(5, .int k9), (0, .ref b), (1, .ref o), (2, .ref (qm 0)), (3, .ref oa), (4, .int (nI i))]) hx hb dL_law_714 hl (by decide) rfl (fun ls hl => ?_)
  refine lv_aload_n hx hb dL_law_716 rfl (lv_at hl 3 rfl) ?_
  refine lv_aload_n hx hb dL_law_717 rfl (lv_at hl 1 rfl) ?_
  refine lv_iload hx hb dL_law_718 (lv_at hl 5 rfl) ?_
  refine lv_iconst (v := 1) hx hb dL_law_720 (by decide) ?_
  refine lv_iadd hx hb dL_law_721 ?_
  rw [show nI i + 1 = nI (i + 1) from nI_add i 1]
  refine va_sld hx hb hX hbl hbA hS (vp_in_nI (by omega) (by omega)) dL_law_722 ?_
  rw [← hxe]
  refine k_calli (a := ((poW o q1 q2 q3 q4 q5 q6 qt cI cJ S1' S2' S3' S4' S5' S6' T' sv') ++ ouW oa cJ f')) (z := []) (wc := moW qm cI cJ M) (wc' := moW qm cI cJ (A_X5_pass_s0 M st n t x)) (w' := (((poW o q1 q2 q3 q4 q5 q6 qt cI cJ S1' S2' S3' S4' S5' S6' T' sv') ++ ouW oa cJ f') ++ moW qm cI cJ (A_X5_pass_s0 M st n t x))) (va_runV (As := [.int x]) (rest := []) ⟨hx, hb, hml, hown, hts⟩ (c_X5_pass l D qm cI cJ M x st hst0 hst4 n t hok hn6 (by omega) _) (cwV 1 hts gL_law_X5_pass rfl rfl rfl (by decide +kernel) ⟨Nat.le_of_ble_eq_true rfl, Nat.le_of_ble_eq_true rfl⟩) ⟨kB_blind, va_recv hK hP (ci := 5) (q0 := 95) rfl rfl, k_pre (a := ((poW o q1 q2 q3 q4 q5 q6 qt cI cJ S1' S2' S3' S4' S5' S6' T' sv') ++ ouW oa cJ f')) (z := []) (k_n0 _ _) hK hP hD⟩ rfl rfl hl.1 rfl (lv_room (Nat.le_of_ble_eq_true rfl)) dL_law_723 ⟨hkc, hks⟩) (k_n0 _ _) (k_n0 _ _) (moW_ad _ _ _ _ _) hP hD hS hA (fun H locs hP hD hS => ?_)
  rw [← hM'] at hP hD
  refine lv_istore (lv' := [(6, .int (A_X5_pass_r M st n t x)), (5, .int k9), (0, .ref b), (1, .ref o), (2, .ref (qm 0)), (3, .ref oa), (4, .int (nI i))]) hx hb dL_law_726 hl (by decide) rfl (fun ls hl => ?_)
  refine lv_aload_n hx hb dL_law_728 rfl (lv_at hl 4 rfl) ?_
  refine k_calli (a := ((poW o q1 q2 q3 q4 q5 q6 qt cI cJ S1' S2' S3' S4' S5' S6' T' sv') ++ ouW oa cJ f')) (z := []) (wc := moW qm cI cJ M') (wc' := moW qm cI cJ M') (w' := (((poW o q1 q2 q3 q4 q5 q6 qt cI cJ S1' S2' S3' S4' S5' S6' T' sv') ++ ouW oa cJ f') ++ moW qm cI cJ M')) (va_runV (As := []) (rest := []) ⟨hx, hb, hml, hown, hts⟩ (c_X5_thrown l D qm cI cJ M' _) (cwV 0 hts gL_law_X5_thrown rfl rfl rfl (by decide +kernel) ⟨Nat.le_of_ble_eq_true rfl, Nat.le_of_ble_eq_true rfl⟩) ⟨kB_blind, va_recv hK hP (ci := 5) (q0 := 95) rfl rfl, k_pre (a := ((poW o q1 q2 q3 q4 q5 q6 qt cI cJ S1' S2' S3' S4' S5' S6' T' sv') ++ ouW oa cJ f')) (z := []) (k_n0 _ _) hK hP hD⟩ rfl rfl hl.1 rfl (lv_room (Nat.le_of_ble_eq_true rfl)) dL_law_729 ⟨hkc, hks⟩) (k_n0 _ _) (k_n0 _ _) (moW_ad _ _ _ _ _) hP hD hS hA (fun H locs hP hD hS => ?_)
  refine lv_iload hx hb dL_law_732 (lv_at hl 1 rfl) ?_
  refine lv_icmp_eq (tgt := 739) hx hb dL_law_734 (by decide) (fun _ => ?_) (fun c9 => absurd hk c9)
  refine lv_iload hx hb dL_law_739 (lv_at hl 1 rfl) ?_
  refine lv_if_ne (tgt := 756) hx hb dL_law_741 (by decide) (fun c_k => ?_) (fun c_k => ?_)
  · skip
    refine lv_goto (tgt := 1548) hx hb dL_law_756 (by decide) ?_
    exact K S1' S2' S3' S4' S5' S6' T' sv' f' M' hR' _ _ _ hP hD hS (lv_sub hl [2, 3, 4, 5, 6] rfl)
  · have c_k : k9 = 0 := by first | exact c_k | exact Classical.not_not.mp c_k
    refine lv_aload_n hx hb dL_law_744 rfl (lv_at hl 5 rfl) ?_
    refine lv_iconst (v := 0) hx hb dL_law_745 (by decide) ?_
    refine va_lald (f := f') hx hb hK hP 94 1 rfl rfl (k_in (k := 0) rfl (by decide) (by decide)) dL_law_746 ?_
    rw [show (0 : Int32).toNatClampNeg = 0 from rfl, hB c_k]
    refine lv_iload hx hb dL_law_747 (lv_at hl 0 rfl) ?_
    refine lv_i2l hx hb dL_law_749 rfl ?_
    refine W.lcmp hx hb dL_law_750 ?_
    refine lv_if_eq (tgt := 756) hx hb dL_law_751 (by decide) (fun _ => ?_) (fun c9 => absurd ((lg_cmp_eq _ _).mpr rfl) c9)
    refine lv_goto (tgt := 1548) hx hb dL_law_756 (by decide) ?_
    exact K S1' S2' S3' S4' S5' S6' T' sv' f' M' hR' _ _ _ hP hD hS (lv_sub hl [2, 3, 4, 5, 6] rfl)

set_option maxHeartbeats 1000000 in
set_option maxRecDepth 100000 in
theorem lw_c9 {p : Program} {l : Launch} {e : Env} {s : State} {m : MethodId} {below : List Frame} {meth : Method} {c : Code} {b L : Nat} {xs : Nat → Int32} {D : va_G} {cI cJ : ClassId} (C0 : lw_C p l s m meth c b L xs D cI cJ) {o : Nat} {q1 q2 q3 q4 q5 q6 qt qm : Nat → Nat} {oa : Nat} {i : Nat} (hi : i + 2 < L) {kc ks : Nat} (hkc : kc + 1 ≤ 1160) (hks : ks + 6 ≤ 10503) (K : ∀ (S1 S2 S3 S4 S5 S6 : SS) (T : TS) (sv : Int32) (f : Nat → Int64) (M : MS), ROE S2 S3 S4 S5 S6 T sv M → ∀ (H : Heap) (locs : List Loc) (ls : Array Slot), va_P D vwCl (((poW o q1 q2 q3 q4 q5 q6 qt cI cJ S1 S2 S3 S4 S5 S6 T sv) ++ ouW oa cJ f) ++ moW qm cI cJ M) H → va_D (A0 s) (((poW o q1 q2 q3 q4 q5 q6 qt cI cJ S1 S2 S3 S4 S5 S6 T sv) ++ ouW oa cJ f) ++ moW qm cI cJ M) → va_S (A0 s) s.heap H locs → lv_has ls 9 [(0, .ref b), (1, .ref o), (2, .ref (qm 0)), (3, .ref oa), (4, .int (nI i))] → W p l e room_1 s m #[Value.ref b] below meth c H locs (kc + 1) (ks + 6) (lw_Z below #[Value.ref b] s) (F0 m 1548 ls [])) {S1 S2 S3 S4 S5 S6 : SS} {T : TS} {sv : Int32} {f : Nat → Int64} {M : MS} (hRO : ROE S2 S3 S4 S5 S6 T sv M) {H : Heap} {locs : List Loc} {ls : Array Slot} (hP : va_P D vwCl (((poW o q1 q2 q3 q4 q5 q6 qt cI cJ S1 S2 S3 S4 S5 S6 T sv) ++ ouW oa cJ f) ++ moW qm cI cJ M) H) (hD : va_D (A0 s) (((poW o q1 q2 q3 q4 q5 q6 qt cI cJ S1 S2 S3 S4 S5 S6 T sv) ++ ouW oa cJ f) ++ moW qm cI cJ M)) (hS : va_S (A0 s) s.heap H locs) (hl : lv_has ls 9 [(0, .ref b), (1, .ref o), (2, .ref (qm 0)), (3, .ref oa), (4, .int (nI i))]) : W p l e room_1 s m #[Value.ref b] below meth c H locs kc ks (lw_Z below #[Value.ref b] s) (F0 m 759 ls []) := by
  obtain ⟨hx, hb, hr, hml, hown, hts, hX, hbl, hlk, hK, hTT, hN, hst, hL⟩ := C0
  have hA : ∀ q : Nat, s.heap.size ≤ q → A0 s q := fun _ h => h
  have hbA : ¬ A0 s b := Nat.not_le.mpr hbl
  obtain ⟨st, n, t, le, hR⟩ := hRO
  obtain ⟨⟨hsv, hst0, hst4⟩, ⟨hRS, ht⟩, -, -, hle, hle1, -⟩ := id hR
  obtain ⟨hok, hn6, hn, h4, hw7⟩ := RS_ok hRS
  obtain ⟨mm, hm12, hms, hmw⟩ := RS_lc hRS
  obtain ⟨x, hxe⟩ : ∃ x, x = xs (nI (i + 1)).toNatClampNeg := ⟨_, rfl⟩
  obtain ⟨y, hye⟩ : ∃ y, y = xs (nI (i + 2)).toNatClampNeg := ⟨_, rfl⟩
  obtain ⟨M', hM'⟩ : ∃ M', M' = A_X5_pump_s0 M x y := ⟨_, rfl⟩
  have hQ := q_pump (S1 := S1) hR x y
  obtain ⟨hk, S1', S2', S3', S4', S5', S6', T', sv', f', hW, hR', hB⟩ := Q3_n (W1 := ((poW o q1 q2 q3 q4 q5 q6 qt cI cJ S1 S2 S3 S4 S5 S6 T sv) ++ ouW oa cJ (vp_updL f 0 (A_X4_pump_r S1 S2 S3 S4 S5 S6 T sv n x y).toInt64))) (W0 := ((poW o q1 q2 q3 q4 q5 q6 qt cI cJ S1 S2 S3 S4 S5 S6 T sv) ++ ouW oa cJ f)) (P := lw_P9 o q1 q2 q3 q4 q5 q6 qt oa cI cJ (A_X5_pump_s0 M x y) (k_code iob (A_X4_pump_t S1 S2 S3 S4 S5 S6 T sv n x y)) ((A_X5_pump_r M x y).toInt64)) hQ (by decide) (fun he h9 => ⟨_, _, _, _, _, _, _, _, _, rfl, h9, fun _ => by rw [pk_uLs, he]⟩) (fun h9 hn9 => ⟨_, _, _, _, _, _, _, _, _, rfl, h9, fun hz => absurd hz (k_code_n hn9)⟩)
  rw [← hM'] at hk hR'
  have hc := h_pump l D o q1 q2 q3 q4 q5 q6 qt cI cJ S1 S2 S3 S4 S5 S6 T sv oa f x y n hn hn6 hst (Q3_t hQ)
  rw [hW] at hc
  obtain ⟨k9, hk9⟩ : ∃ k9, k9 = k_code iob (A_X4_pump_t S1 S2 S3 S4 S5 S6 T sv n x y) := ⟨_, rfl⟩
  rw [← hk9] at hk hB hc
  refine lv_aload_n hx hb dL_law_759 rfl (lv_at hl 1 rfl) ?_
  refine lv_aload_n hx hb dL_law_760 rfl (lv_at hl 0 rfl) ?_
  refine lv_iload hx hb dL_law_761 (lv_at hl 4 rfl) ?_
  refine lv_iconst (v := 1) hx hb dL_law_763 (by decide) ?_
  refine lv_iadd hx hb dL_law_764 ?_
  rw [show nI i + 1 = nI (i + 1) from nI_add i 1]
  refine va_sld hx hb hX hbl hbA hS (vp_in_nI (by omega) (by omega)) dL_law_765 ?_
  rw [← hxe]
  refine lv_aload_n hx hb dL_law_766 rfl (lv_at hl 0 rfl) ?_
  refine lv_iload hx hb dL_law_767 (lv_at hl 4 rfl) ?_
  refine lv_iconst (v := 2) hx hb dL_law_769 (by decide) ?_
  refine lv_iadd hx hb dL_law_770 ?_
  rw [show nI i + 2 = nI (i + 2) from nI_add i 2]
  refine va_sld hx hb hX hbl hbA hS (vp_in_nI (by omega) (by omega)) dL_law_771 ?_
  rw [← hye]
  refine lv_aload_n hx hb dL_law_772 rfl (lv_at hl 3 rfl) ?_
  refine k_callH (a := []) (z := moW qm cI cJ M) (wc := ((poW o q1 q2 q3 q4 q5 q6 qt cI cJ S1 S2 S3 S4 S5 S6 T sv) ++ ouW oa cJ f)) (wc' := ((poW o q1 q2 q3 q4 q5 q6 qt cI cJ S1' S2' S3' S4' S5' S6' T' sv') ++ ouW oa cJ f')) (w' := (((poW o q1 q2 q3 q4 q5 q6 qt cI cJ S1' S2' S3' S4' S5' S6' T' sv') ++ ouW oa cJ f') ++ moW qm cI cJ M)) (vx_runSW (As := [.ref o, .int x, .int y, .ref oa]) (rest := []) ⟨hx, hb, hml, hown, hts⟩ (hc _) (vx_cwSW 4 hts gL_law_L_pump rfl rfl rfl (by decide +kernel) ⟨Nat.le_of_ble_eq_true rfl, Nat.le_of_ble_eq_true rfl⟩) ⟨kBH_blind, k_preH (a := []) (z := moW qm cI cJ M) rfl hK hP hD hS hA hTT hN⟩ rfl rfl hl.1 rfl (lv_room (Nat.le_of_ble_eq_true rfl)) dL_law_773 ⟨hkc, hks⟩) rfl rfl (k_ad2 (poW_ad _ _ _ _ _ _ _ _ _ _ _ _ _ _ _ _ _ _ _ _ _ _ _ _ _ _) rfl) hP hD hS hA (fun H locs hP hD hS => ?_)
  refine lv_istore (lv' := [(5, .int k9), (0, .ref b), (1, .ref o), (2, .ref (qm 0)), (3, .ref oa), (4, .int (nI i))]) hx hb dL_law_776 hl (by decide) rfl (fun ls hl => ?_)
  refine lv_aload_n hx hb dL_law_778 rfl (lv_at hl 3 rfl) ?_
  refine lv_aload_n hx hb dL_law_779 rfl (lv_at hl 1 rfl) ?_
  refine lv_iload hx hb dL_law_780 (lv_at hl 5 rfl) ?_
  refine lv_iconst (v := 1) hx hb dL_law_782 (by decide) ?_
  refine lv_iadd hx hb dL_law_783 ?_
  rw [show nI i + 1 = nI (i + 1) from nI_add i 1]
  refine va_sld hx hb hX hbl hbA hS (vp_in_nI (by omega) (by omega)) dL_law_784 ?_
  rw [← hxe]
  refine lv_aload_n hx hb dL_law_785 rfl (lv_at hl 1 rfl) ?_
  refine lv_iload hx hb dL_law_786 (lv_at hl 5 rfl) ?_
  refine lv_iconst (v := 2) hx hb dL_law_788 (by decide) ?_
  refine lv_iadd hx hb dL_law_789 ?_
  rw [show nI i + 2 = nI (i + 2) from nI_add i 2]
  refine va_sld hx hb hX hbl hbA hS (vp_in_nI (by omega) (by omega)) dL_law_790 ?_
  rw [← hye]
  refine k_calli (a := ((poW o q1 q2 q3 q4 q5 q6 qt cI cJ S1' S2' S3' S4' S5' S6' T' sv') ++ ouW oa cJ f')) (z := []) (wc := moW qm cI cJ M) (wc' := moW qm cI cJ (A_X5_pump_s0 M x y)) (w' := (((poW o q1 q2 q3 q4 q5 q6 qt cI cJ S1' S2' S3' S4' S5' S6' T' sv') ++ ouW oa cJ f') ++ moW qm cI cJ (A_X5_pump_s0 M x y))) (va_runV (As := [.int x, .int y]) (rest := []) ⟨hx, hb, hml, hown, hts⟩ (c_X5_pump l D qm cI cJ M x y n hw7 hn6 (RS_perm hRS) _) (cwV 2 hts gL_law_X5_pump rfl rfl rfl (by decide +kernel) ⟨Nat.le_of_ble_eq_true rfl, Nat.le_of_ble_eq_true rfl⟩) ⟨kB_blind, va_recv hK hP (ci := 5) (q0 := 95) rfl rfl, k_pre (a := ((poW o q1 q2 q3 q4 q5 q6 qt cI cJ S1' S2' S3' S4' S5' S6' T' sv') ++ ouW oa cJ f')) (z := []) (k_n0 _ _) hK hP hD⟩ rfl rfl hl.1 rfl (lv_room (Nat.le_of_ble_eq_true rfl)) dL_law_791 ⟨hkc, hks⟩) (k_n0 _ _) (k_n0 _ _) (moW_ad _ _ _ _ _) hP hD hS hA (fun H locs hP hD hS => ?_)
  rw [← hM'] at hP hD
  refine lv_istore (lv' := [(6, .int (A_X5_pump_r M x y)), (5, .int k9), (0, .ref b), (1, .ref o), (2, .ref (qm 0)), (3, .ref oa), (4, .int (nI i))]) hx hb dL_law_794 hl (by decide) rfl (fun ls hl => ?_)
  refine lv_aload_n hx hb dL_law_796 rfl (lv_at hl 4 rfl) ?_
  refine k_calli (a := ((poW o q1 q2 q3 q4 q5 q6 qt cI cJ S1' S2' S3' S4' S5' S6' T' sv') ++ ouW oa cJ f')) (z := []) (wc := moW qm cI cJ M') (wc' := moW qm cI cJ M') (w' := (((poW o q1 q2 q3 q4 q5 q6 qt cI cJ S1' S2' S3' S4' S5' S6' T' sv') ++ ouW oa cJ f') ++ moW qm cI cJ M')) (va_runV (As := []) (rest := []) ⟨hx, hb, hml, hown, hts⟩ (c_X5_thrown l D qm cI cJ M' _) (cwV 0 hts gL_law_X5_thrown rfl rfl rfl (by decide +kernel) ⟨Nat.le_of_ble_eq_true rfl, Nat.le_of_ble_eq_true rfl⟩) ⟨kB_blind, va_recv hK hP (ci := 5) (q0 := 95) rfl rfl, k_pre (a := ((poW o q1 q2 q3 q4 q5 q6 qt cI cJ S1' S2' S3' S4' S5' S6' T' sv') ++ ouW oa cJ f')) (z := []) (k_n0 _ _) hK hP hD⟩ rfl rfl hl.1 rfl (lv_room (Nat.le_of_ble_eq_true rfl)) dL_law_797 ⟨hkc, hks⟩) (k_n0 _ _) (k_n0 _ _) (moW_ad _ _ _ _ _) hP hD hS hA (fun H locs hP hD hS => ?_)
  refine lv_iload hx hb dL_law_800 (lv_at hl 1 rfl) ?_
  refine lv_icmp_eq (tgt := 807) hx hb dL_law_802 (by decide) (fun _ => ?_) (fun c9 => absurd hk c9)
  refine lv_iload hx hb dL_law_807 (lv_at hl 1 rfl) ?_
  refine lv_if_ne (tgt := 824) hx hb dL_law_809 (by decide) (fun c_k => ?_) (fun c_k => ?_)
  · skip
    refine lv_goto (tgt := 1548) hx hb dL_law_824 (by decide) ?_
    exact K S1' S2' S3' S4' S5' S6' T' sv' f' M' hR' _ _ _ hP hD hS (lv_sub hl [2, 3, 4, 5, 6] rfl)
  · have c_k : k9 = 0 := by first | exact c_k | exact Classical.not_not.mp c_k
    refine lv_aload_n hx hb dL_law_812 rfl (lv_at hl 5 rfl) ?_
    refine lv_iconst (v := 0) hx hb dL_law_813 (by decide) ?_
    refine va_lald (f := f') hx hb hK hP 94 1 rfl rfl (k_in (k := 0) rfl (by decide) (by decide)) dL_law_814 ?_
    rw [show (0 : Int32).toNatClampNeg = 0 from rfl, hB c_k]
    refine lv_iload hx hb dL_law_815 (lv_at hl 0 rfl) ?_
    refine lv_i2l hx hb dL_law_817 rfl ?_
    refine W.lcmp hx hb dL_law_818 ?_
    refine lv_if_eq (tgt := 824) hx hb dL_law_819 (by decide) (fun _ => ?_) (fun c9 => absurd ((lg_cmp_eq _ _).mpr rfl) c9)
    refine lv_goto (tgt := 1548) hx hb dL_law_824 (by decide) ?_
    exact K S1' S2' S3' S4' S5' S6' T' sv' f' M' hR' _ _ _ hP hD hS (lv_sub hl [2, 3, 4, 5, 6] rfl)

set_option maxHeartbeats 1000000 in
set_option maxRecDepth 100000 in
theorem lw_c10 {p : Program} {l : Launch} {e : Env} {s : State} {m : MethodId} {below : List Frame} {meth : Method} {c : Code} {b L : Nat} {xs : Nat → Int32} {D : va_G} {cI cJ : ClassId} (C0 : lw_C p l s m meth c b L xs D cI cJ) {o : Nat} {q1 q2 q3 q4 q5 q6 qt qm : Nat → Nat} {oa : Nat} {i : Nat} (hi : i + 2 < L) {kc ks : Nat} (hkc : kc + 1 ≤ 1160) (hks : ks + 6 ≤ 10503) (K : ∀ (S1 S2 S3 S4 S5 S6 : SS) (T : TS) (sv : Int32) (f : Nat → Int64) (M : MS), ROE S2 S3 S4 S5 S6 T sv M → ∀ (H : Heap) (locs : List Loc) (ls : Array Slot), va_P D vwCl (((poW o q1 q2 q3 q4 q5 q6 qt cI cJ S1 S2 S3 S4 S5 S6 T sv) ++ ouW oa cJ f) ++ moW qm cI cJ M) H → va_D (A0 s) (((poW o q1 q2 q3 q4 q5 q6 qt cI cJ S1 S2 S3 S4 S5 S6 T sv) ++ ouW oa cJ f) ++ moW qm cI cJ M) → va_S (A0 s) s.heap H locs → lv_has ls 9 [(0, .ref b), (1, .ref o), (2, .ref (qm 0)), (3, .ref oa), (4, .int (nI i))] → W p l e room_1 s m #[Value.ref b] below meth c H locs (kc + 1) (ks + 6) (lw_Z below #[Value.ref b] s) (F0 m 1548 ls [])) {S1 S2 S3 S4 S5 S6 : SS} {T : TS} {sv : Int32} {f : Nat → Int64} {M : MS} (hRO : ROE S2 S3 S4 S5 S6 T sv M) {H : Heap} {locs : List Loc} {ls : Array Slot} (hP : va_P D vwCl (((poW o q1 q2 q3 q4 q5 q6 qt cI cJ S1 S2 S3 S4 S5 S6 T sv) ++ ouW oa cJ f) ++ moW qm cI cJ M) H) (hD : va_D (A0 s) (((poW o q1 q2 q3 q4 q5 q6 qt cI cJ S1 S2 S3 S4 S5 S6 T sv) ++ ouW oa cJ f) ++ moW qm cI cJ M)) (hS : va_S (A0 s) s.heap H locs) (hl : lv_has ls 9 [(0, .ref b), (1, .ref o), (2, .ref (qm 0)), (3, .ref oa), (4, .int (nI i))]) : W p l e room_1 s m #[Value.ref b] below meth c H locs kc ks (lw_Z below #[Value.ref b] s) (F0 m 827 ls []) := by
  obtain ⟨hx, hb, hr, hml, hown, hts, hX, hbl, hlk, hK, hTT, hN, hst, hL⟩ := C0
  have hA : ∀ q : Nat, s.heap.size ≤ q → A0 s q := fun _ h => h
  have hbA : ¬ A0 s b := Nat.not_le.mpr hbl
  obtain ⟨st, n, t, le, hR⟩ := hRO
  obtain ⟨⟨hsv, hst0, hst4⟩, ⟨hRS, ht⟩, -, -, hle, hle1, -⟩ := id hR
  obtain ⟨hok, hn6, hn, h4, hw7⟩ := RS_ok hRS
  obtain ⟨mm, hm12, hms, hmw⟩ := RS_lc hRS
  obtain ⟨x, hxe⟩ : ∃ x, x = xs (nI (i + 1)).toNatClampNeg := ⟨_, rfl⟩
  obtain ⟨M', hM'⟩ : ∃ M', M' = A_X5_demand_s0 M x := ⟨_, rfl⟩
  have hQ := q_demand (S1 := S1) hR x
  obtain ⟨hk, S1', S2', S3', S4', S5', S6', T', sv', f', hW, hR', hB⟩ := Q2_n (W1 := ((poW o q1 q2 q3 q4 q5 q6 qt cI cJ S1 S2 S3 S4 S5 S6 T sv) ++ ouW oa cJ (vp_updL f 0 (A_X4_demand_r S1 S2 S3 S4 S5 S6 T sv x).toInt64))) (W0 := ((poW o q1 q2 q3 q4 q5 q6 qt cI cJ S1 S2 S3 S4 S5 S6 T sv) ++ ouW oa cJ f)) (P := lw_P9 o q1 q2 q3 q4 q5 q6 qt oa cI cJ (A_X5_demand_s0 M x) (k_code iob (A_X4_demand_t S1 S2 S3 S4 S5 S6 T sv x)) ((A_X5_demand_r M x).toInt64)) hQ (fun he h9 => ⟨_, _, _, _, _, _, _, _, _, rfl, h9, fun _ => by rw [pk_uLs, he]⟩) (fun h9 hn9 => ⟨_, _, _, _, _, _, _, _, _, rfl, h9, fun hz => absurd hz (k_code_n hn9)⟩)
  rw [← hM'] at hk hR'
  have hc := h_demand l D o q1 q2 q3 q4 q5 q6 qt cI cJ S1 S2 S3 S4 S5 S6 T sv oa f x hst (Q2_t hQ)
  rw [hW] at hc
  obtain ⟨k9, hk9⟩ : ∃ k9, k9 = k_code iob (A_X4_demand_t S1 S2 S3 S4 S5 S6 T sv x) := ⟨_, rfl⟩
  rw [← hk9] at hk hB hc
  refine lv_aload_n hx hb dL_law_827 rfl (lv_at hl 1 rfl) ?_
  refine lv_aload_n hx hb dL_law_828 rfl (lv_at hl 0 rfl) ?_
  refine lv_iload hx hb dL_law_829 (lv_at hl 4 rfl) ?_
  refine lv_iconst (v := 1) hx hb dL_law_831 (by decide) ?_
  refine lv_iadd hx hb dL_law_832 ?_
  rw [show nI i + 1 = nI (i + 1) from nI_add i 1]
  refine va_sld hx hb hX hbl hbA hS (vp_in_nI (by omega) (by omega)) dL_law_833 ?_
  rw [← hxe]
  refine lv_aload_n hx hb dL_law_834 rfl (lv_at hl 3 rfl) ?_
  refine k_callH (a := []) (z := moW qm cI cJ M) (wc := ((poW o q1 q2 q3 q4 q5 q6 qt cI cJ S1 S2 S3 S4 S5 S6 T sv) ++ ouW oa cJ f)) (wc' := ((poW o q1 q2 q3 q4 q5 q6 qt cI cJ S1' S2' S3' S4' S5' S6' T' sv') ++ ouW oa cJ f')) (w' := (((poW o q1 q2 q3 q4 q5 q6 qt cI cJ S1' S2' S3' S4' S5' S6' T' sv') ++ ouW oa cJ f') ++ moW qm cI cJ M)) (vx_runSW (As := [.ref o, .int x, .ref oa]) (rest := []) ⟨hx, hb, hml, hown, hts⟩ (hc _) (vx_cwSW 3 hts gL_law_L_demand rfl rfl rfl (by decide +kernel) ⟨Nat.le_of_ble_eq_true rfl, Nat.le_of_ble_eq_true rfl⟩) ⟨kBH_blind, k_preH (a := []) (z := moW qm cI cJ M) rfl hK hP hD hS hA hTT hN⟩ rfl rfl hl.1 rfl (lv_room (Nat.le_of_ble_eq_true rfl)) dL_law_835 ⟨hkc, hks⟩) rfl rfl (k_ad2 (poW_ad _ _ _ _ _ _ _ _ _ _ _ _ _ _ _ _ _ _ _ _ _ _ _ _ _ _) rfl) hP hD hS hA (fun H locs hP hD hS => ?_)
  refine lv_istore (lv' := [(5, .int k9), (0, .ref b), (1, .ref o), (2, .ref (qm 0)), (3, .ref oa), (4, .int (nI i))]) hx hb dL_law_838 hl (by decide) rfl (fun ls hl => ?_)
  refine lv_aload_n hx hb dL_law_840 rfl (lv_at hl 3 rfl) ?_
  refine lv_aload_n hx hb dL_law_841 rfl (lv_at hl 1 rfl) ?_
  refine lv_iload hx hb dL_law_842 (lv_at hl 5 rfl) ?_
  refine lv_iconst (v := 1) hx hb dL_law_844 (by decide) ?_
  refine lv_iadd hx hb dL_law_845 ?_
  rw [show nI i + 1 = nI (i + 1) from nI_add i 1]
  refine va_sld hx hb hX hbl hbA hS (vp_in_nI (by omega) (by omega)) dL_law_846 ?_
  rw [← hxe]
  refine k_calli (a := ((poW o q1 q2 q3 q4 q5 q6 qt cI cJ S1' S2' S3' S4' S5' S6' T' sv') ++ ouW oa cJ f')) (z := []) (wc := moW qm cI cJ M) (wc' := moW qm cI cJ (A_X5_demand_s0 M x)) (w' := (((poW o q1 q2 q3 q4 q5 q6 qt cI cJ S1' S2' S3' S4' S5' S6' T' sv') ++ ouW oa cJ f') ++ moW qm cI cJ (A_X5_demand_s0 M x))) (va_runV (As := [.int x]) (rest := []) ⟨hx, hb, hml, hown, hts⟩ (c_X5_demand l D qm cI cJ M x _) (cwV 1 hts gL_law_X5_demand rfl rfl rfl (by decide +kernel) ⟨Nat.le_of_ble_eq_true rfl, Nat.le_of_ble_eq_true rfl⟩) ⟨kB_blind, va_recv hK hP (ci := 5) (q0 := 95) rfl rfl, k_pre (a := ((poW o q1 q2 q3 q4 q5 q6 qt cI cJ S1' S2' S3' S4' S5' S6' T' sv') ++ ouW oa cJ f')) (z := []) (k_n0 _ _) hK hP hD⟩ rfl rfl hl.1 rfl (lv_room (Nat.le_of_ble_eq_true rfl)) dL_law_847 ⟨hkc, hks⟩) (k_n0 _ _) (k_n0 _ _) (moW_ad _ _ _ _ _) hP hD hS hA (fun H locs hP hD hS => ?_)
  rw [← hM'] at hP hD
  refine lv_istore (lv' := [(6, .int (A_X5_demand_r M x)), (5, .int k9), (0, .ref b), (1, .ref o), (2, .ref (qm 0)), (3, .ref oa), (4, .int (nI i))]) hx hb dL_law_850 hl (by decide) rfl (fun ls hl => ?_)
  refine lv_aload_n hx hb dL_law_852 rfl (lv_at hl 4 rfl) ?_
  refine k_calli (a := ((poW o q1 q2 q3 q4 q5 q6 qt cI cJ S1' S2' S3' S4' S5' S6' T' sv') ++ ouW oa cJ f')) (z := []) (wc := moW qm cI cJ M') (wc' := moW qm cI cJ M') (w' := (((poW o q1 q2 q3 q4 q5 q6 qt cI cJ S1' S2' S3' S4' S5' S6' T' sv') ++ ouW oa cJ f') ++ moW qm cI cJ M')) (va_runV (As := []) (rest := []) ⟨hx, hb, hml, hown, hts⟩ (c_X5_thrown l D qm cI cJ M' _) (cwV 0 hts gL_law_X5_thrown rfl rfl rfl (by decide +kernel) ⟨Nat.le_of_ble_eq_true rfl, Nat.le_of_ble_eq_true rfl⟩) ⟨kB_blind, va_recv hK hP (ci := 5) (q0 := 95) rfl rfl, k_pre (a := ((poW o q1 q2 q3 q4 q5 q6 qt cI cJ S1' S2' S3' S4' S5' S6' T' sv') ++ ouW oa cJ f')) (z := []) (k_n0 _ _) hK hP hD⟩ rfl rfl hl.1 rfl (lv_room (Nat.le_of_ble_eq_true rfl)) dL_law_853 ⟨hkc, hks⟩) (k_n0 _ _) (k_n0 _ _) (moW_ad _ _ _ _ _) hP hD hS hA (fun H locs hP hD hS => ?_)
  refine lv_iload hx hb dL_law_856 (lv_at hl 1 rfl) ?_
  refine lv_icmp_eq (tgt := 863) hx hb dL_law_858 (by decide) (fun _ => ?_) (fun c9 => absurd hk c9)
  refine lv_iload hx hb dL_law_863 (lv_at hl 1 rfl) ?_
  refine lv_if_ne (tgt := 880) hx hb dL_law_865 (by decide) (fun c_k => ?_) (fun c_k => ?_)
  · skip
    refine lv_goto (tgt := 1548) hx hb dL_law_880 (by decide) ?_
    exact K S1' S2' S3' S4' S5' S6' T' sv' f' M' hR' _ _ _ hP hD hS (lv_sub hl [2, 3, 4, 5, 6] rfl)
  · have c_k : k9 = 0 := by first | exact c_k | exact Classical.not_not.mp c_k
    refine lv_aload_n hx hb dL_law_868 rfl (lv_at hl 5 rfl) ?_
    refine lv_iconst (v := 0) hx hb dL_law_869 (by decide) ?_
    refine va_lald (f := f') hx hb hK hP 94 1 rfl rfl (k_in (k := 0) rfl (by decide) (by decide)) dL_law_870 ?_
    rw [show (0 : Int32).toNatClampNeg = 0 from rfl, hB c_k]
    refine lv_iload hx hb dL_law_871 (lv_at hl 0 rfl) ?_
    refine lv_i2l hx hb dL_law_873 rfl ?_
    refine W.lcmp hx hb dL_law_874 ?_
    refine lv_if_eq (tgt := 880) hx hb dL_law_875 (by decide) (fun _ => ?_) (fun c9 => absurd ((lg_cmp_eq _ _).mpr rfl) c9)
    refine lv_goto (tgt := 1548) hx hb dL_law_880 (by decide) ?_
    exact K S1' S2' S3' S4' S5' S6' T' sv' f' M' hR' _ _ _ hP hD hS (lv_sub hl [2, 3, 4, 5, 6] rfl)

set_option maxHeartbeats 1000000 in
set_option maxRecDepth 100000 in
theorem lw_c11 {p : Program} {l : Launch} {e : Env} {s : State} {m : MethodId} {below : List Frame} {meth : Method} {c : Code} {b L : Nat} {xs : Nat → Int32} {D : va_G} {cI cJ : ClassId} (C0 : lw_C p l s m meth c b L xs D cI cJ) {o : Nat} {q1 q2 q3 q4 q5 q6 qt qm : Nat → Nat} {oa : Nat} {i : Nat} (hi : i + 2 < L) {kc ks : Nat} (hkc : kc + 1 ≤ 1160) (hks : ks + 6 ≤ 10503) (K : ∀ (S1 S2 S3 S4 S5 S6 : SS) (T : TS) (sv : Int32) (f : Nat → Int64) (M : MS), ROE S2 S3 S4 S5 S6 T sv M → ∀ (H : Heap) (locs : List Loc) (ls : Array Slot), va_P D vwCl (((poW o q1 q2 q3 q4 q5 q6 qt cI cJ S1 S2 S3 S4 S5 S6 T sv) ++ ouW oa cJ f) ++ moW qm cI cJ M) H → va_D (A0 s) (((poW o q1 q2 q3 q4 q5 q6 qt cI cJ S1 S2 S3 S4 S5 S6 T sv) ++ ouW oa cJ f) ++ moW qm cI cJ M) → va_S (A0 s) s.heap H locs → lv_has ls 9 [(0, .ref b), (1, .ref o), (2, .ref (qm 0)), (3, .ref oa), (4, .int (nI i))] → W p l e room_1 s m #[Value.ref b] below meth c H locs (kc + 1) (ks + 6) (lw_Z below #[Value.ref b] s) (F0 m 1548 ls [])) {S1 S2 S3 S4 S5 S6 : SS} {T : TS} {sv : Int32} {f : Nat → Int64} {M : MS} (hRO : ROE S2 S3 S4 S5 S6 T sv M) {H : Heap} {locs : List Loc} {ls : Array Slot} (hP : va_P D vwCl (((poW o q1 q2 q3 q4 q5 q6 qt cI cJ S1 S2 S3 S4 S5 S6 T sv) ++ ouW oa cJ f) ++ moW qm cI cJ M) H) (hD : va_D (A0 s) (((poW o q1 q2 q3 q4 q5 q6 qt cI cJ S1 S2 S3 S4 S5 S6 T sv) ++ ouW oa cJ f) ++ moW qm cI cJ M)) (hS : va_S (A0 s) s.heap H locs) (hl : lv_has ls 9 [(0, .ref b), (1, .ref o), (2, .ref (qm 0)), (3, .ref oa), (4, .int (nI i))]) : W p l e room_1 s m #[Value.ref b] below meth c H locs kc ks (lw_Z below #[Value.ref b] s) (F0 m 883 ls []) := by
  obtain ⟨hx, hb, hr, hml, hown, hts, hX, hbl, hlk, hK, hTT, hN, hst, hL⟩ := C0
  have hA : ∀ q : Nat, s.heap.size ≤ q → A0 s q := fun _ h => h
  have hbA : ¬ A0 s b := Nat.not_le.mpr hbl
  obtain ⟨st, n, t, le, hR⟩ := hRO
  obtain ⟨⟨hsv, hst0, hst4⟩, ⟨hRS, ht⟩, -, -, hle, hle1, -⟩ := id hR
  obtain ⟨hok, hn6, hn, h4, hw7⟩ := RS_ok hRS
  obtain ⟨mm, hm12, hms, hmw⟩ := RS_lc hRS
  obtain ⟨x, hxe⟩ : ∃ x, x = xs (nI (i + 1)).toNatClampNeg := ⟨_, rfl⟩
  obtain ⟨M', hM'⟩ : ∃ M', M' = A_X5_value_s0 M n x := ⟨_, rfl⟩
  have hQ := q_value (S1 := S1) hR x
  obtain ⟨hk, S1', S2', S3', S4', S5', S6', T', sv', f', hW, hR', hB⟩ := Q2_n (W1 := ((poW o q1 q2 q3 q4 q5 q6 qt cI cJ S1 S2 S3 S4 S5 S6 T sv) ++ ouW oa cJ (vp_updL f 0 (A_X4_value_r S1 S2 S3 S4 S5 S6 T sv n x).toInt64))) (W0 := ((poW o q1 q2 q3 q4 q5 q6 qt cI cJ S1 S2 S3 S4 S5 S6 T sv) ++ ouW oa cJ f)) (P := lw_P9 o q1 q2 q3 q4 q5 q6 qt oa cI cJ (A_X5_value_s0 M n x) (k_code iae (A_X4_value_t S1 S2 S3 S4 S5 S6 T sv n x)) ((A_X5_value_r M n x).toInt64)) hQ (fun he h9 => ⟨_, _, _, _, _, _, _, _, _, rfl, h9, fun _ => by rw [pk_uLs, he]⟩) (fun h9 hn9 => ⟨_, _, _, _, _, _, _, _, _, rfl, h9, fun hz => absurd hz (k_code_n hn9)⟩)
  rw [← hM'] at hk hR'
  have hc := h_value l D o q1 q2 q3 q4 q5 q6 qt cI cJ S1 S2 S3 S4 S5 S6 T sv oa f x n hn hn6 hst (Q2_t hQ)
  rw [hW] at hc
  obtain ⟨k9, hk9⟩ : ∃ k9, k9 = k_code iae (A_X4_value_t S1 S2 S3 S4 S5 S6 T sv n x) := ⟨_, rfl⟩
  rw [← hk9] at hk hB hc
  refine lv_aload_n hx hb dL_law_883 rfl (lv_at hl 1 rfl) ?_
  refine lv_aload_n hx hb dL_law_884 rfl (lv_at hl 0 rfl) ?_
  refine lv_iload hx hb dL_law_885 (lv_at hl 4 rfl) ?_
  refine lv_iconst (v := 1) hx hb dL_law_887 (by decide) ?_
  refine lv_iadd hx hb dL_law_888 ?_
  rw [show nI i + 1 = nI (i + 1) from nI_add i 1]
  refine va_sld hx hb hX hbl hbA hS (vp_in_nI (by omega) (by omega)) dL_law_889 ?_
  rw [← hxe]
  refine lv_aload_n hx hb dL_law_890 rfl (lv_at hl 3 rfl) ?_
  refine k_callH (a := []) (z := moW qm cI cJ M) (wc := ((poW o q1 q2 q3 q4 q5 q6 qt cI cJ S1 S2 S3 S4 S5 S6 T sv) ++ ouW oa cJ f)) (wc' := ((poW o q1 q2 q3 q4 q5 q6 qt cI cJ S1' S2' S3' S4' S5' S6' T' sv') ++ ouW oa cJ f')) (w' := (((poW o q1 q2 q3 q4 q5 q6 qt cI cJ S1' S2' S3' S4' S5' S6' T' sv') ++ ouW oa cJ f') ++ moW qm cI cJ M)) (vx_runSW (As := [.ref o, .int x, .ref oa]) (rest := []) ⟨hx, hb, hml, hown, hts⟩ (hc _) (vx_cwSW 3 hts gL_law_L_value rfl rfl rfl (by decide +kernel) ⟨Nat.le_of_ble_eq_true rfl, Nat.le_of_ble_eq_true rfl⟩) ⟨kBH_blind, k_preH (a := []) (z := moW qm cI cJ M) rfl hK hP hD hS hA hTT hN⟩ rfl rfl hl.1 rfl (lv_room (Nat.le_of_ble_eq_true rfl)) dL_law_891 ⟨hkc, hks⟩) rfl rfl (k_ad2 (poW_ad _ _ _ _ _ _ _ _ _ _ _ _ _ _ _ _ _ _ _ _ _ _ _ _ _ _) rfl) hP hD hS hA (fun H locs hP hD hS => ?_)
  refine lv_istore (lv' := [(5, .int k9), (0, .ref b), (1, .ref o), (2, .ref (qm 0)), (3, .ref oa), (4, .int (nI i))]) hx hb dL_law_894 hl (by decide) rfl (fun ls hl => ?_)
  refine lv_aload_n hx hb dL_law_896 rfl (lv_at hl 3 rfl) ?_
  refine lv_aload_n hx hb dL_law_897 rfl (lv_at hl 1 rfl) ?_
  refine lv_iload hx hb dL_law_898 (lv_at hl 5 rfl) ?_
  refine lv_iconst (v := 1) hx hb dL_law_900 (by decide) ?_
  refine lv_iadd hx hb dL_law_901 ?_
  rw [show nI i + 1 = nI (i + 1) from nI_add i 1]
  refine va_sld hx hb hX hbl hbA hS (vp_in_nI (by omega) (by omega)) dL_law_902 ?_
  rw [← hxe]
  refine k_calli (a := ((poW o q1 q2 q3 q4 q5 q6 qt cI cJ S1' S2' S3' S4' S5' S6' T' sv') ++ ouW oa cJ f')) (z := []) (wc := moW qm cI cJ M) (wc' := moW qm cI cJ (A_X5_value_s0 M n x)) (w' := (((poW o q1 q2 q3 q4 q5 q6 qt cI cJ S1' S2' S3' S4' S5' S6' T' sv') ++ ouW oa cJ f') ++ moW qm cI cJ (A_X5_value_s0 M n x))) (va_runV (As := [.int x]) (rest := []) ⟨hx, hb, hml, hown, hts⟩ (c_X5_value l D qm cI cJ M x n hw7 hn6 _) (cwV 1 hts gL_law_X5_value rfl rfl rfl (by decide +kernel) ⟨Nat.le_of_ble_eq_true rfl, Nat.le_of_ble_eq_true rfl⟩) ⟨kB_blind, va_recv hK hP (ci := 5) (q0 := 95) rfl rfl, k_pre (a := ((poW o q1 q2 q3 q4 q5 q6 qt cI cJ S1' S2' S3' S4' S5' S6' T' sv') ++ ouW oa cJ f')) (z := []) (k_n0 _ _) hK hP hD⟩ rfl rfl hl.1 rfl (lv_room (Nat.le_of_ble_eq_true rfl)) dL_law_903 ⟨hkc, hks⟩) (k_n0 _ _) (k_n0 _ _) (moW_ad _ _ _ _ _) hP hD hS hA (fun H locs hP hD hS => ?_)
  rw [← hM'] at hP hD
  refine lv_istore (lv' := [(6, .int (A_X5_value_r M n x)), (5, .int k9), (0, .ref b), (1, .ref o), (2, .ref (qm 0)), (3, .ref oa), (4, .int (nI i))]) hx hb dL_law_906 hl (by decide) rfl (fun ls hl => ?_)
  refine lv_aload_n hx hb dL_law_908 rfl (lv_at hl 4 rfl) ?_
  refine k_calli (a := ((poW o q1 q2 q3 q4 q5 q6 qt cI cJ S1' S2' S3' S4' S5' S6' T' sv') ++ ouW oa cJ f')) (z := []) (wc := moW qm cI cJ M') (wc' := moW qm cI cJ M') (w' := (((poW o q1 q2 q3 q4 q5 q6 qt cI cJ S1' S2' S3' S4' S5' S6' T' sv') ++ ouW oa cJ f') ++ moW qm cI cJ M')) (va_runV (As := []) (rest := []) ⟨hx, hb, hml, hown, hts⟩ (c_X5_thrown l D qm cI cJ M' _) (cwV 0 hts gL_law_X5_thrown rfl rfl rfl (by decide +kernel) ⟨Nat.le_of_ble_eq_true rfl, Nat.le_of_ble_eq_true rfl⟩) ⟨kB_blind, va_recv hK hP (ci := 5) (q0 := 95) rfl rfl, k_pre (a := ((poW o q1 q2 q3 q4 q5 q6 qt cI cJ S1' S2' S3' S4' S5' S6' T' sv') ++ ouW oa cJ f')) (z := []) (k_n0 _ _) hK hP hD⟩ rfl rfl hl.1 rfl (lv_room (Nat.le_of_ble_eq_true rfl)) dL_law_909 ⟨hkc, hks⟩) (k_n0 _ _) (k_n0 _ _) (moW_ad _ _ _ _ _) hP hD hS hA (fun H locs hP hD hS => ?_)
  refine lv_iload hx hb dL_law_912 (lv_at hl 1 rfl) ?_
  refine lv_icmp_eq (tgt := 919) hx hb dL_law_914 (by decide) (fun _ => ?_) (fun c9 => absurd hk c9)
  refine lv_iload hx hb dL_law_919 (lv_at hl 1 rfl) ?_
  refine lv_if_ne (tgt := 936) hx hb dL_law_921 (by decide) (fun c_k => ?_) (fun c_k => ?_)
  · skip
    refine lv_goto (tgt := 1548) hx hb dL_law_936 (by decide) ?_
    exact K S1' S2' S3' S4' S5' S6' T' sv' f' M' hR' _ _ _ hP hD hS (lv_sub hl [2, 3, 4, 5, 6] rfl)
  · have c_k : k9 = 0 := by first | exact c_k | exact Classical.not_not.mp c_k
    refine lv_aload_n hx hb dL_law_924 rfl (lv_at hl 5 rfl) ?_
    refine lv_iconst (v := 0) hx hb dL_law_925 (by decide) ?_
    refine va_lald (f := f') hx hb hK hP 94 1 rfl rfl (k_in (k := 0) rfl (by decide) (by decide)) dL_law_926 ?_
    rw [show (0 : Int32).toNatClampNeg = 0 from rfl, hB c_k]
    refine lv_iload hx hb dL_law_927 (lv_at hl 0 rfl) ?_
    refine lv_i2l hx hb dL_law_929 rfl ?_
    refine W.lcmp hx hb dL_law_930 ?_
    refine lv_if_eq (tgt := 936) hx hb dL_law_931 (by decide) (fun _ => ?_) (fun c9 => absurd ((lg_cmp_eq _ _).mpr rfl) c9)
    refine lv_goto (tgt := 1548) hx hb dL_law_936 (by decide) ?_
    exact K S1' S2' S3' S4' S5' S6' T' sv' f' M' hR' _ _ _ hP hD hS (lv_sub hl [2, 3, 4, 5, 6] rfl)
