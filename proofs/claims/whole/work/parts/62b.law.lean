set_option maxHeartbeats 1000000 in
set_option maxRecDepth 100000 in
theorem lw_c0 {p : Program} {l : Launch} {e : Env} {s : State} {m : MethodId} {below : List Frame} {meth : Method} {c : Code} {b L : Nat} {xs : Nat → Int32} {D : va_G} {cI cJ : ClassId} (C0 : lw_C p l s m meth c b L xs D cI cJ) {o : Nat} {q1 q2 q3 q4 q5 q6 qt qm : Nat → Nat} {oa : Nat} {i : Nat} (hi : i + 2 < L) {kc ks : Nat} (hkc : kc + 1 ≤ 1160) (hks : ks + 6 ≤ 10503) (K : ∀ (S1 S2 S3 S4 S5 S6 : SS) (T : TS) (sv : Int32) (f : Nat → Int64) (M : MS), ROE S2 S3 S4 S5 S6 T sv M → ∀ (H : Heap) (locs : List Loc) (ls : Array Slot), va_P D vwCl (((poW o q1 q2 q3 q4 q5 q6 qt cI cJ S1 S2 S3 S4 S5 S6 T sv) ++ ouW oa cJ f) ++ moW qm cI cJ M) H → va_D (A0 s) (((poW o q1 q2 q3 q4 q5 q6 qt cI cJ S1 S2 S3 S4 S5 S6 T sv) ++ ouW oa cJ f) ++ moW qm cI cJ M) → va_S (A0 s) s.heap H locs → lv_has ls 9 [(0, .ref b), (1, .ref o), (2, .ref (qm 0)), (3, .ref oa), (4, .int (nI i))] → W p l e room_1 s m #[Value.ref b] below meth c H locs (kc + 1) (ks + 6) (lw_Z below #[Value.ref b] s) (F0 m 1548 ls [])) {S1 S2 S3 S4 S5 S6 : SS} {T : TS} {sv : Int32} {f : Nat → Int64} {M : MS} (hRO : ROE S2 S3 S4 S5 S6 T sv M) {H : Heap} {locs : List Loc} {ls : Array Slot} (hP : va_P D vwCl (((poW o q1 q2 q3 q4 q5 q6 qt cI cJ S1 S2 S3 S4 S5 S6 T sv) ++ ouW oa cJ f) ++ moW qm cI cJ M) H) (hD : va_D (A0 s) (((poW o q1 q2 q3 q4 q5 q6 qt cI cJ S1 S2 S3 S4 S5 S6 T sv) ++ ouW oa cJ f) ++ moW qm cI cJ M)) (hS : va_S (A0 s) s.heap H locs) (hl : lv_has ls 9 [(0, .ref b), (1, .ref o), (2, .ref (qm 0)), (3, .ref oa), (4, .int (nI i))]) : W p l e room_1 s m #[Value.ref b] below meth c H locs kc ks (lw_Z below #[Value.ref b] s) (F0 m 160 ls []) := by
  obtain ⟨hx, hb, hr, hml, hown, hts, hX, hbl, hlk, hK, hTT, hN, hst, hL⟩ := C0
  have hA : ∀ q : Nat, s.heap.size ≤ q → A0 s q := fun _ h => h
  have hbA : ¬ A0 s b := Nat.not_le.mpr hbl
  obtain ⟨st, n, t, le, hR⟩ := hRO
  obtain ⟨⟨hsv, hst0, hst4⟩, ⟨hRS, ht⟩, -, -, hle, hle1, -⟩ := id hR
  obtain ⟨hok, hn6, hn, h4, hw7⟩ := RS_ok hRS
  obtain ⟨mm, hm12, hms, hmw⟩ := RS_lc hRS
  obtain ⟨x, hxe⟩ : ∃ x, x = xs (nI (i + 1)).toNatClampNeg := ⟨_, rfl⟩
  obtain ⟨M', hM'⟩ : ∃ M', M' = A_X5_setSize_s0 M st x := ⟨_, rfl⟩
  have hQ := q_setSize (S1 := S1) hR x
  obtain ⟨hk, S1', S2', S3', S4', S5', S6', T', sv', f', hW, hR', hB⟩ := Q3_n (W1 := ((poW o q1 q2 q3 q4 q5 q6 qt cI cJ S1 (A_X4_setSize_s2 S1 S2 S3 S4 S5 S6 T sv x) (A_X4_setSize_s3 S1 S2 S3 S4 S5 S6 T sv x) (A_X4_setSize_s4 S1 S2 S3 S4 S5 S6 T sv x) (A_X4_setSize_s5 S1 S2 S3 S4 S5 S6 T sv x) (A_X4_setSize_s6 S1 S2 S3 S4 S5 S6 T sv x) T (A_X4_setSize_s0 S1 S2 S3 S4 S5 S6 T sv x)) ++ ouW oa cJ (vp_updL f 0 (A_X4_setSize_r S1 S2 S3 S4 S5 S6 T sv x).toInt64))) (W0 := ((poW o q1 q2 q3 q4 q5 q6 qt cI cJ S1 S2 S3 S4 S5 S6 T sv) ++ ouW oa cJ f)) (P := lw_P9 o q1 q2 q3 q4 q5 q6 qt oa cI cJ (A_X5_setSize_s0 M st x) (k_code iae (A_X4_setSize_t S1 S2 S3 S4 S5 S6 T sv x)) ((A_X5_setSize_r M st x).toInt64)) hQ (by decide) (fun he h9 => ⟨_, _, _, _, _, _, _, _, _, rfl, h9, fun _ => by rw [pk_uLs, he]⟩) (fun h9 hn9 => ⟨_, _, _, _, _, _, _, _, _, rfl, h9, fun hz => absurd hz (k_code_n hn9)⟩)
  rw [← hM'] at hk hR'
  have hc := h_setSize l D o q1 q2 q3 q4 q5 q6 qt cI cJ S1 S2 S3 S4 S5 S6 T sv oa f x hst (Q3_t hQ)
  rw [hW] at hc
  obtain ⟨k9, hk9⟩ : ∃ k9, k9 = k_code iae (A_X4_setSize_t S1 S2 S3 S4 S5 S6 T sv x) := ⟨_, rfl⟩
  rw [← hk9] at hk hB hc
  refine lv_aload_n hx hb dL_law_160 rfl (lv_at hl 1 rfl) ?_
  refine lv_aload_n hx hb dL_law_161 rfl (lv_at hl 0 rfl) ?_
  refine lv_iload hx hb dL_law_162 (lv_at hl 4 rfl) ?_
  refine lv_iconst (v := 1) hx hb dL_law_164 (by decide) ?_
  refine lv_iadd hx hb dL_law_165 ?_
  rw [show nI i + 1 = nI (i + 1) from nI_add i 1]
  refine va_sld hx hb hX hbl hbA hS (vp_in_nI (by omega) (by omega)) dL_law_166 ?_
  rw [← hxe]
  refine lv_aload_n hx hb dL_law_167 rfl (lv_at hl 3 rfl) ?_
  refine k_callH (a := []) (z := moW qm cI cJ M) (wc := ((poW o q1 q2 q3 q4 q5 q6 qt cI cJ S1 S2 S3 S4 S5 S6 T sv) ++ ouW oa cJ f)) (wc' := ((poW o q1 q2 q3 q4 q5 q6 qt cI cJ S1' S2' S3' S4' S5' S6' T' sv') ++ ouW oa cJ f')) (w' := (((poW o q1 q2 q3 q4 q5 q6 qt cI cJ S1' S2' S3' S4' S5' S6' T' sv') ++ ouW oa cJ f') ++ moW qm cI cJ M)) (vx_runSW (As := [.ref o, .int x, .ref oa]) (rest := []) ⟨hx, hb, hml, hown, hts⟩ (hc _) (vx_cwSW 3 hts gL_law_L_setSize rfl rfl rfl (by decide +kernel) ⟨Nat.le_of_ble_eq_true rfl, Nat.le_of_ble_eq_true rfl⟩) ⟨kBH_blind, k_preH (a := []) (z := moW qm cI cJ M) rfl hK hP hD hS hA hTT hN⟩ rfl rfl hl.1 rfl (lv_room (Nat.le_of_ble_eq_true rfl)) dL_law_168 ⟨hkc, hks⟩) rfl rfl (k_ad2 (poW_ad _ _ _ _ _ _ _ _ _ _ _ _ _ _ _ _ _ _ _ _ _ _ _ _ _ _) rfl) hP hD hS hA (fun H locs hP hD hS => ?_)
  refine lv_istore (lv' := [(5, .int k9), (0, .ref b), (1, .ref o), (2, .ref (qm 0)), (3, .ref oa), (4, .int (nI i))]) hx hb dL_law_171 hl (by decide) rfl (fun ls hl => ?_)
  refine lv_aload_n hx hb dL_law_173 rfl (lv_at hl 3 rfl) ?_
  refine lv_aload_n hx hb dL_law_174 rfl (lv_at hl 1 rfl) ?_
  refine lv_iload hx hb dL_law_175 (lv_at hl 5 rfl) ?_
  refine lv_iconst (v := 1) hx hb dL_law_177 (by decide) ?_
  refine lv_iadd hx hb dL_law_178 ?_
  rw [show nI i + 1 = nI (i + 1) from nI_add i 1]
  refine va_sld hx hb hX hbl hbA hS (vp_in_nI (by omega) (by omega)) dL_law_179 ?_
  rw [← hxe]
  refine k_calli (a := ((poW o q1 q2 q3 q4 q5 q6 qt cI cJ S1' S2' S3' S4' S5' S6' T' sv') ++ ouW oa cJ f')) (z := []) (wc := moW qm cI cJ M) (wc' := moW qm cI cJ (A_X5_setSize_s0 M st x)) (w' := (((poW o q1 q2 q3 q4 q5 q6 qt cI cJ S1' S2' S3' S4' S5' S6' T' sv') ++ ouW oa cJ f') ++ moW qm cI cJ (A_X5_setSize_s0 M st x))) (va_runV (As := [.int x]) (rest := []) ⟨hx, hb, hml, hown, hts⟩ (c_X5_setSize l D qm cI cJ M x st hst0 hst4 _) (cwV 1 hts gL_law_X5_setSize rfl rfl rfl (by decide +kernel) ⟨Nat.le_of_ble_eq_true rfl, Nat.le_of_ble_eq_true rfl⟩) ⟨kB_blind, va_recv hK hP (ci := 5) (q0 := 95) rfl rfl, k_pre (a := ((poW o q1 q2 q3 q4 q5 q6 qt cI cJ S1' S2' S3' S4' S5' S6' T' sv') ++ ouW oa cJ f')) (z := []) (k_n0 _ _) hK hP hD⟩ rfl rfl hl.1 rfl (lv_room (Nat.le_of_ble_eq_true rfl)) dL_law_180 ⟨hkc, hks⟩) (k_n0 _ _) (k_n0 _ _) (moW_ad _ _ _ _ _) hP hD hS hA (fun H locs hP hD hS => ?_)
  rw [← hM'] at hP hD
  refine lv_istore (lv' := [(6, .int (A_X5_setSize_r M st x)), (5, .int k9), (0, .ref b), (1, .ref o), (2, .ref (qm 0)), (3, .ref oa), (4, .int (nI i))]) hx hb dL_law_183 hl (by decide) rfl (fun ls hl => ?_)
  refine lv_aload_n hx hb dL_law_185 rfl (lv_at hl 4 rfl) ?_
  refine k_calli (a := ((poW o q1 q2 q3 q4 q5 q6 qt cI cJ S1' S2' S3' S4' S5' S6' T' sv') ++ ouW oa cJ f')) (z := []) (wc := moW qm cI cJ M') (wc' := moW qm cI cJ M') (w' := (((poW o q1 q2 q3 q4 q5 q6 qt cI cJ S1' S2' S3' S4' S5' S6' T' sv') ++ ouW oa cJ f') ++ moW qm cI cJ M')) (va_runV (As := []) (rest := []) ⟨hx, hb, hml, hown, hts⟩ (c_X5_thrown l D qm cI cJ M' _) (cwV 0 hts gL_law_X5_thrown rfl rfl rfl (by decide +kernel) ⟨Nat.le_of_ble_eq_true rfl, Nat.le_of_ble_eq_true rfl⟩) ⟨kB_blind, va_recv hK hP (ci := 5) (q0 := 95) rfl rfl, k_pre (a := ((poW o q1 q2 q3 q4 q5 q6 qt cI cJ S1' S2' S3' S4' S5' S6' T' sv') ++ ouW oa cJ f')) (z := []) (k_n0 _ _) hK hP hD⟩ rfl rfl hl.1 rfl (lv_room (Nat.le_of_ble_eq_true rfl)) dL_law_186 ⟨hkc, hks⟩) (k_n0 _ _) (k_n0 _ _) (moW_ad _ _ _ _ _) hP hD hS hA (fun H locs hP hD hS => ?_)
  refine lv_iload hx hb dL_law_189 (lv_at hl 1 rfl) ?_
  refine lv_icmp_eq (tgt := 196) hx hb dL_law_191 (by decide) (fun _ => ?_) (fun c9 => absurd hk c9)
  refine lv_iload hx hb dL_law_196 (lv_at hl 1 rfl) ?_
  refine lv_if_ne (tgt := 213) hx hb dL_law_198 (by decide) (fun c_k => ?_) (fun c_k => ?_)
  · skip
    refine lv_goto (tgt := 1548) hx hb dL_law_213 (by decide) ?_
    exact K S1' S2' S3' S4' S5' S6' T' sv' f' M' hR' _ _ _ hP hD hS (lv_sub hl [2, 3, 4, 5, 6] rfl)
  · have c_k : k9 = 0 := by first | exact c_k | exact Classical.not_not.mp c_k
    refine lv_aload_n hx hb dL_law_201 rfl (lv_at hl 5 rfl) ?_
    refine lv_iconst (v := 0) hx hb dL_law_202 (by decide) ?_
    refine va_lald (f := f') hx hb hK hP 94 1 rfl rfl (k_in (k := 0) rfl (by decide) (by decide)) dL_law_203 ?_
    rw [show (0 : Int32).toNatClampNeg = 0 from rfl, hB c_k]
    refine lv_iload hx hb dL_law_204 (lv_at hl 0 rfl) ?_
    refine lv_i2l hx hb dL_law_206 rfl ?_
    refine W.lcmp hx hb dL_law_207 ?_
    refine lv_if_eq (tgt := 213) hx hb dL_law_208 (by decide) (fun _ => ?_) (fun c9 => absurd ((lg_cmp_eq _ _).mpr rfl) c9)
    refine lv_goto (tgt := 1548) hx hb dL_law_213 (by decide) ?_
    exact K S1' S2' S3' S4' S5' S6' T' sv' f' M' hR' _ _ _ hP hD hS (lv_sub hl [2, 3, 4, 5, 6] rfl)

set_option maxHeartbeats 1000000 in
set_option maxRecDepth 100000 in
theorem lw_c1 {p : Program} {l : Launch} {e : Env} {s : State} {m : MethodId} {below : List Frame} {meth : Method} {c : Code} {b L : Nat} {xs : Nat → Int32} {D : va_G} {cI cJ : ClassId} (C0 : lw_C p l s m meth c b L xs D cI cJ) {o : Nat} {q1 q2 q3 q4 q5 q6 qt qm : Nat → Nat} {oa : Nat} {i : Nat} (hi : i + 2 < L) {kc ks : Nat} (hkc : kc + 1 ≤ 1160) (hks : ks + 6 ≤ 10503) (K : ∀ (S1 S2 S3 S4 S5 S6 : SS) (T : TS) (sv : Int32) (f : Nat → Int64) (M : MS), ROE S2 S3 S4 S5 S6 T sv M → ∀ (H : Heap) (locs : List Loc) (ls : Array Slot), va_P D vwCl (((poW o q1 q2 q3 q4 q5 q6 qt cI cJ S1 S2 S3 S4 S5 S6 T sv) ++ ouW oa cJ f) ++ moW qm cI cJ M) H → va_D (A0 s) (((poW o q1 q2 q3 q4 q5 q6 qt cI cJ S1 S2 S3 S4 S5 S6 T sv) ++ ouW oa cJ f) ++ moW qm cI cJ M) → va_S (A0 s) s.heap H locs → lv_has ls 9 [(0, .ref b), (1, .ref o), (2, .ref (qm 0)), (3, .ref oa), (4, .int (nI i))] → W p l e room_1 s m #[Value.ref b] below meth c H locs (kc + 1) (ks + 6) (lw_Z below #[Value.ref b] s) (F0 m 1548 ls [])) {S1 S2 S3 S4 S5 S6 : SS} {T : TS} {sv : Int32} {f : Nat → Int64} {M : MS} (hRO : ROE S2 S3 S4 S5 S6 T sv M) {H : Heap} {locs : List Loc} {ls : Array Slot} (hP : va_P D vwCl (((poW o q1 q2 q3 q4 q5 q6 qt cI cJ S1 S2 S3 S4 S5 S6 T sv) ++ ouW oa cJ f) ++ moW qm cI cJ M) H) (hD : va_D (A0 s) (((poW o q1 q2 q3 q4 q5 q6 qt cI cJ S1 S2 S3 S4 S5 S6 T sv) ++ ouW oa cJ f) ++ moW qm cI cJ M)) (hS : va_S (A0 s) s.heap H locs) (hl : lv_has ls 9 [(0, .ref b), (1, .ref o), (2, .ref (qm 0)), (3, .ref oa), (4, .int (nI i))]) : W p l e room_1 s m #[Value.ref b] below meth c H locs kc ks (lw_Z below #[Value.ref b] s) (F0 m 216 ls []) := by
  obtain ⟨hx, hb, hr, hml, hown, hts, hX, hbl, hlk, hK, hTT, hN, hst, hL⟩ := C0
  have hA : ∀ q : Nat, s.heap.size ≤ q → A0 s q := fun _ h => h
  have hbA : ¬ A0 s b := Nat.not_le.mpr hbl
  obtain ⟨st, n, t, le, hR⟩ := hRO
  obtain ⟨⟨hsv, hst0, hst4⟩, ⟨hRS, ht⟩, -, -, hle, hle1, -⟩ := id hR
  obtain ⟨hok, hn6, hn, h4, hw7⟩ := RS_ok hRS
  obtain ⟨mm, hm12, hms, hmw⟩ := RS_lc hRS
  obtain ⟨x, hxe⟩ : ∃ x, x = xs (nI (i + 1)).toNatClampNeg := ⟨_, rfl⟩
  obtain ⟨y, hye⟩ : ∃ y, y = xs (nI (i + 2)).toNatClampNeg := ⟨_, rfl⟩
  obtain ⟨M', hM'⟩ : ∃ M', M' = A_X5_setBand_s0 M st x y := ⟨_, rfl⟩
  have hQ := q_setBand (S1 := S1) hR x y
  obtain ⟨hk, S1', S2', S3', S4', S5', S6', T', sv', f', hW, hR', hB⟩ := Q3_n (W1 := ((poW o q1 q2 q3 q4 q5 q6 qt cI cJ S1 (A_X4_setBand_s2 S1 S2 S3 S4 S5 S6 T sv x y) (A_X4_setBand_s3 S1 S2 S3 S4 S5 S6 T sv x y) (A_X4_setBand_s4 S1 S2 S3 S4 S5 S6 T sv x y) (A_X4_setBand_s5 S1 S2 S3 S4 S5 S6 T sv x y) (A_X4_setBand_s6 S1 S2 S3 S4 S5 S6 T sv x y) T (A_X4_setBand_s0 S1 S2 S3 S4 S5 S6 T sv x y)) ++ ouW oa cJ (vp_updL f 0 (A_X4_setBand_r S1 S2 S3 S4 S5 S6 T sv x y).toInt64))) (W0 := ((poW o q1 q2 q3 q4 q5 q6 qt cI cJ S1 S2 S3 S4 S5 S6 T sv) ++ ouW oa cJ f)) (P := lw_P9 o q1 q2 q3 q4 q5 q6 qt oa cI cJ (A_X5_setBand_s0 M st x y) (k_code iae (A_X4_setBand_t S1 S2 S3 S4 S5 S6 T sv x y)) ((A_X5_setBand_r M st x y).toInt64)) hQ (by decide) (fun he h9 => ⟨_, _, _, _, _, _, _, _, _, rfl, h9, fun _ => by rw [pk_uLs, he]⟩) (fun h9 hn9 => ⟨_, _, _, _, _, _, _, _, _, rfl, h9, fun hz => absurd hz (k_code_n hn9)⟩)
  rw [← hM'] at hk hR'
  have hc := h_setBand l D o q1 q2 q3 q4 q5 q6 qt cI cJ S1 S2 S3 S4 S5 S6 T sv oa f x y hst (Q3_t hQ)
  rw [hW] at hc
  obtain ⟨k9, hk9⟩ : ∃ k9, k9 = k_code iae (A_X4_setBand_t S1 S2 S3 S4 S5 S6 T sv x y) := ⟨_, rfl⟩
  rw [← hk9] at hk hB hc
  refine lv_aload_n hx hb dL_law_216 rfl (lv_at hl 1 rfl) ?_
  refine lv_aload_n hx hb dL_law_217 rfl (lv_at hl 0 rfl) ?_
  refine lv_iload hx hb dL_law_218 (lv_at hl 4 rfl) ?_
  refine lv_iconst (v := 1) hx hb dL_law_220 (by decide) ?_
  refine lv_iadd hx hb dL_law_221 ?_
  rw [show nI i + 1 = nI (i + 1) from nI_add i 1]
  refine va_sld hx hb hX hbl hbA hS (vp_in_nI (by omega) (by omega)) dL_law_222 ?_
  rw [← hxe]
  refine lv_aload_n hx hb dL_law_223 rfl (lv_at hl 0 rfl) ?_
  refine lv_iload hx hb dL_law_224 (lv_at hl 4 rfl) ?_
  refine lv_iconst (v := 2) hx hb dL_law_226 (by decide) ?_
  refine lv_iadd hx hb dL_law_227 ?_
  rw [show nI i + 2 = nI (i + 2) from nI_add i 2]
  refine va_sld hx hb hX hbl hbA hS (vp_in_nI (by omega) (by omega)) dL_law_228 ?_
  rw [← hye]
  refine lv_aload_n hx hb dL_law_229 rfl (lv_at hl 3 rfl) ?_
  refine k_callH (a := []) (z := moW qm cI cJ M) (wc := ((poW o q1 q2 q3 q4 q5 q6 qt cI cJ S1 S2 S3 S4 S5 S6 T sv) ++ ouW oa cJ f)) (wc' := ((poW o q1 q2 q3 q4 q5 q6 qt cI cJ S1' S2' S3' S4' S5' S6' T' sv') ++ ouW oa cJ f')) (w' := (((poW o q1 q2 q3 q4 q5 q6 qt cI cJ S1' S2' S3' S4' S5' S6' T' sv') ++ ouW oa cJ f') ++ moW qm cI cJ M)) (vx_runSW (As := [.ref o, .int x, .int y, .ref oa]) (rest := []) ⟨hx, hb, hml, hown, hts⟩ (hc _) (vx_cwSW 4 hts gL_law_L_setBand rfl rfl rfl (by decide +kernel) ⟨Nat.le_of_ble_eq_true rfl, Nat.le_of_ble_eq_true rfl⟩) ⟨kBH_blind, k_preH (a := []) (z := moW qm cI cJ M) rfl hK hP hD hS hA hTT hN⟩ rfl rfl hl.1 rfl (lv_room (Nat.le_of_ble_eq_true rfl)) dL_law_230 ⟨hkc, hks⟩) rfl rfl (k_ad2 (poW_ad _ _ _ _ _ _ _ _ _ _ _ _ _ _ _ _ _ _ _ _ _ _ _ _ _ _) rfl) hP hD hS hA (fun H locs hP hD hS => ?_)
  refine lv_istore (lv' := [(5, .int k9), (0, .ref b), (1, .ref o), (2, .ref (qm 0)), (3, .ref oa), (4, .int (nI i))]) hx hb dL_law_233 hl (by decide) rfl (fun ls hl => ?_)
  refine lv_aload_n hx hb dL_law_235 rfl (lv_at hl 3 rfl) ?_
  refine lv_aload_n hx hb dL_law_236 rfl (lv_at hl 1 rfl) ?_
  refine lv_iload hx hb dL_law_237 (lv_at hl 5 rfl) ?_
  refine lv_iconst (v := 1) hx hb dL_law_239 (by decide) ?_
  refine lv_iadd hx hb dL_law_240 ?_
  rw [show nI i + 1 = nI (i + 1) from nI_add i 1]
  refine va_sld hx hb hX hbl hbA hS (vp_in_nI (by omega) (by omega)) dL_law_241 ?_
  rw [← hxe]
  refine lv_aload_n hx hb dL_law_242 rfl (lv_at hl 1 rfl) ?_
  refine lv_iload hx hb dL_law_243 (lv_at hl 5 rfl) ?_
  refine lv_iconst (v := 2) hx hb dL_law_245 (by decide) ?_
  refine lv_iadd hx hb dL_law_246 ?_
  rw [show nI i + 2 = nI (i + 2) from nI_add i 2]
  refine va_sld hx hb hX hbl hbA hS (vp_in_nI (by omega) (by omega)) dL_law_247 ?_
  rw [← hye]
  refine k_calli (a := ((poW o q1 q2 q3 q4 q5 q6 qt cI cJ S1' S2' S3' S4' S5' S6' T' sv') ++ ouW oa cJ f')) (z := []) (wc := moW qm cI cJ M) (wc' := moW qm cI cJ (A_X5_setBand_s0 M st x y)) (w' := (((poW o q1 q2 q3 q4 q5 q6 qt cI cJ S1' S2' S3' S4' S5' S6' T' sv') ++ ouW oa cJ f') ++ moW qm cI cJ (A_X5_setBand_s0 M st x y))) (va_runV (As := [.int x, .int y]) (rest := []) ⟨hx, hb, hml, hown, hts⟩ (c_X5_setBand l D qm cI cJ M x y st hst0 hst4 _) (cwV 2 hts gL_law_X5_setBand rfl rfl rfl (by decide +kernel) ⟨Nat.le_of_ble_eq_true rfl, Nat.le_of_ble_eq_true rfl⟩) ⟨kB_blind, va_recv hK hP (ci := 5) (q0 := 95) rfl rfl, k_pre (a := ((poW o q1 q2 q3 q4 q5 q6 qt cI cJ S1' S2' S3' S4' S5' S6' T' sv') ++ ouW oa cJ f')) (z := []) (k_n0 _ _) hK hP hD⟩ rfl rfl hl.1 rfl (lv_room (Nat.le_of_ble_eq_true rfl)) dL_law_248 ⟨hkc, hks⟩) (k_n0 _ _) (k_n0 _ _) (moW_ad _ _ _ _ _) hP hD hS hA (fun H locs hP hD hS => ?_)
  rw [← hM'] at hP hD
  refine lv_istore (lv' := [(6, .int (A_X5_setBand_r M st x y)), (5, .int k9), (0, .ref b), (1, .ref o), (2, .ref (qm 0)), (3, .ref oa), (4, .int (nI i))]) hx hb dL_law_251 hl (by decide) rfl (fun ls hl => ?_)
  refine lv_aload_n hx hb dL_law_253 rfl (lv_at hl 4 rfl) ?_
  refine k_calli (a := ((poW o q1 q2 q3 q4 q5 q6 qt cI cJ S1' S2' S3' S4' S5' S6' T' sv') ++ ouW oa cJ f')) (z := []) (wc := moW qm cI cJ M') (wc' := moW qm cI cJ M') (w' := (((poW o q1 q2 q3 q4 q5 q6 qt cI cJ S1' S2' S3' S4' S5' S6' T' sv') ++ ouW oa cJ f') ++ moW qm cI cJ M')) (va_runV (As := []) (rest := []) ⟨hx, hb, hml, hown, hts⟩ (c_X5_thrown l D qm cI cJ M' _) (cwV 0 hts gL_law_X5_thrown rfl rfl rfl (by decide +kernel) ⟨Nat.le_of_ble_eq_true rfl, Nat.le_of_ble_eq_true rfl⟩) ⟨kB_blind, va_recv hK hP (ci := 5) (q0 := 95) rfl rfl, k_pre (a := ((poW o q1 q2 q3 q4 q5 q6 qt cI cJ S1' S2' S3' S4' S5' S6' T' sv') ++ ouW oa cJ f')) (z := []) (k_n0 _ _) hK hP hD⟩ rfl rfl hl.1 rfl (lv_room (Nat.le_of_ble_eq_true rfl)) dL_law_254 ⟨hkc, hks⟩) (k_n0 _ _) (k_n0 _ _) (moW_ad _ _ _ _ _) hP hD hS hA (fun H locs hP hD hS => ?_)
  refine lv_iload hx hb dL_law_257 (lv_at hl 1 rfl) ?_
  refine lv_icmp_eq (tgt := 264) hx hb dL_law_259 (by decide) (fun _ => ?_) (fun c9 => absurd hk c9)
  refine lv_iload hx hb dL_law_264 (lv_at hl 1 rfl) ?_
  refine lv_if_ne (tgt := 281) hx hb dL_law_266 (by decide) (fun c_k => ?_) (fun c_k => ?_)
  · skip
    refine lv_goto (tgt := 1548) hx hb dL_law_281 (by decide) ?_
    exact K S1' S2' S3' S4' S5' S6' T' sv' f' M' hR' _ _ _ hP hD hS (lv_sub hl [2, 3, 4, 5, 6] rfl)
  · have c_k : k9 = 0 := by first | exact c_k | exact Classical.not_not.mp c_k
    refine lv_aload_n hx hb dL_law_269 rfl (lv_at hl 5 rfl) ?_
    refine lv_iconst (v := 0) hx hb dL_law_270 (by decide) ?_
    refine va_lald (f := f') hx hb hK hP 94 1 rfl rfl (k_in (k := 0) rfl (by decide) (by decide)) dL_law_271 ?_
    rw [show (0 : Int32).toNatClampNeg = 0 from rfl, hB c_k]
    refine lv_iload hx hb dL_law_272 (lv_at hl 0 rfl) ?_
    refine lv_i2l hx hb dL_law_274 rfl ?_
    refine W.lcmp hx hb dL_law_275 ?_
    refine lv_if_eq (tgt := 281) hx hb dL_law_276 (by decide) (fun _ => ?_) (fun c9 => absurd ((lg_cmp_eq _ _).mpr rfl) c9)
    refine lv_goto (tgt := 1548) hx hb dL_law_281 (by decide) ?_
    exact K S1' S2' S3' S4' S5' S6' T' sv' f' M' hR' _ _ _ hP hD hS (lv_sub hl [2, 3, 4, 5, 6] rfl)

set_option maxHeartbeats 1000000 in
set_option maxRecDepth 100000 in
theorem lw_c2 {p : Program} {l : Launch} {e : Env} {s : State} {m : MethodId} {below : List Frame} {meth : Method} {c : Code} {b L : Nat} {xs : Nat → Int32} {D : va_G} {cI cJ : ClassId} (C0 : lw_C p l s m meth c b L xs D cI cJ) {o : Nat} {q1 q2 q3 q4 q5 q6 qt qm : Nat → Nat} {oa : Nat} {i : Nat} (hi : i + 2 < L) {kc ks : Nat} (hkc : kc + 1 ≤ 1160) (hks : ks + 6 ≤ 10503) (K : ∀ (S1 S2 S3 S4 S5 S6 : SS) (T : TS) (sv : Int32) (f : Nat → Int64) (M : MS), ROE S2 S3 S4 S5 S6 T sv M → ∀ (H : Heap) (locs : List Loc) (ls : Array Slot), va_P D vwCl (((poW o q1 q2 q3 q4 q5 q6 qt cI cJ S1 S2 S3 S4 S5 S6 T sv) ++ ouW oa cJ f) ++ moW qm cI cJ M) H → va_D (A0 s) (((poW o q1 q2 q3 q4 q5 q6 qt cI cJ S1 S2 S3 S4 S5 S6 T sv) ++ ouW oa cJ f) ++ moW qm cI cJ M) → va_S (A0 s) s.heap H locs → lv_has ls 9 [(0, .ref b), (1, .ref o), (2, .ref (qm 0)), (3, .ref oa), (4, .int (nI i))] → W p l e room_1 s m #[Value.ref b] below meth c H locs (kc + 1) (ks + 6) (lw_Z below #[Value.ref b] s) (F0 m 1548 ls [])) {S1 S2 S3 S4 S5 S6 : SS} {T : TS} {sv : Int32} {f : Nat → Int64} {M : MS} (hRO : ROE S2 S3 S4 S5 S6 T sv M) {H : Heap} {locs : List Loc} {ls : Array Slot} (hP : va_P D vwCl (((poW o q1 q2 q3 q4 q5 q6 qt cI cJ S1 S2 S3 S4 S5 S6 T sv) ++ ouW oa cJ f) ++ moW qm cI cJ M) H) (hD : va_D (A0 s) (((poW o q1 q2 q3 q4 q5 q6 qt cI cJ S1 S2 S3 S4 S5 S6 T sv) ++ ouW oa cJ f) ++ moW qm cI cJ M)) (hS : va_S (A0 s) s.heap H locs) (hl : lv_has ls 9 [(0, .ref b), (1, .ref o), (2, .ref (qm 0)), (3, .ref oa), (4, .int (nI i))]) : W p l e room_1 s m #[Value.ref b] below meth c H locs kc ks (lw_Z below #[Value.ref b] s) (F0 m 284 ls []) := by
  obtain ⟨hx, hb, hr, hml, hown, hts, hX, hbl, hlk, hK, hTT, hN, hst, hL⟩ := C0
  have hA : ∀ q : Nat, s.heap.size ≤ q → A0 s q := fun _ h => h
  have hbA : ¬ A0 s b := Nat.not_le.mpr hbl
  obtain ⟨st, n, t, le, hR⟩ := hRO
  obtain ⟨⟨hsv, hst0, hst4⟩, ⟨hRS, ht⟩, -, -, hle, hle1, -⟩ := id hR
  obtain ⟨hok, hn6, hn, h4, hw7⟩ := RS_ok hRS
  obtain ⟨mm, hm12, hms, hmw⟩ := RS_lc hRS
  obtain ⟨x, hxe⟩ : ∃ x, x = xs (nI (i + 1)).toNatClampNeg := ⟨_, rfl⟩
  obtain ⟨M', hM'⟩ : ∃ M', M' = A_X5_setLevel_s0 M st x := ⟨_, rfl⟩
  have hQ := q_setLevel (S1 := S1) hR x
  obtain ⟨hk, S1', S2', S3', S4', S5', S6', T', sv', f', hW, hR', hB⟩ := Q3_n (W1 := ((poW o q1 q2 q3 q4 q5 q6 qt cI cJ S1 (A_X4_setLevel_s2 S1 S2 S3 S4 S5 S6 T sv x) (A_X4_setLevel_s3 S1 S2 S3 S4 S5 S6 T sv x) (A_X4_setLevel_s4 S1 S2 S3 S4 S5 S6 T sv x) (A_X4_setLevel_s5 S1 S2 S3 S4 S5 S6 T sv x) (A_X4_setLevel_s6 S1 S2 S3 S4 S5 S6 T sv x) T (A_X4_setLevel_s0 S1 S2 S3 S4 S5 S6 T sv x)) ++ ouW oa cJ (vp_updL f 0 (A_X4_setLevel_r S1 S2 S3 S4 S5 S6 T sv x).toInt64))) (W0 := ((poW o q1 q2 q3 q4 q5 q6 qt cI cJ S1 S2 S3 S4 S5 S6 T sv) ++ ouW oa cJ f)) (P := lw_P9 o q1 q2 q3 q4 q5 q6 qt oa cI cJ (A_X5_setLevel_s0 M st x) (k_code iae (A_X4_setLevel_t S1 S2 S3 S4 S5 S6 T sv x)) ((A_X5_setLevel_r M st x).toInt64)) hQ (by decide) (fun he h9 => ⟨_, _, _, _, _, _, _, _, _, rfl, h9, fun _ => by rw [pk_uLs, he]⟩) (fun h9 hn9 => ⟨_, _, _, _, _, _, _, _, _, rfl, h9, fun hz => absurd hz (k_code_n hn9)⟩)
  rw [← hM'] at hk hR'
  have hc := h_setLevel l D o q1 q2 q3 q4 q5 q6 qt cI cJ S1 S2 S3 S4 S5 S6 T sv oa f x hst (Q3_t hQ)
  rw [hW] at hc
  obtain ⟨k9, hk9⟩ : ∃ k9, k9 = k_code iae (A_X4_setLevel_t S1 S2 S3 S4 S5 S6 T sv x) := ⟨_, rfl⟩
  rw [← hk9] at hk hB hc
  refine lv_aload_n hx hb dL_law_284 rfl (lv_at hl 1 rfl) ?_
  refine lv_aload_n hx hb dL_law_285 rfl (lv_at hl 0 rfl) ?_
  refine lv_iload hx hb dL_law_286 (lv_at hl 4 rfl) ?_
  refine lv_iconst (v := 1) hx hb dL_law_288 (by decide) ?_
  refine lv_iadd hx hb dL_law_289 ?_
  rw [show nI i + 1 = nI (i + 1) from nI_add i 1]
  refine va_sld hx hb hX hbl hbA hS (vp_in_nI (by omega) (by omega)) dL_law_290 ?_
  rw [← hxe]
  refine lv_aload_n hx hb dL_law_291 rfl (lv_at hl 3 rfl) ?_
  refine k_callH (a := []) (z := moW qm cI cJ M) (wc := ((poW o q1 q2 q3 q4 q5 q6 qt cI cJ S1 S2 S3 S4 S5 S6 T sv) ++ ouW oa cJ f)) (wc' := ((poW o q1 q2 q3 q4 q5 q6 qt cI cJ S1' S2' S3' S4' S5' S6' T' sv') ++ ouW oa cJ f')) (w' := (((poW o q1 q2 q3 q4 q5 q6 qt cI cJ S1' S2' S3' S4' S5' S6' T' sv') ++ ouW oa cJ f') ++ moW qm cI cJ M)) (vx_runSW (As := [.ref o, .int x, .ref oa]) (rest := []) ⟨hx, hb, hml, hown, hts⟩ (hc _) (vx_cwSW 3 hts gL_law_L_setLevel rfl rfl rfl (by decide +kernel) ⟨Nat.le_of_ble_eq_true rfl, Nat.le_of_ble_eq_true rfl⟩) ⟨kBH_blind, k_preH (a := []) (z := moW qm cI cJ M) rfl hK hP hD hS hA hTT hN⟩ rfl rfl hl.1 rfl (lv_room (Nat.le_of_ble_eq_true rfl)) dL_law_292 ⟨hkc, hks⟩) rfl rfl (k_ad2 (poW_ad _ _ _ _ _ _ _ _ _ _ _ _ _ _ _ _ _ _ _ _ _ _ _ _ _ _) rfl) hP hD hS hA (fun H locs hP hD hS => ?_)
  refine lv_istore (lv' := [(5, .int k9), (0, .ref b), (1, .ref o), (2, .ref (qm 0)), (3, .ref oa), (4, .int (nI i))]) hx hb dL_law_295 hl (by decide) rfl (fun ls hl => ?_)
  refine lv_aload_n hx hb dL_law_297 rfl (lv_at hl 3 rfl) ?_
  refine lv_aload_n hx hb dL_law_298 rfl (lv_at hl 1 rfl) ?_
  refine lv_iload hx hb dL_law_299 (lv_at hl 5 rfl) ?_
  refine lv_iconst (v := 1) hx hb dL_law_301 (by decide) ?_
  refine lv_iadd hx hb dL_law_302 ?_
  rw [show nI i + 1 = nI (i + 1) from nI_add i 1]
  refine va_sld hx hb hX hbl hbA hS (vp_in_nI (by omega) (by omega)) dL_law_303 ?_
  rw [← hxe]
  refine k_calli (a := ((poW o q1 q2 q3 q4 q5 q6 qt cI cJ S1' S2' S3' S4' S5' S6' T' sv') ++ ouW oa cJ f')) (z := []) (wc := moW qm cI cJ M) (wc' := moW qm cI cJ (A_X5_setLevel_s0 M st x)) (w' := (((poW o q1 q2 q3 q4 q5 q6 qt cI cJ S1' S2' S3' S4' S5' S6' T' sv') ++ ouW oa cJ f') ++ moW qm cI cJ (A_X5_setLevel_s0 M st x))) (va_runV (As := [.int x]) (rest := []) ⟨hx, hb, hml, hown, hts⟩ (c_X5_setLevel l D qm cI cJ M x st hst0 hst4 _) (cwV 1 hts gL_law_X5_setLevel rfl rfl rfl (by decide +kernel) ⟨Nat.le_of_ble_eq_true rfl, Nat.le_of_ble_eq_true rfl⟩) ⟨kB_blind, va_recv hK hP (ci := 5) (q0 := 95) rfl rfl, k_pre (a := ((poW o q1 q2 q3 q4 q5 q6 qt cI cJ S1' S2' S3' S4' S5' S6' T' sv') ++ ouW oa cJ f')) (z := []) (k_n0 _ _) hK hP hD⟩ rfl rfl hl.1 rfl (lv_room (Nat.le_of_ble_eq_true rfl)) dL_law_304 ⟨hkc, hks⟩) (k_n0 _ _) (k_n0 _ _) (moW_ad _ _ _ _ _) hP hD hS hA (fun H locs hP hD hS => ?_)
  rw [← hM'] at hP hD
  refine lv_istore (lv' := [(6, .int (A_X5_setLevel_r M st x)), (5, .int k9), (0, .ref b), (1, .ref o), (2, .ref (qm 0)), (3, .ref oa), (4, .int (nI i))]) hx hb dL_law_307 hl (by decide) rfl (fun ls hl => ?_)
  refine lv_aload_n hx hb dL_law_309 rfl (lv_at hl 4 rfl) ?_
  refine k_calli (a := ((poW o q1 q2 q3 q4 q5 q6 qt cI cJ S1' S2' S3' S4' S5' S6' T' sv') ++ ouW oa cJ f')) (z := []) (wc := moW qm cI cJ M') (wc' := moW qm cI cJ M') (w' := (((poW o q1 q2 q3 q4 q5 q6 qt cI cJ S1' S2' S3' S4' S5' S6' T' sv') ++ ouW oa cJ f') ++ moW qm cI cJ M')) (va_runV (As := []) (rest := []) ⟨hx, hb, hml, hown, hts⟩ (c_X5_thrown l D qm cI cJ M' _) (cwV 0 hts gL_law_X5_thrown rfl rfl rfl (by decide +kernel) ⟨Nat.le_of_ble_eq_true rfl, Nat.le_of_ble_eq_true rfl⟩) ⟨kB_blind, va_recv hK hP (ci := 5) (q0 := 95) rfl rfl, k_pre (a := ((poW o q1 q2 q3 q4 q5 q6 qt cI cJ S1' S2' S3' S4' S5' S6' T' sv') ++ ouW oa cJ f')) (z := []) (k_n0 _ _) hK hP hD⟩ rfl rfl hl.1 rfl (lv_room (Nat.le_of_ble_eq_true rfl)) dL_law_310 ⟨hkc, hks⟩) (k_n0 _ _) (k_n0 _ _) (moW_ad _ _ _ _ _) hP hD hS hA (fun H locs hP hD hS => ?_)
  refine lv_iload hx hb dL_law_313 (lv_at hl 1 rfl) ?_
  refine lv_icmp_eq (tgt := 320) hx hb dL_law_315 (by decide) (fun _ => ?_) (fun c9 => absurd hk c9)
  refine lv_iload hx hb dL_law_320 (lv_at hl 1 rfl) ?_
  refine lv_if_ne (tgt := 337) hx hb dL_law_322 (by decide) (fun c_k => ?_) (fun c_k => ?_)
  · skip
    refine lv_goto (tgt := 1548) hx hb dL_law_337 (by decide) ?_
    exact K S1' S2' S3' S4' S5' S6' T' sv' f' M' hR' _ _ _ hP hD hS (lv_sub hl [2, 3, 4, 5, 6] rfl)
  · have c_k : k9 = 0 := by first | exact c_k | exact Classical.not_not.mp c_k
    refine lv_aload_n hx hb dL_law_325 rfl (lv_at hl 5 rfl) ?_
    refine lv_iconst (v := 0) hx hb dL_law_326 (by decide) ?_
    refine va_lald (f := f') hx hb hK hP 94 1 rfl rfl (k_in (k := 0) rfl (by decide) (by decide)) dL_law_327 ?_
    rw [show (0 : Int32).toNatClampNeg = 0 from rfl, hB c_k]
    refine lv_iload hx hb dL_law_328 (lv_at hl 0 rfl) ?_
    refine lv_i2l hx hb dL_law_330 rfl ?_
    refine W.lcmp hx hb dL_law_331 ?_
    refine lv_if_eq (tgt := 337) hx hb dL_law_332 (by decide) (fun _ => ?_) (fun c9 => absurd ((lg_cmp_eq _ _).mpr rfl) c9)
    refine lv_goto (tgt := 1548) hx hb dL_law_337 (by decide) ?_
    exact K S1' S2' S3' S4' S5' S6' T' sv' f' M' hR' _ _ _ hP hD hS (lv_sub hl [2, 3, 4, 5, 6] rfl)

set_option maxHeartbeats 1000000 in
set_option maxRecDepth 100000 in
theorem lw_c3 {p : Program} {l : Launch} {e : Env} {s : State} {m : MethodId} {below : List Frame} {meth : Method} {c : Code} {b L : Nat} {xs : Nat → Int32} {D : va_G} {cI cJ : ClassId} (C0 : lw_C p l s m meth c b L xs D cI cJ) {o : Nat} {q1 q2 q3 q4 q5 q6 qt qm : Nat → Nat} {oa : Nat} {i : Nat} (hi : i + 2 < L) {kc ks : Nat} (hkc : kc + 1 ≤ 1160) (hks : ks + 6 ≤ 10503) (K : ∀ (S1 S2 S3 S4 S5 S6 : SS) (T : TS) (sv : Int32) (f : Nat → Int64) (M : MS), ROE S2 S3 S4 S5 S6 T sv M → ∀ (H : Heap) (locs : List Loc) (ls : Array Slot), va_P D vwCl (((poW o q1 q2 q3 q4 q5 q6 qt cI cJ S1 S2 S3 S4 S5 S6 T sv) ++ ouW oa cJ f) ++ moW qm cI cJ M) H → va_D (A0 s) (((poW o q1 q2 q3 q4 q5 q6 qt cI cJ S1 S2 S3 S4 S5 S6 T sv) ++ ouW oa cJ f) ++ moW qm cI cJ M) → va_S (A0 s) s.heap H locs → lv_has ls 9 [(0, .ref b), (1, .ref o), (2, .ref (qm 0)), (3, .ref oa), (4, .int (nI i))] → W p l e room_1 s m #[Value.ref b] below meth c H locs (kc + 1) (ks + 6) (lw_Z below #[Value.ref b] s) (F0 m 1548 ls [])) {S1 S2 S3 S4 S5 S6 : SS} {T : TS} {sv : Int32} {f : Nat → Int64} {M : MS} (hRO : ROE S2 S3 S4 S5 S6 T sv M) {H : Heap} {locs : List Loc} {ls : Array Slot} (hP : va_P D vwCl (((poW o q1 q2 q3 q4 q5 q6 qt cI cJ S1 S2 S3 S4 S5 S6 T sv) ++ ouW oa cJ f) ++ moW qm cI cJ M) H) (hD : va_D (A0 s) (((poW o q1 q2 q3 q4 q5 q6 qt cI cJ S1 S2 S3 S4 S5 S6 T sv) ++ ouW oa cJ f) ++ moW qm cI cJ M)) (hS : va_S (A0 s) s.heap H locs) (hl : lv_has ls 9 [(0, .ref b), (1, .ref o), (2, .ref (qm 0)), (3, .ref oa), (4, .int (nI i))]) : W p l e room_1 s m #[Value.ref b] below meth c H locs kc ks (lw_Z below #[Value.ref b] s) (F0 m 340 ls []) := by
  obtain ⟨hx, hb, hr, hml, hown, hts, hX, hbl, hlk, hK, hTT, hN, hst, hL⟩ := C0
  have hA : ∀ q : Nat, s.heap.size ≤ q → A0 s q := fun _ h => h
  have hbA : ¬ A0 s b := Nat.not_le.mpr hbl
  obtain ⟨st, n, t, le, hR⟩ := hRO
  obtain ⟨⟨hsv, hst0, hst4⟩, ⟨hRS, ht⟩, -, -, hle, hle1, -⟩ := id hR
  obtain ⟨hok, hn6, hn, h4, hw7⟩ := RS_ok hRS
  obtain ⟨mm, hm12, hms, hmw⟩ := RS_lc hRS
  obtain ⟨x, hxe⟩ : ∃ x, x = xs (nI (i + 1)).toNatClampNeg := ⟨_, rfl⟩
  obtain ⟨y, hye⟩ : ∃ y, y = xs (nI (i + 2)).toNatClampNeg := ⟨_, rfl⟩
  obtain ⟨M', hM'⟩ : ∃ M', M' = A_X5_set_s0 M st x y := ⟨_, rfl⟩
  have hQ := q_set (S1 := S1) hR x y
  obtain ⟨hk, S1', S2', S3', S4', S5', S6', T', sv', f', hW, hR', hB⟩ := Q2_n (W1 := ((poW o q1 q2 q3 q4 q5 q6 qt cI cJ S1 (A_X4_set_s2 S1 S2 S3 S4 S5 S6 T sv x y) (A_X4_set_s3 S1 S2 S3 S4 S5 S6 T sv x y) (A_X4_set_s4 S1 S2 S3 S4 S5 S6 T sv x y) (A_X4_set_s5 S1 S2 S3 S4 S5 S6 T sv x y) (A_X4_set_s6 S1 S2 S3 S4 S5 S6 T sv x y) T (A_X4_set_s0 S1 S2 S3 S4 S5 S6 T sv x y)) ++ ouW oa cJ (vp_updL f 0 (A_X4_set_r S1 S2 S3 S4 S5 S6 T sv x y).toInt64))) (W0 := ((poW o q1 q2 q3 q4 q5 q6 qt cI cJ S1 S2 S3 S4 S5 S6 T sv) ++ ouW oa cJ f)) (P := lw_P9 o q1 q2 q3 q4 q5 q6 qt oa cI cJ (A_X5_set_s0 M st x y) (k_code iae (A_X4_set_t S1 S2 S3 S4 S5 S6 T sv x y)) ((A_X5_set_r M st x y).toInt64)) hQ (fun he h9 => ⟨_, _, _, _, _, _, _, _, _, rfl, h9, fun _ => by rw [pk_uLs, he]⟩) (fun h9 hn9 => ⟨_, _, _, _, _, _, _, _, _, rfl, h9, fun hz => absurd hz (k_code_n hn9)⟩)
  rw [← hM'] at hk hR'
  have hc := h_set l D o q1 q2 q3 q4 q5 q6 qt cI cJ S1 S2 S3 S4 S5 S6 T sv oa f x y hst (Q2_t hQ)
  rw [hW] at hc
  obtain ⟨k9, hk9⟩ : ∃ k9, k9 = k_code iae (A_X4_set_t S1 S2 S3 S4 S5 S6 T sv x y) := ⟨_, rfl⟩
  rw [← hk9] at hk hB hc
  refine lv_aload_n hx hb dL_law_340 rfl (lv_at hl 1 rfl) ?_
  refine lv_aload_n hx hb dL_law_341 rfl (lv_at hl 0 rfl) ?_
  refine lv_iload hx hb dL_law_342 (lv_at hl 4 rfl) ?_
  refine lv_iconst (v := 1) hx hb dL_law_344 (by decide) ?_
  refine lv_iadd hx hb dL_law_345 ?_
  rw [show nI i + 1 = nI (i + 1) from nI_add i 1]
  refine va_sld hx hb hX hbl hbA hS (vp_in_nI (by omega) (by omega)) dL_law_346 ?_
  rw [← hxe]
  refine lv_aload_n hx hb dL_law_347 rfl (lv_at hl 0 rfl) ?_
  refine lv_iload hx hb dL_law_348 (lv_at hl 4 rfl) ?_
  refine lv_iconst (v := 2) hx hb dL_law_350 (by decide) ?_
  refine lv_iadd hx hb dL_law_351 ?_
  rw [show nI i + 2 = nI (i + 2) from nI_add i 2]
  refine va_sld hx hb hX hbl hbA hS (vp_in_nI (by omega) (by omega)) dL_law_352 ?_
  rw [← hye]
  refine lv_aload_n hx hb dL_law_353 rfl (lv_at hl 3 rfl) ?_
  refine k_callH (a := []) (z := moW qm cI cJ M) (wc := ((poW o q1 q2 q3 q4 q5 q6 qt cI cJ S1 S2 S3 S4 S5 S6 T sv) ++ ouW oa cJ f)) (wc' := ((poW o q1 q2 q3 q4 q5 q6 qt cI cJ S1' S2' S3' S4' S5' S6' T' sv') ++ ouW oa cJ f')) (w' := (((poW o q1 q2 q3 q4 q5 q6 qt cI cJ S1' S2' S3' S4' S5' S6' T' sv') ++ ouW oa cJ f') ++ moW qm cI cJ M)) (vx_runSW (As := [.ref o, .int x, .int y, .ref oa]) (rest := []) ⟨hx, hb, hml, hown, hts⟩ (hc _) (vx_cwSW 4 hts gL_law_L_set rfl rfl rfl (by decide +kernel) ⟨Nat.le_of_ble_eq_true rfl, Nat.le_of_ble_eq_true rfl⟩) ⟨kBH_blind, k_preH (a := []) (z := moW qm cI cJ M) rfl hK hP hD hS hA hTT hN⟩ rfl rfl hl.1 rfl (lv_room (Nat.le_of_ble_eq_true rfl)) dL_law_354 ⟨hkc, hks⟩) rfl rfl (k_ad2 (poW_ad _ _ _ _ _ _ _ _ _ _ _ _ _ _ _ _ _ _ _ _ _ _ _ _ _ _) rfl) hP hD hS hA (fun H locs hP hD hS => ?_)
  refine lv_istore (lv' := [(5, .int k9), (0, .ref b), (1, .ref o), (2, .ref (qm 0)), (3, .ref oa), (4, .int (nI i))]) hx hb dL_law_357 hl (by decide) rfl (fun ls hl => ?_)
  refine lv_aload_n hx hb dL_law_359 rfl (lv_at hl 3 rfl) ?_
  refine lv_aload_n hx hb dL_law_360 rfl (lv_at hl 1 rfl) ?_
  refine lv_iload hx hb dL_law_361 (lv_at hl 5 rfl) ?_
  refine lv_iconst (v := 1) hx hb dL_law_363 (by decide) ?_
  refine lv_iadd hx hb dL_law_364 ?_
  rw [show nI i + 1 = nI (i + 1) from nI_add i 1]
  refine va_sld hx hb hX hbl hbA hS (vp_in_nI (by omega) (by omega)) dL_law_365 ?_
  rw [← hxe]
  refine lv_aload_n hx hb dL_law_366 rfl (lv_at hl 1 rfl) ?_
  refine lv_iload hx hb dL_law_367 (lv_at hl 5 rfl) ?_
  refine lv_iconst (v := 2) hx hb dL_law_369 (by decide) ?_
  refine lv_iadd hx hb dL_law_370 ?_
  rw [show nI i + 2 = nI (i + 2) from nI_add i 2]
  refine va_sld hx hb hX hbl hbA hS (vp_in_nI (by omega) (by omega)) dL_law_371 ?_
  rw [← hye]
  refine k_calli (a := ((poW o q1 q2 q3 q4 q5 q6 qt cI cJ S1' S2' S3' S4' S5' S6' T' sv') ++ ouW oa cJ f')) (z := []) (wc := moW qm cI cJ M) (wc' := moW qm cI cJ (A_X5_set_s0 M st x y)) (w' := (((poW o q1 q2 q3 q4 q5 q6 qt cI cJ S1' S2' S3' S4' S5' S6' T' sv') ++ ouW oa cJ f') ++ moW qm cI cJ (A_X5_set_s0 M st x y))) (va_runV (As := [.int x, .int y]) (rest := []) ⟨hx, hb, hml, hown, hts⟩ (c_X5_set l D qm cI cJ M x y st hst0 hst4 _) (cwV 2 hts gL_law_X5_set rfl rfl rfl (by decide +kernel) ⟨Nat.le_of_ble_eq_true rfl, Nat.le_of_ble_eq_true rfl⟩) ⟨kB_blind, va_recv hK hP (ci := 5) (q0 := 95) rfl rfl, k_pre (a := ((poW o q1 q2 q3 q4 q5 q6 qt cI cJ S1' S2' S3' S4' S5' S6' T' sv') ++ ouW oa cJ f')) (z := []) (k_n0 _ _) hK hP hD⟩ rfl rfl hl.1 rfl (lv_room (Nat.le_of_ble_eq_true rfl)) dL_law_372 ⟨hkc, hks⟩) (k_n0 _ _) (k_n0 _ _) (moW_ad _ _ _ _ _) hP hD hS hA (fun H locs hP hD hS => ?_)
  rw [← hM'] at hP hD
  refine lv_istore (lv' := [(6, .int (A_X5_set_r M st x y)), (5, .int k9), (0, .ref b), (1, .ref o), (2, .ref (qm 0)), (3, .ref oa), (4, .int (nI i))]) hx hb dL_law_375 hl (by decide) rfl (fun ls hl => ?_)
  refine lv_aload_n hx hb dL_law_377 rfl (lv_at hl 4 rfl) ?_
  refine k_calli (a := ((poW o q1 q2 q3 q4 q5 q6 qt cI cJ S1' S2' S3' S4' S5' S6' T' sv') ++ ouW oa cJ f')) (z := []) (wc := moW qm cI cJ M') (wc' := moW qm cI cJ M') (w' := (((poW o q1 q2 q3 q4 q5 q6 qt cI cJ S1' S2' S3' S4' S5' S6' T' sv') ++ ouW oa cJ f') ++ moW qm cI cJ M')) (va_runV (As := []) (rest := []) ⟨hx, hb, hml, hown, hts⟩ (c_X5_thrown l D qm cI cJ M' _) (cwV 0 hts gL_law_X5_thrown rfl rfl rfl (by decide +kernel) ⟨Nat.le_of_ble_eq_true rfl, Nat.le_of_ble_eq_true rfl⟩) ⟨kB_blind, va_recv hK hP (ci := 5) (q0 := 95) rfl rfl, k_pre (a := ((poW o q1 q2 q3 q4 q5 q6 qt cI cJ S1' S2' S3' S4' S5' S6' T' sv') ++ ouW oa cJ f')) (z := []) (k_n0 _ _) hK hP hD⟩ rfl rfl hl.1 rfl (lv_room (Nat.le_of_ble_eq_true rfl)) dL_law_378 ⟨hkc, hks⟩) (k_n0 _ _) (k_n0 _ _) (moW_ad _ _ _ _ _) hP hD hS hA (fun H locs hP hD hS => ?_)
  refine lv_iload hx hb dL_law_381 (lv_at hl 1 rfl) ?_
  refine lv_icmp_eq (tgt := 388) hx hb dL_law_383 (by decide) (fun _ => ?_) (fun c9 => absurd hk c9)
  refine lv_iload hx hb dL_law_388 (lv_at hl 1 rfl) ?_
  refine lv_if_ne (tgt := 405) hx hb dL_law_390 (by decide) (fun c_k => ?_) (fun c_k => ?_)
  · skip
    refine lv_goto (tgt := 1548) hx hb dL_law_405 (by decide) ?_
    exact K S1' S2' S3' S4' S5' S6' T' sv' f' M' hR' _ _ _ hP hD hS (lv_sub hl [2, 3, 4, 5, 6] rfl)
  · have c_k : k9 = 0 := by first | exact c_k | exact Classical.not_not.mp c_k
    refine lv_aload_n hx hb dL_law_393 rfl (lv_at hl 5 rfl) ?_
    refine lv_iconst (v := 0) hx hb dL_law_394 (by decide) ?_
    refine va_lald (f := f') hx hb hK hP 94 1 rfl rfl (k_in (k := 0) rfl (by decide) (by decide)) dL_law_395 ?_
    rw [show (0 : Int32).toNatClampNeg = 0 from rfl, hB c_k]
    refine lv_iload hx hb dL_law_396 (lv_at hl 0 rfl) ?_
    refine lv_i2l hx hb dL_law_398 rfl ?_
    refine W.lcmp hx hb dL_law_399 ?_
    refine lv_if_eq (tgt := 405) hx hb dL_law_400 (by decide) (fun _ => ?_) (fun c9 => absurd ((lg_cmp_eq _ _).mpr rfl) c9)
    refine lv_goto (tgt := 1548) hx hb dL_law_405 (by decide) ?_
    exact K S1' S2' S3' S4' S5' S6' T' sv' f' M' hR' _ _ _ hP hD hS (lv_sub hl [2, 3, 4, 5, 6] rfl)
