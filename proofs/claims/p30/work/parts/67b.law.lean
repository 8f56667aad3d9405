set_option maxHeartbeats 1000000 in
set_option maxRecDepth 100000 in
theorem lw_c0 {p9 : Program} {l : Launch} {e9 : Env} {s9 : State} {m9 : MethodId} {below : List Frame} {meth : Method} {c9 : Code} {b L : Nat} {xs : Nat → Int32} {D : va_G} {cI cJ : ClassId} (C0 : lw_C p9 l s9 m9 meth c9 b L xs D cI cJ) {o : Nat} {q1 q2 q3 q4 q5 q6 qt : Nat → Nat} {n u i y z q kc ks : Nat} (hn9 : n = 3) (hu : u ≤ 5000) (hz : z < 2 ^ 27) (hq : q < 3) (hkc : kc + 1 ≤ 292) (hks : ks + 6 ≤ 2600) (K : ∀ (S1 S2 S3 S4 S5 S6 : SS) (T : TS) (sv : Int32) (bb : Int64), LI S2 sv bb n (u + 150) → ∀ (H : Heap) (locs : List Loc) (ls : Array Slot), va_P D vwCl (poW o q1 q2 q3 q4 q5 q6 qt cI cJ S1 S2 S3 S4 S5 S6 T sv) H → va_D (A0 s9) (poW o q1 q2 q3 q4 q5 q6 qt cI cJ S1 S2 S3 S4 S5 S6 T sv) → va_S (A0 s9) s9.heap H locs → lv_has ls 14 [(0, .ref b), (1, .ref o), (2, .long bb), (4, .int 1), (5, .int (nI i))] → W p9 l e9 room_1 s9 m9 #[Value.ref b] below meth c9 H locs (kc + 1) (ks + 6) (lw_Z below #[Value.ref b] s9) (F0 m9 563 ls [])) {S1 S2 S3 S4 S5 S6 : SS} {T : TS} {sv : Int32} {bb : Int64} (hI : LI S2 sv bb n u) {H : Heap} {locs : List Loc} {ls : Array Slot} (hP : va_P D vwCl (poW o q1 q2 q3 q4 q5 q6 qt cI cJ S1 S2 S3 S4 S5 S6 T sv) H) (hD : va_D (A0 s9) (poW o q1 q2 q3 q4 q5 q6 qt cI cJ S1 S2 S3 S4 S5 S6 T sv)) (hS : va_S (A0 s9) s9.heap H locs) (hl : lv_has ls 14 [(0, .ref b), (1, .ref o), (2, .long bb), (4, .int 1), (5, .int (nI i)), (6, .int (nI y)), (7, .int (nI z)), (8, .int (nI q))]) : W p9 l e9 room_1 s9 m9 #[Value.ref b] below meth c9 H locs kc ks (lw_Z below #[Value.ref b] s9) (F0 m9 244 ls []) := by
  have C1 := C0
  obtain ⟨hx, hb, hr, hml, hown, hts, hX, hbl, hlk, hK, hTT, hN, hst, hL⟩ := C1
  have hA : ∀ q : Nat, s9.heap.size ≤ q → A0 s9 q := fun _ h => h
  have hbA : ¬ A0 s9 b := Nat.not_le.mpr hbl
  obtain ⟨Z, Ww, t, B, v, hJ, hbb, hsv, hv4, htu⟩ := id hI
  obtain ⟨h8, hn3, h4⟩ := J_n hJ
  have hn : S2.1 8 = nI n := h8
  have hn6 : n ≤ 6 := by omega
  have hqn : q < n := by omega
  have hp := p_has_k hqn hn hn6
  have hcl : (nI q).toNatClampNeg = q := nI_clamp (by omega)
  obtain ⟨a0, ha0⟩ : ∃ a0, a0 = 1 + z / 4 % 12 := ⟨_, rfl⟩
  refine lv_aload_n hx hb dL_law_244 rfl (lv_at hl 1 rfl) ?_
  refine lv_iload hx hb dL_law_245 (lv_at hl 7 rfl) ?_
  refine lv_iconst (v := 1) hx hb dL_law_247 (by decide) ?_
  refine k_calli (a := []) (z := []) (wc := (poC o q1 q2 q3 q4 q5 q6 qt sv ++ (stW q1 cI cJ S1 ++ (stW q2 cI cJ S2 ++ (stW q3 cI cJ S3 ++ (stW q4 cI cJ S4 ++ (stW q5 cI cJ S5 ++ (stW q6 cI cJ S6 ++ (txW qt cI T))))))))) (wc' := (poC o q1 q2 q3 q4 q5 q6 qt sv ++ (stW q1 cI cJ S1 ++ (stW q2 cI cJ S2 ++ (stW q3 cI cJ S3 ++ (stW q4 cI cJ S4 ++ (stW q5 cI cJ S5 ++ (stW q6 cI cJ S6 ++ (txW qt cI T))))))))) (w' := (poC o q1 q2 q3 q4 q5 q6 qt sv ++ (stW q1 cI cJ S1 ++ (stW q2 cI cJ S2 ++ (stW q3 cI cJ S3 ++ (stW q4 cI cJ S4 ++ (stW q5 cI cJ S5 ++ (stW q6 cI cJ S6 ++ (txW qt cI T))))))))) (vx_runSW (As := [.ref o, .int (nI q), .int 1]) (rest := []) ⟨hx, hb, hml, hown, hts⟩ (m_L_pump l D o q1 q2 q3 q4 q5 q6 qt cI cJ S1 S2 S3 S4 S5 S6 T sv (nI q) 1 n hn hn6 hp (by decide) _) (vx_cwSW 3 hts gL_law_L_pump rfl rfl rfl (by decide +kernel) ⟨Nat.le_of_ble_eq_true rfl, Nat.le_of_ble_eq_true rfl⟩) ⟨kB_blind, k_pre (a := []) (z := []) (k_w0 _) hK hP hD⟩ rfl rfl hl.1 rfl (lv_room (Nat.le_of_ble_eq_true rfl)) dL_law_248 ⟨Nat.le_of_succ_le hkc, Nat.le_trans (Nat.le_add_right _ 6) hks⟩) (k_w0 _) (k_w0 _) rfl hP hD hS hA (fun H locs hP hD hS => ?_)
  rw [show p_fact S2 (nI q) 1 = S2.2.2.1 3 q from pf_1 hp (by omega)]
  refine lv_istore (lv' := [(9, .int (S2.2.2.1 3 q)), (0, .ref b), (1, .ref o), (2, .long bb), (4, .int 1), (5, .int (nI i)), (6, .int (nI y)), (7, .int (nI z)), (8, .int (nI q))]) hx hb dL_law_251 hl (by decide) rfl (fun ls hl => ?_)
  refine lv_aload_n hx hb dL_law_253 rfl (lv_at hl 2 rfl) ?_
  refine lv_iload hx hb dL_law_254 (lv_at hl 8 rfl) ?_
  refine lv_iconst (v := 1) hx hb dL_law_256 (by decide) ?_
  refine lv_iload hx hb dL_law_257 (lv_at hl 7 rfl) ?_
  refine lv_iconst (v := 4) hx hb dL_law_259 (by decide) ?_
  refine lv_idiv hx hb dL_law_260 (by decide) ?_
  refine lv_bipush (v := 12) hx hb dL_law_261 (by decide) ?_
  refine lv_irem hx hb dL_law_263 (by decide) ?_
  refine lv_iadd hx hb dL_law_264 ?_
  rw [show 1 + (((nI z) / 4) - ((nI z) / 4) / 12 * 12) = nI a0 from by rw [ha0]; exact ncdm (d := 4) (e := 12) (c := 1) (show z < 2 ^ 31 by omega) (by decide) (by decide) (by decide) (by decide)]
  refine k_calli (a := []) (z := []) (wc := (poC o q1 q2 q3 q4 q5 q6 qt sv ++ (stW q1 cI cJ S1 ++ (stW q2 cI cJ S2 ++ (stW q3 cI cJ S3 ++ (stW q4 cI cJ S4 ++ (stW q5 cI cJ S5 ++ (stW q6 cI cJ S6 ++ (txW qt cI T))))))))) (wc' := (poC o q1 q2 q3 q4 q5 q6 qt (c_sv sv) ++ (stW q1 cI cJ S1 ++ (stW q2 cI cJ (setA S2 3 (upd (S2.2.2.1 3) (nI q).toNatClampNeg (nI a0))) ++ (stW q3 cI cJ S2 ++ (stW q4 cI cJ S3 ++ (stW q5 cI cJ S4 ++ (stW q6 cI cJ S5 ++ (txW qt cI T))))))))) (w' := (poC o q1 q2 q3 q4 q5 q6 qt (c_sv sv) ++ (stW q1 cI cJ S1 ++ (stW q2 cI cJ (setA S2 3 (upd (S2.2.2.1 3) (nI q).toNatClampNeg (nI a0))) ++ (stW q3 cI cJ S2 ++ (stW q4 cI cJ S3 ++ (stW q5 cI cJ S4 ++ (stW q6 cI cJ S5 ++ (txW qt cI T))))))))) (vx_runSW (As := [.ref o, .int (nI q), .int (nI a0)]) (rest := []) ⟨hx, hb, hml, hown, hts⟩ (m_L_swears l D o q1 q2 q3 q4 q5 q6 qt cI cJ S1 S2 S3 S4 S5 S6 T sv (nI q) (nI a0) n hn hn6 hp (c_inN (lo := 1) (hi := 12) (by omega) (by omega) (by decide)) _) (vx_cwSW 3 hts gL_law_L_swears rfl rfl rfl (by decide +kernel) ⟨Nat.le_of_ble_eq_true rfl, Nat.le_of_ble_eq_true rfl⟩) ⟨kB_blind, k_pre (a := []) (z := []) (k_w0 _) hK hP hD⟩ rfl rfl hl.1 rfl (lv_room (Nat.le_of_ble_eq_true rfl)) dL_law_265 ⟨Nat.le_of_succ_le hkc, Nat.le_trans (Nat.le_add_right _ 6) hks⟩) (k_w0 _) (k_w0 _) rfl hP hD hS hA (fun H locs hP hD hS => ?_)
  refine lv_iload hx hb dL_law_268 (lv_at hl 0 rfl) ?_
  refine lv_icmp_ne (tgt := 296) hx hb dL_law_270 (by decide) (fun c_270_0 => ?_) (fun c_270_0 => ?_)
  · have c_270_0 : ¬ (S2.2.2.1 3 (nI q).toNatClampNeg) = (S2.2.2.1 3 q) := c_270_0
    exact absurd (by rw [hcl]) c_270_0 -- done
  · have c_270_0 : (S2.2.2.1 3 (nI q).toNatClampNeg) = (S2.2.2.1 3 q) := c_270_0
    refine lv_aload_n hx hb dL_law_273 rfl (lv_at hl 2 rfl) ?_
    refine lv_iload hx hb dL_law_274 (lv_at hl 8 rfl) ?_
    refine lv_iconst (v := 1) hx hb dL_law_276 (by decide) ?_
    refine k_calli (a := []) (z := []) (wc := (poC o q1 q2 q3 q4 q5 q6 qt (c_sv sv) ++ (stW q1 cI cJ S1 ++ (stW q2 cI cJ (setA S2 3 (upd (S2.2.2.1 3) (nI q).toNatClampNeg (nI a0))) ++ (stW q3 cI cJ S2 ++ (stW q4 cI cJ S3 ++ (stW q5 cI cJ S4 ++ (stW q6 cI cJ S5 ++ (txW qt cI T))))))))) (wc' := (poC o q1 q2 q3 q4 q5 q6 qt (c_sv sv) ++ (stW q1 cI cJ S1 ++ (stW q2 cI cJ (setA S2 3 (upd (S2.2.2.1 3) (nI q).toNatClampNeg (nI a0))) ++ (stW q3 cI cJ S2 ++ (stW q4 cI cJ S3 ++ (stW q5 cI cJ S4 ++ (stW q6 cI cJ S5 ++ (txW qt cI T))))))))) (w' := (poC o q1 q2 q3 q4 q5 q6 qt (c_sv sv) ++ (stW q1 cI cJ S1 ++ (stW q2 cI cJ (setA S2 3 (upd (S2.2.2.1 3) (nI q).toNatClampNeg (nI a0))) ++ (stW q3 cI cJ S2 ++ (stW q4 cI cJ S3 ++ (stW q5 cI cJ S4 ++ (stW q6 cI cJ S5 ++ (txW qt cI T))))))))) (vx_runSW (As := [.ref o, .int (nI q), .int 1]) (rest := []) ⟨hx, hb, hml, hown, hts⟩ (m_L_pump l D o q1 q2 q3 q4 q5 q6 qt cI cJ S1 (setA S2 3 (upd (S2.2.2.1 3) (nI q).toNatClampNeg (nI a0))) S2 S3 S4 S5 T (c_sv sv) (nI q) 1 n hn hn6 hp (by decide) _) (vx_cwSW 3 hts gL_law_L_pump rfl rfl rfl (by decide +kernel) ⟨Nat.le_of_ble_eq_true rfl, Nat.le_of_ble_eq_true rfl⟩) ⟨kB_blind, k_pre (a := []) (z := []) (k_w0 _) hK hP hD⟩ rfl rfl hl.1 rfl (lv_room (Nat.le_of_ble_eq_true rfl)) dL_law_277 ⟨Nat.le_of_succ_le hkc, Nat.le_trans (Nat.le_add_right _ 6) hks⟩) (k_w0 _) (k_w0 _) rfl hP hD hS hA (fun H locs hP hD hS => ?_)
    rw [show p_fact (setA S2 3 (upd (S2.2.2.1 3) (nI q).toNatClampNeg (nI a0))) (nI q) 1 = (setA S2 3 (upd (S2.2.2.1 3) (nI q).toNatClampNeg (nI a0))).2.2.1 3 q from pf_1 hp (by omega)]
    refine lv_iconst (v := 1) hx hb dL_law_280 (by decide) ?_
    refine lv_iload hx hb dL_law_281 (lv_at hl 7 rfl) ?_
    refine lv_iconst (v := 4) hx hb dL_law_283 (by decide) ?_
    refine lv_idiv hx hb dL_law_284 (by decide) ?_
    refine lv_bipush (v := 12) hx hb dL_law_285 (by decide) ?_
    refine lv_irem hx hb dL_law_287 (by decide) ?_
    refine lv_iadd hx hb dL_law_288 ?_
    rw [show 1 + (((nI z) / 4) - ((nI z) / 4) / 12 * 12) = nI a0 from by rw [ha0]; exact ncdm (d := 4) (e := 12) (c := 1) (show z < 2 ^ 31 by omega) (by decide) (by decide) (by decide) (by decide)]
    refine lv_icmp_ne (tgt := 296) hx hb dL_law_289 (by decide) (fun c_289_1 => ?_) (fun c_289_1 => ?_)
    · have c_289_1 : ¬ ((setA S2 3 (upd (S2.2.2.1 3) (nI q).toNatClampNeg (nI a0))).2.2.1 3 q) = (nI a0) := c_289_1
      exact absurd (set3 (by omega) _) c_289_1 -- done
    · have c_289_1 : ((setA S2 3 (upd (S2.2.2.1 3) (nI q).toNatClampNeg (nI a0))).2.2.1 3 q) = (nI a0) := c_289_1
      refine lv_iconst (v := 1) hx hb dL_law_292 (by decide) ?_
      refine lv_goto (tgt := 297) hx hb dL_law_293 (by decide) ?_
      refine lv_istore (lv' := [(4, .int 1), (9, .int (S2.2.2.1 3 q)), (0, .ref b), (1, .ref o), (2, .long bb), (5, .int (nI i)), (6, .int (nI y)), (7, .int (nI z)), (8, .int (nI q))]) hx hb dL_law_297 hl (by decide) rfl (fun ls hl => ?_)
      refine lv_goto (tgt := 563) hx hb dL_law_299 (by decide) ?_
      have hI9 : LI (setA S2 3 (upd (S2.2.2.1 3) (nI q).toNatClampNeg (nI a0))) (c_sv sv) bb n (u + 150) := LI_up (LI_S hI (fun Z W t B h _ => o_swear h hqn (by omega) (by omega))) (by omega)
      refine W.widen (k := kc + 1) (n := ks + 6) (Nat.le_add_right _ _) (Nat.le_add_right _ _) ?_
      exact K S1 (setA S2 3 (upd (S2.2.2.1 3) (nI q).toNatClampNeg (nI a0))) S2 S3 S4 S5 T (c_sv sv) bb hI9 _ _ _ hP hD hS (lv_sub hl [2, 3, 4, 0, 5] rfl)

set_option maxHeartbeats 1000000 in
set_option maxRecDepth 100000 in
theorem lw_c1 {p9 : Program} {l : Launch} {e9 : Env} {s9 : State} {m9 : MethodId} {below : List Frame} {meth : Method} {c9 : Code} {b L : Nat} {xs : Nat → Int32} {D : va_G} {cI cJ : ClassId} (C0 : lw_C p9 l s9 m9 meth c9 b L xs D cI cJ) {o : Nat} {q1 q2 q3 q4 q5 q6 qt : Nat → Nat} {n u i y z q kc ks : Nat} (hn9 : n = 3) (hu : u ≤ 5000) (hz : z < 2 ^ 27) (hq : q < 3) (hkc : kc + 1 ≤ 292) (hks : ks + 6 ≤ 2600) (K : ∀ (S1 S2 S3 S4 S5 S6 : SS) (T : TS) (sv : Int32) (bb : Int64), LI S2 sv bb n (u + 150) → ∀ (H : Heap) (locs : List Loc) (ls : Array Slot), va_P D vwCl (poW o q1 q2 q3 q4 q5 q6 qt cI cJ S1 S2 S3 S4 S5 S6 T sv) H → va_D (A0 s9) (poW o q1 q2 q3 q4 q5 q6 qt cI cJ S1 S2 S3 S4 S5 S6 T sv) → va_S (A0 s9) s9.heap H locs → lv_has ls 14 [(0, .ref b), (1, .ref o), (2, .long bb), (4, .int 1), (5, .int (nI i))] → W p9 l e9 room_1 s9 m9 #[Value.ref b] below meth c9 H locs (kc + 1) (ks + 6) (lw_Z below #[Value.ref b] s9) (F0 m9 563 ls [])) {S1 S2 S3 S4 S5 S6 : SS} {T : TS} {sv : Int32} {bb : Int64} (hI : LI S2 sv bb n u) {H : Heap} {locs : List Loc} {ls : Array Slot} (hP : va_P D vwCl (poW o q1 q2 q3 q4 q5 q6 qt cI cJ S1 S2 S3 S4 S5 S6 T sv) H) (hD : va_D (A0 s9) (poW o q1 q2 q3 q4 q5 q6 qt cI cJ S1 S2 S3 S4 S5 S6 T sv)) (hS : va_S (A0 s9) s9.heap H locs) (hl : lv_has ls 14 [(0, .ref b), (1, .ref o), (2, .long bb), (4, .int 1), (5, .int (nI i)), (6, .int (nI y)), (7, .int (nI z)), (8, .int (nI q))]) : W p9 l e9 room_1 s9 m9 #[Value.ref b] below meth c9 H locs kc ks (lw_Z below #[Value.ref b] s9) (F0 m9 302 ls []) := by
  have C1 := C0
  obtain ⟨hx, hb, hr, hml, hown, hts, hX, hbl, hlk, hK, hTT, hN, hst, hL⟩ := C1
  have hA : ∀ q : Nat, s9.heap.size ≤ q → A0 s9 q := fun _ h => h
  have hbA : ¬ A0 s9 b := Nat.not_le.mpr hbl
  obtain ⟨Z, Ww, t, B, v, hJ, hbb, hsv, hv4, htu⟩ := id hI
  obtain ⟨h8, hn3, h4⟩ := J_n hJ
  have hn : S2.1 8 = nI n := h8
  have hn6 : n ≤ 6 := by omega
  have hqn : q < n := by omega
  by_cases hm : S2.2.2.1 4 q = 2
  · refine lv_aload_n hx hb dL_law_302 rfl (lv_at hl 1 rfl) ?_
    refine lv_iload hx hb dL_law_303 (lv_at hl 7 rfl) ?_
    refine k_callHn (a := []) (z := []) (wc := (poC o q1 q2 q3 q4 q5 q6 qt sv ++ (stW q1 cI cJ S1 ++ (stW q2 cI cJ S2 ++ (stW q3 cI cJ S3 ++ (stW q4 cI cJ S4 ++ (stW q5 cI cJ S5 ++ (stW q6 cI cJ S6 ++ (txW qt cI T))))))))) (wc' := (poC o q1 q2 q3 q4 q5 q6 qt (c_sv sv) ++ (stW q1 cI cJ S1 ++ (stW q2 cI cJ (setA S2 4 (upd (S2.2.2.1 4) (nI q).toNatClampNeg 0)) ++ (stW q3 cI cJ S2 ++ (stW q4 cI cJ S3 ++ (stW q5 cI cJ S4 ++ (stW q6 cI cJ S5 ++ (txW qt cI T))))))))) (w' := (poC o q1 q2 q3 q4 q5 q6 qt (c_sv sv) ++ (stW q1 cI cJ S1 ++ (stW q2 cI cJ (setA S2 4 (upd (S2.2.2.1 4) (nI q).toNatClampNeg 0)) ++ (stW q3 cI cJ S2 ++ (stW q4 cI cJ S3 ++ (stW q5 cI cJ S4 ++ (stW q6 cI cJ S5 ++ (txW qt cI T))))))))) (va_runS (As := [.ref o, .int (nI q)]) (rest := []) ⟨hx, hb, hml, hown, hts⟩ (c_L_servicesOne_a l D o q1 q2 q3 q4 q5 q6 qt cI cJ S1 S2 S3 S4 S5 S6 T sv q n hn hn6 hst hqn hm _) (cwS 2 hts gL_law_L_servicesOne rfl rfl rfl (by decide +kernel) ⟨Nat.le_of_ble_eq_true rfl, Nat.le_of_ble_eq_true rfl⟩) ⟨kBH_blind, k_preH (a := []) (z := []) (k_w0 _) hK hP hD hS hA hTT hN⟩ rfl rfl hl.1 rfl (lv_room (Nat.le_of_ble_eq_true rfl)) dL_law_305 ⟨hkc, hks⟩) (k_w0 _) (k_w0 _) rfl hP hD hS hA (fun H locs hP hD hS => ?_)
    refine lv_istore (lv' := [(4, .int 1), (0, .ref b), (1, .ref o), (2, .long bb), (5, .int (nI i)), (6, .int (nI y)), (7, .int (nI z)), (8, .int (nI q))]) hx hb dL_law_308 hl (by decide) rfl (fun ls hl => ?_)
    refine lv_goto (tgt := 563) hx hb dL_law_310 (by decide) ?_
    have hI9 : LI (setA S2 4 (upd (S2.2.2.1 4) (nI q).toNatClampNeg 0)) (c_sv sv) bb n (u + 150) := LI_up (LI_S hI (fun Z W t B h _ => o_mode (v := 0) h hqn (by omega))) (by omega)
    exact K S1 (setA S2 4 (upd (S2.2.2.1 4) (nI q).toNatClampNeg 0)) S2 S3 S4 S5 T (c_sv sv) bb hI9 _ _ _ hP hD hS (lv_sub hl [1, 2, 3, 0, 4] rfl)
  · refine lv_aload_n hx hb dL_law_302 rfl (lv_at hl 1 rfl) ?_
    refine lv_iload hx hb dL_law_303 (lv_at hl 7 rfl) ?_
    refine k_callHn (a := []) (z := []) (wc := (poC o q1 q2 q3 q4 q5 q6 qt sv ++ (stW q1 cI cJ S1 ++ (stW q2 cI cJ S2 ++ (stW q3 cI cJ S3 ++ (stW q4 cI cJ S4 ++ (stW q5 cI cJ S5 ++ (stW q6 cI cJ S6 ++ (txW qt cI T))))))))) (wc' := (poC o q1 q2 q3 q4 q5 q6 qt (c_sv sv) ++ (stW q1 cI cJ S1 ++ (stW q2 cI cJ (setA S2 4 (upd (S2.2.2.1 4) (nI q).toNatClampNeg 2)) ++ (stW q3 cI cJ S2 ++ (stW q4 cI cJ S3 ++ (stW q5 cI cJ S4 ++ (stW q6 cI cJ S5 ++ (txW qt cI T))))))))) (w' := (poC o q1 q2 q3 q4 q5 q6 qt (c_sv sv) ++ (stW q1 cI cJ S1 ++ (stW q2 cI cJ (setA S2 4 (upd (S2.2.2.1 4) (nI q).toNatClampNeg 2)) ++ (stW q3 cI cJ S2 ++ (stW q4 cI cJ S3 ++ (stW q5 cI cJ S4 ++ (stW q6 cI cJ S5 ++ (txW qt cI T))))))))) (va_runS (As := [.ref o, .int (nI q)]) (rest := []) ⟨hx, hb, hml, hown, hts⟩ (c_L_servicesOne_b l D o q1 q2 q3 q4 q5 q6 qt cI cJ S1 S2 S3 S4 S5 S6 T sv q n hn hn6 hst hqn hm _) (cwS 2 hts gL_law_L_servicesOne rfl rfl rfl (by decide +kernel) ⟨Nat.le_of_ble_eq_true rfl, Nat.le_of_ble_eq_true rfl⟩) ⟨kBH_blind, k_preH (a := []) (z := []) (k_w0 _) hK hP hD hS hA hTT hN⟩ rfl rfl hl.1 rfl (lv_room (Nat.le_of_ble_eq_true rfl)) dL_law_305 ⟨hkc, hks⟩) (k_w0 _) (k_w0 _) rfl hP hD hS hA (fun H locs hP hD hS => ?_)
    refine lv_istore (lv' := [(4, .int 1), (0, .ref b), (1, .ref o), (2, .long bb), (5, .int (nI i)), (6, .int (nI y)), (7, .int (nI z)), (8, .int (nI q))]) hx hb dL_law_308 hl (by decide) rfl (fun ls hl => ?_)
    refine lv_goto (tgt := 563) hx hb dL_law_310 (by decide) ?_
    have hI9 : LI (setA S2 4 (upd (S2.2.2.1 4) (nI q).toNatClampNeg 2)) (c_sv sv) bb n (u + 150) := LI_up (LI_S hI (fun Z W t B h _ => o_mode (v := 2) h hqn (by omega))) (by omega)
    exact K S1 (setA S2 4 (upd (S2.2.2.1 4) (nI q).toNatClampNeg 2)) S2 S3 S4 S5 T (c_sv sv) bb hI9 _ _ _ hP hD hS (lv_sub hl [1, 2, 3, 0, 4] rfl)
