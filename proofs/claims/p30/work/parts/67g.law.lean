set_option maxHeartbeats 1000000 in
set_option maxRecDepth 100000 in
theorem lw_sw {p9 : Program} {l : Launch} {e9 : Env} {s9 : State} {m9 : MethodId} {below : List Frame} {meth : Method} {c9 : Code} {b L : Nat} {xs : Nat → Int32} {D : va_G} {cI cJ : ClassId} (C0 : lw_C p9 l s9 m9 meth c9 b L xs D cI cJ) {o : Nat} {q1 q2 q3 q4 q5 q6 qt : Nat → Nat} {n u i y z q kc ks : Nat} (hn9 : n = 3) (hu : u ≤ 5000) (hz : z < 2 ^ 27) (hq : q < 3) (hkc : kc + 1 ≤ 292) (hks : ks + 6 ≤ 2600) (K : ∀ (S1 S2 S3 S4 S5 S6 : SS) (T : TS) (sv : Int32) (bb : Int64), LI S2 sv bb n (u + 150) → ∀ (H : Heap) (locs : List Loc) (ls : Array Slot), va_P D vwCl (poW o q1 q2 q3 q4 q5 q6 qt cI cJ S1 S2 S3 S4 S5 S6 T sv) H → va_D (A0 s9) (poW o q1 q2 q3 q4 q5 q6 qt cI cJ S1 S2 S3 S4 S5 S6 T sv) → va_S (A0 s9) s9.heap H locs → lv_has ls 14 [(0, .ref b), (1, .ref o), (2, .long bb), (4, .int 1), (5, .int (nI i))] → W p9 l e9 room_1 s9 m9 #[Value.ref b] below meth c9 H locs (kc + 1) (ks + 6) (lw_Z below #[Value.ref b] s9) (F0 m9 563 ls [])) {S1 S2 S3 S4 S5 S6 : SS} {T : TS} {sv : Int32} {bb : Int64} (hI : LI S2 sv bb n u) {H : Heap} {locs : List Loc} {ls : Array Slot} (hP : va_P D vwCl (poW o q1 q2 q3 q4 q5 q6 qt cI cJ S1 S2 S3 S4 S5 S6 T sv) H) (hD : va_D (A0 s9) (poW o q1 q2 q3 q4 q5 q6 qt cI cJ S1 S2 S3 S4 S5 S6 T sv)) (hS : va_S (A0 s9) s9.heap H locs) (hl : lv_has ls 14 [(0, .ref b), (1, .ref o), (2, .long bb), (4, .int 1), (5, .int (nI i)), (6, .int (nI y)), (7, .int (nI z)), (8, .int (nI q))]) : ∀ w : Nat, w < 16 → W p9 l e9 room_1 s9 m9 #[Value.ref b] below meth c9 H locs kc ks (lw_Z below #[Value.ref b] s9) (F0 m9 195 ls [.int (nI w)]) := by
  intro w hw
  have C1 := C0
  obtain ⟨hx, hb, -⟩ := C1
  match w, hw with
  | 0, _ => exact lv_tableIn (off := 49) (tgt := 244) hx hb dL_law_195 (by decide) (by decide) (by decide) (by decide) (lw_c0 C0 hn9 hu hz hq hkc hks K hI hP hD hS hl)
  | 1, _ => exact lv_tableIn (off := 107) (tgt := 302) hx hb dL_law_195 (by decide) (by decide) (by decide) (by decide) (lw_c1 C0 hn9 hu hz hq hkc hks K hI hP hD hS hl)
  | 2, _ => exact lv_tableIn (off := 118) (tgt := 313) hx hb dL_law_195 (by decide) (by decide) (by decide) (by decide) (lw_c2 C0 hn9 hu hz hq hkc hks K hI hP hD hS hl)
  | 3, _ => exact lv_tableIn (off := 183) (tgt := 378) hx hb dL_law_195 (by decide) (by decide) (by decide) (by decide) (lw_c3 C0 hn9 hu hz hq hkc hks K hI hP hD hS hl)
  | 4, _ => exact lv_tableIn (off := 219) (tgt := 414) hx hb dL_law_195 (by decide) (by decide) (by decide) (by decide) (lw_c4 C0 hn9 hu hz hq hkc hks K hI hP hD hS hl)
  | 5, _ => exact lv_tableIn (off := 268) (tgt := 463) hx hb dL_law_195 (by decide) (by decide) (by decide) (by decide) (lw_c5 C0 hn9 hu hz hq hkc hks K hI hP hD hS hl)
  | 6, _ => exact lv_tableIn (off := 298) (tgt := 493) hx hb dL_law_195 (by decide) (by decide) (by decide) (by decide) (lw_c6 C0 hn9 hu hz hq hkc hks K hI hP hD hS hl)
  | 7, _ => exact lv_tableIn (off := 316) (tgt := 511) hx hb dL_law_195 (by decide) (by decide) (by decide) (by decide) (lw_c7 C0 hn9 hu hz hq hkc hks K hI hP hD hS hl)
  | 8, _ => exact lv_tableIn (off := 332) (tgt := 527) hx hb dL_law_195 (by decide) (by decide) (by decide) (by decide) (lw_c8 C0 hn9 hu hz hq hkc hks K hI hP hD hS hl)
  | w + 9, hw => exact lv_tableOut (tgt := 549) hx hb dL_law_195 (Or.inr (by rw [nI_toInt (by omega)]; omega)) (by decide) (lw_c9 C0 hn9 hu hz hq hkc hks K hI hP hD hS hl)

set_option maxHeartbeats 1000000 in
set_option maxRecDepth 100000 in
theorem lw_it {p9 : Program} {l : Launch} {e9 : Env} {s9 : State} {m9 : MethodId} {below : List Frame} {meth : Method} {c9 : Code} {b L : Nat} {xs : Nat → Int32} {D : va_G} {cI cJ : ClassId} (C0 : lw_C p9 l s9 m9 meth c9 b L xs D cI cJ) {o : Nat} {q1 q2 q3 q4 q5 q6 qt : Nat → Nat} {n u i kc ks : Nat} (hn9 : n = 3) (hu : u + 150 ≤ 5000) (hi : i < 32) (hkc : kc + 1 ≤ 292) (hks : ks + 6 ≤ 2600) (K : ∀ (S1 S2 S3 S4 S5 S6 : SS) (T : TS) (sv : Int32) (bb : Int64), LI S2 sv bb n (u + 150) → ∀ (H : Heap) (locs : List Loc) (ls : Array Slot), va_P D vwCl (poW o q1 q2 q3 q4 q5 q6 qt cI cJ S1 S2 S3 S4 S5 S6 T sv) H → va_D (A0 s9) (poW o q1 q2 q3 q4 q5 q6 qt cI cJ S1 S2 S3 S4 S5 S6 T sv) → va_S (A0 s9) s9.heap H locs → lv_has ls 14 [(0, .ref b), (1, .ref o), (2, .long bb), (4, .int 1), (5, .int (nI (i + 1)))] → W p9 l e9 room_1 s9 m9 #[Value.ref b] below meth c9 H locs (kc + 1) (ks + 6) (lw_Z below #[Value.ref b] s9) (F0 m9 154 ls [])) {S1 S2 S3 S4 S5 S6 : SS} {T : TS} {sv : Int32} {bb : Int64} (hI : LI S2 sv bb n u) {H : Heap} {locs : List Loc} {ls : Array Slot} (hP : va_P D vwCl (poW o q1 q2 q3 q4 q5 q6 qt cI cJ S1 S2 S3 S4 S5 S6 T sv) H) (hD : va_D (A0 s9) (poW o q1 q2 q3 q4 q5 q6 qt cI cJ S1 S2 S3 S4 S5 S6 T sv)) (hS : va_S (A0 s9) s9.heap H locs) (hl : lv_has ls 14 [(0, .ref b), (1, .ref o), (2, .long bb), (4, .int 1), (5, .int (nI i))]) : W p9 l e9 room_1 s9 m9 #[Value.ref b] below meth c9 H locs kc ks (lw_Z below #[Value.ref b] s9) (F0 m9 154 ls []) := by
  have C1 := C0
  obtain ⟨hx, hb, hr, hml, hown, hts, hX, hbl, hlk, hK, hTT, hN, hst, hL⟩ := C1
  have hA : ∀ q : Nat, s9.heap.size ≤ q → A0 s9 q := fun _ h => h
  have hbA : ¬ A0 s9 b := Nat.not_le.mpr hbl
  obtain ⟨y, hy, ey⟩ := ce_nn xs L (8 + i)
  refine lv_iload hx hb dL_law_154 (lv_at hl 4 rfl) ?_
  refine lv_bipush (v := 32) hx hb dL_law_156 (by decide) ?_
  refine lv_icmp_ge (tgt := 589) hx hb dL_law_158 (by decide) (fun c_158_0 => ?_) (fun c_158_0 => ?_)
  · have c_158_0 : 32 ≤ (nI i) := c_158_0
    exact absurd c_158_0 (nI_ge (b := 32) hi (by decide)) -- done
  · have c_158_0 : ¬ 32 ≤ (nI i) := c_158_0
    refine lv_iload hx hb dL_law_161 (lv_at hl 3 rfl) ?_
    refine lv_if_eq (tgt := 589) hx hb dL_law_163 (by decide) (fun h => absurd h (by decide)) (fun _ => ?_)
    refine lv_aload_n hx hb dL_law_166 rfl (lv_at hl 0 rfl) ?_
    refine lv_bipush (v := 8) hx hb dL_law_167 (by decide) ?_
    refine lv_iload hx hb dL_law_169 (lv_at hl 4 rfl) ?_
    refine lv_iadd hx hb dL_law_171 ?_
    rw [show 8 + (nI i) = nI (8 + i) from nI_add 8 i]
    refine k_calli (a := []) (z := (poC o q1 q2 q3 q4 q5 q6 qt sv ++ (stW q1 cI cJ S1 ++ (stW q2 cI cJ S2 ++ (stW q3 cI cJ S3 ++ (stW q4 cI cJ S4 ++ (stW q5 cI cJ S5 ++ (stW q6 cI cJ S6 ++ (txW qt cI T))))))))) (wc := []) (wc' := []) (w' := (poC o q1 q2 q3 q4 q5 q6 qt sv ++ (stW q1 cI cJ S1 ++ (stW q2 cI cJ S2 ++ (stW q3 cI cJ S3 ++ (stW q4 cI cJ S4 ++ (stW q5 cI cJ S5 ++ (stW q6 cI cJ S6 ++ (txW qt cI T))))))))) (va_runS (As := [.ref b, .int (nI (8 + i))]) (rest := []) ⟨hx, hb, hml, hown, hts⟩ (c_L_cell l D cI cJ b L xs (8 + i) (by omega) hL _) (cwS 2 hts gL_law_L_cell rfl rfl rfl (by decide +kernel) ⟨Nat.le_of_ble_eq_true rfl, Nat.le_of_ble_eq_true rfl⟩) ⟨kBX_blind, k_preX hX hbl hbA hS hK hP hD⟩ rfl rfl hl.1 rfl (lv_room (Nat.le_of_ble_eq_true rfl)) dL_law_172 ⟨Nat.le_of_succ_le hkc, Nat.le_trans (Nat.le_add_right _ 6) hks⟩) rfl rfl rfl hP hD hS hA (fun H locs hP hD hS => ?_)
    rw [show ce_V xs L (8 + i) = nI y from ey]
    refine lv_istore (lv' := [(6, .int (nI y)), (0, .ref b), (1, .ref o), (2, .long bb), (4, .int 1), (5, .int (nI i))]) hx hb dL_law_175 hl (by decide) rfl (fun ls hl => ?_)
    refine lv_iload hx hb dL_law_177 (lv_at hl 0 rfl) ?_
    refine lv_bipush (v := 16) hx hb dL_law_179 (by decide) ?_
    refine lv_idiv hx hb dL_law_181 (by decide) ?_
    rw [show (nI y) / 16 = nI (y / 16) from nd (d := 16) hy (by decide) (by decide)]
    refine lv_istore (lv' := [(7, .int (nI (y / 16))), (6, .int (nI y)), (0, .ref b), (1, .ref o), (2, .long bb), (4, .int 1), (5, .int (nI i))]) hx hb dL_law_182 hl (by decide) rfl (fun ls hl => ?_)
    refine lv_iload hx hb dL_law_184 (lv_at hl 0 rfl) ?_
    refine lv_iconst (v := 3) hx hb dL_law_186 (by decide) ?_
    refine lv_irem hx hb dL_law_187 (by decide) ?_
    rw [show (nI (y / 16)) - (nI (y / 16)) / 3 * 3 = nI (y / 16 % 3) from nm (d := 3) (show y / 16 < 2 ^ 31 by omega) (by decide) (by decide)]
    refine lv_istore (lv' := [(8, .int (nI (y / 16 % 3))), (7, .int (nI (y / 16))), (6, .int (nI y)), (0, .ref b), (1, .ref o), (2, .long bb), (4, .int 1), (5, .int (nI i))]) hx hb dL_law_188 hl (by decide) rfl (fun ls hl => ?_)
    refine lv_iload hx hb dL_law_190 (lv_at hl 2 rfl) ?_
    refine lv_bipush (v := 16) hx hb dL_law_192 (by decide) ?_
    refine lv_irem hx hb dL_law_194 (by decide) ?_
    rw [show (nI y) - (nI y) / 16 * 16 = nI (y % 16) from nm (d := 16) hy (by decide) (by decide)]
    refine lw_sw C0 (i := i) (y := y) (z := y / 16) (q := y / 16 % 3) hn9 (by omega) (by omega) (by omega) hkc hks (fun S1 S2 S3 S4 S5 S6 T sv bb hI H locs ls hP hD hS hl => ?_) hI hP hD hS (lv_sub hl [3, 4, 5, 6, 7, 2, 1, 0] rfl) (y % 16) (by omega)
    obtain ⟨Z, Ww, t, B, v, hJ, hbb, hsv, hv4, htu⟩ := id hI
    obtain ⟨h8, hn3, h4⟩ := J_n hJ
    have hn : S2.1 8 = nI n := h8
    have hn6 : n ≤ 6 := by omega
    obtain ⟨s9z, z13, hH⟩ := f_holds hJ (by omega) hbb
    refine lv_iload hx hb dL_law_563 (lv_at hl 3 rfl) ?_
    refine lv_if_eq (tgt := 580) hx hb dL_law_565 (by decide) (fun h => absurd h (by decide)) (fun _ => ?_)
    refine lv_aload_n hx hb dL_law_568 rfl (lv_at hl 1 rfl) ?_
    refine lv_lload_n hx hb dL_law_569 rfl (lv_at hl 2 rfl) ?_
    refine k_calli (a := []) (z := []) (wc := (poC o q1 q2 q3 q4 q5 q6 qt sv ++ (stW q1 cI cJ S1 ++ (stW q2 cI cJ S2 ++ (stW q3 cI cJ S3 ++ (stW q4 cI cJ S4 ++ (stW q5 cI cJ S5 ++ (stW q6 cI cJ S6 ++ (txW qt cI T))))))))) (wc' := (poC o q1 q2 q3 q4 q5 q6 qt sv ++ (stW q1 cI cJ S1 ++ (stW q2 cI cJ S2 ++ (stW q3 cI cJ S3 ++ (stW q4 cI cJ S4 ++ (stW q5 cI cJ S5 ++ (stW q6 cI cJ S6 ++ (txW qt cI T))))))))) (w' := (poC o q1 q2 q3 q4 q5 q6 qt sv ++ (stW q1 cI cJ S1 ++ (stW q2 cI cJ S2 ++ (stW q3 cI cJ S3 ++ (stW q4 cI cJ S4 ++ (stW q5 cI cJ S5 ++ (stW q6 cI cJ S6 ++ (txW qt cI T))))))))) (va_runS (As := [.ref o, .long bb]) (rest := []) ⟨hx, hb, hml, hown, hts⟩ (c_L_holds l D o q1 q2 q3 q4 q5 q6 qt cI cJ S1 S2 S3 S4 S5 S6 T sv bb n hn hn6 (Z 13) s9z z13 hH _) (cwS 2 hts gL_law_L_holds rfl rfl rfl (by decide +kernel) ⟨Nat.le_of_ble_eq_true rfl, Nat.le_of_ble_eq_true rfl⟩) ⟨kB_blind, k_pre (a := []) (z := []) (k_w0 _) hK hP hD⟩ rfl rfl hl.1 rfl (lv_room (Nat.le_of_ble_eq_true rfl)) dL_law_570 ⟨hkc, hks⟩) (k_w0 _) (k_w0 _) rfl hP hD hS hA (fun H locs hP hD hS => ?_)
    refine lv_if_eq (tgt := 580) hx hb dL_law_573 (by decide) (fun h => absurd h (by decide)) (fun _ => ?_)
    refine lv_iconst (v := 1) hx hb dL_law_576 (by decide) ?_
    refine lv_goto (tgt := 581) hx hb dL_law_577 (by decide) ?_
    refine lv_istore (lv' := [(4, .int 1), (0, .ref b), (1, .ref o), (2, .long bb), (5, .int (nI i))]) hx hb dL_law_581 hl (by decide) rfl (fun ls hl => ?_)
    refine lv_iinc (v := (nI i) + 1) (lv' := [(5, .int ((nI i) + 1)), (4, .int 1), (0, .ref b), (1, .ref o), (2, .long bb)]) hx hb dL_law_583 hl (k := 4) rfl rfl (by decide) rfl (fun ls hl => ?_)
    refine lv_goto (tgt := 154) hx hb dL_law_586 (by decide) ?_
    rw [show nI i + 1 = nI (i + 1) from nI_1 _] at hl
    exact K S1 S2 S3 S4 S5 S6 T sv bb hI _ _ _ hP hD hS (lv_sub hl [2, 3, 4, 1, 0] rfl)

set_option maxHeartbeats 1000000 in
set_option maxRecDepth 100000 in
theorem lw_end {p9 : Program} {l : Launch} {e9 : Env} {s9 : State} {m9 : MethodId} {below : List Frame} {meth : Method} {c9 : Code} {b L : Nat} {xs : Nat → Int32} {D : va_G} {cI cJ : ClassId} (C0 : lw_C p9 l s9 m9 meth c9 b L xs D cI cJ) {o : Nat} {q1 q2 q3 q4 q5 q6 qt : Nat → Nat} {n u kc ks : Nat} (hn9 : n = 3) (hu : u ≤ 5000) (hkc : kc + 16 ≤ 292) (hks : ks + 96 ≤ 2600) {S1 S2 S3 S4 S5 S6 : SS} {T : TS} {sv : Int32} {bb : Int64} (hI : LI S2 sv bb n u) {H : Heap} {locs : List Loc} {ls : Array Slot} (hP : va_P D vwCl (poW o q1 q2 q3 q4 q5 q6 qt cI cJ S1 S2 S3 S4 S5 S6 T sv) H) (hD : va_D (A0 s9) (poW o q1 q2 q3 q4 q5 q6 qt cI cJ S1 S2 S3 S4 S5 S6 T sv)) (hS : va_S (A0 s9) s9.heap H locs) (hl : lv_has ls 14 [(1, .ref o), (4, .int 1)]) : W p9 l e9 room_1 s9 m9 #[Value.ref b] below meth c9 H locs kc ks (lw_Z below #[Value.ref b] s9) (F0 m9 589 ls []) := by
  have C1 := C0
  obtain ⟨hx, hb, hr, hml, hown, hts, hX, hbl, hlk, hK, hTT, hN, hst, hL⟩ := C1
  have hA : ∀ q : Nat, s9.heap.size ≤ q → A0 s9 q := fun _ h => h
  have hbA : ¬ A0 s9 b := Nat.not_le.mpr hbl
  obtain ⟨Z, Ww, t, B, v, hJ, hbb, hsv, hv4, htu⟩ := id hI
  obtain ⟨h8, hn3, h4⟩ := J_n hJ
  have hn : S2.1 8 = nI n := h8
  have hn6 : n ≤ 6 := by omega
  have s0 : S2.1 0 = nI (Z 0) := J_i hJ 0 0 (by omega) rfl
  obtain ⟨s9z, z13, hH⟩ := f_holds hJ (by omega) hbb
  obtain ⟨-, -, -, z0, -⟩ := hJ.2.2.2.1
  have g0 : ¬ S2.1 0 + 1 < 0 := by rw [s0, nI_1]; exact nI_pos (by omega)
  have g1 : ¬ S2.1 0 + 1 ≤ S2.1 0 := by rw [s0, nI_1]; exact nI_ge (by omega) (by omega)
  have g2 : p_has S2 6 = false := by
    rw [p_has, hn]
    exact decide_eq_false (fun q9 => q9.2 (nI_le (b := 6) (by omega) (by decide)))
  have g3 : p_has S2 0 = true := p_has_k (k := 0) (by omega) hn hn6
  have g4 : p_has S2 (-1) = false := by
    rw [p_has]
    exact decide_eq_false (fun q9 => q9.1 (by decide))
  have g5 : c_in 12 0 (S2.1 9 - 1) = false := by
    rw [c_in, s9z]
    refine decide_eq_false (fun q9 => q9.2 ?_)
    rcases Nat.eq_zero_or_pos (Z 13) with e | e
    · rw [e]; decide
    · rw [show nI (Z 13) - 1 = nI (Z 13 - 1) from pk_sub (b := 1) (by omega)]
      exact nI_lt (b := 12) (by omega) (by decide)
  refine lv_iload hx hb dL_law_589 (lv_at hl 1 rfl) ?_
  refine lv_if_eq (tgt := 605) hx hb dL_law_591 (by decide) (fun h => absurd h (by decide)) (fun _ => ?_)
  refine lv_aload_n hx hb dL_law_594 rfl (lv_at hl 0 rfl) ?_
  refine k_callHn (a := []) (z := []) (wc := (poC o q1 q2 q3 q4 q5 q6 qt sv ++ (stW q1 cI cJ S1 ++ (stW q2 cI cJ S2 ++ (stW q3 cI cJ S3 ++ (stW q4 cI cJ S4 ++ (stW q5 cI cJ S5 ++ (stW q6 cI cJ S6 ++ (txW qt cI T))))))))) (wc' := (poC o q1 q2 q3 q4 q5 q6 qt sv ++ (stW q1 cI cJ S1 ++ (stW q2 cI cJ S2 ++ (stW q3 cI cJ S3 ++ (stW q4 cI cJ S4 ++ (stW q5 cI cJ S5 ++ (stW q6 cI cJ S6 ++ (txW qt cI T))))))))) (w' := (poC o q1 q2 q3 q4 q5 q6 qt sv ++ (stW q1 cI cJ S1 ++ (stW q2 cI cJ S2 ++ (stW q3 cI cJ S3 ++ (stW q4 cI cJ S4 ++ (stW q5 cI cJ S5 ++ (stW q6 cI cJ S6 ++ (txW qt cI T))))))))) (va_runS (As := [.ref o]) (rest := []) ⟨hx, hb, hml, hown, hts⟩ (c_L_refuses l D o q1 q2 q3 q4 q5 q6 qt cI cJ S1 S2 S3 S4 S5 S6 T sv n hn hn6 (Z 13) s9z z13 hst g0 g1 g2 g3 g4 g5 _) (cwS 1 hts gL_law_L_refuses rfl rfl rfl (by decide +kernel) ⟨Nat.le_of_ble_eq_true rfl, Nat.le_of_ble_eq_true rfl⟩) ⟨kBH_blind, k_preH (a := []) (z := []) (k_w0 _) hK hP hD hS hA hTT hN⟩ rfl rfl hl.1 rfl (lv_room (Nat.le_of_ble_eq_true rfl)) dL_law_595 ⟨hkc, hks⟩) (k_w0 _) (k_w0 _) rfl hP hD hS hA (fun H locs hP hD hS => ?_)
  refine lv_if_eq (tgt := 605) hx hb dL_law_598 (by decide) (fun h => absurd h (by decide)) (fun _ => ?_)
  refine lv_iconst (v := 1) hx hb dL_law_601 (by decide) ?_
  refine lv_goto (tgt := 606) hx hb dL_law_602 (by decide) ?_
  refine va_forget (fun q hq => hS.2.2 q hq) ?_
  refine W.widen (k := 292) (n := 2600) (by omega) (by omega) ?_
  refine W.base ?_
  exact lw_ret (Drawn.sameBut.refl s9.drawn lw_cs) hx hb hr hlk dL_law_606

set_option maxHeartbeats 1000000 in
set_option maxRecDepth 100000 in
theorem lw_loop {p9 : Program} {l : Launch} {e9 : Env} {s9 : State} {m9 : MethodId} {below : List Frame} {meth : Method} {c9 : Code} {b L : Nat} {xs : Nat → Int32} {D : va_G} {cI cJ : ClassId} (C0 : lw_C p9 l s9 m9 meth c9 b L xs D cI cJ) {o : Nat} {q1 q2 q3 q4 q5 q6 qt : Nat → Nat} {n : Nat} (hn9 : n = 3) : ∀ (d i kc ks u : Nat), 32 ≤ i + d → i ≤ 32 → kc = 95 + i → ks = 1074 + 6 * i → u = 150 * i → ∀ (S1 S2 S3 S4 S5 S6 : SS) (T : TS) (sv : Int32) (bb : Int64), LI S2 sv bb n u → ∀ (H : Heap) (locs : List Loc) (ls : Array Slot), va_P D vwCl (poW o q1 q2 q3 q4 q5 q6 qt cI cJ S1 S2 S3 S4 S5 S6 T sv) H → va_D (A0 s9) (poW o q1 q2 q3 q4 q5 q6 qt cI cJ S1 S2 S3 S4 S5 S6 T sv) → va_S (A0 s9) s9.heap H locs → lv_has ls 14 [(0, .ref b), (1, .ref o), (2, .long bb), (4, .int 1), (5, .int (nI i))] → W p9 l e9 room_1 s9 m9 #[Value.ref b] below meth c9 H locs kc ks (lw_Z below #[Value.ref b] s9) (F0 m9 154 ls []) := by
  intro d
  have C1 := C0
  obtain ⟨hx, hb, hr, hml, hown, hts, hX, hbl, hlk, hK, hTT, hN, hst, hL⟩ := C1
  have fin : ∀ (i kc ks u : Nat), i = 32 → kc = 95 + i → ks = 1074 + 6 * i → u = 150 * i → ∀ (S1 S2 S3 S4 S5 S6 : SS) (T : TS) (sv : Int32) (bb : Int64), LI S2 sv bb n u → ∀ (H : Heap) (locs : List Loc) (ls : Array Slot), va_P D vwCl (poW o q1 q2 q3 q4 q5 q6 qt cI cJ S1 S2 S3 S4 S5 S6 T sv) H → va_D (A0 s9) (poW o q1 q2 q3 q4 q5 q6 qt cI cJ S1 S2 S3 S4 S5 S6 T sv) → va_S (A0 s9) s9.heap H locs → lv_has ls 14 [(0, .ref b), (1, .ref o), (2, .long bb), (4, .int 1), (5, .int (nI i))] → W p9 l e9 room_1 s9 m9 #[Value.ref b] below meth c9 H locs kc ks (lw_Z below #[Value.ref b] s9) (F0 m9 154 ls []) := by
    intro i kc ks u hi hkc hks hu S1 S2 S3 S4 S5 S6 T sv bb hI H locs ls hP hD hS hl
    refine lv_iload hx hb dL_law_154 (lv_at hl 4 rfl) ?_
    refine lv_bipush (v := 32) hx hb dL_law_156 (by decide) ?_
    refine lv_icmp_ge (tgt := 589) hx hb dL_law_158 (by decide) (fun _ => ?_) (fun c9 => absurd (show (32 : Int32) ≤ nI i from by rw [hi]; decide) c9)
    exact lw_end C0 hn9 (by omega) (by omega) (by omega) hI hP hD hS (lv_sub hl [1, 3] rfl)
  induction d with
  | zero =>
    intro i kc ks u h1 h2 h3 h4 h5
    exact fin i kc ks u (by omega) h3 h4 h5
  | succ d ih =>
    intro i kc ks u h1 h2 h3 h4 h5 S1 S2 S3 S4 S5 S6 T sv bb hI H locs ls hP hD hS hl
    rcases Nat.lt_or_ge i 32 with hi | hi
    · refine lw_it C0 hn9 (by omega) hi (by omega) (by omega) (fun S1 S2 S3 S4 S5 S6 T sv bb hI H locs ls hP hD hS hl => ?_) hI hP hD hS hl
      exact ih (i + 1) (kc + 1) (ks + 6) (u + 150) (by omega) (by omega) (by omega) (by omega) (by omega) S1 S2 S3 S4 S5 S6 T sv bb hI H locs ls hP hD hS hl
    · exact fin i kc ks u (by omega) h3 h4 h5 S1 S2 S3 S4 S5 S6 T sv bb hI H locs ls hP hD hS hl
