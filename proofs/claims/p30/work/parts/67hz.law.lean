set_option maxHeartbeats 1000000 in
set_option maxRecDepth 100000 in
theorem lw_mid {p9 : Program} {l : Launch} {e9 : Env} {s9 : State} {m9 : MethodId} {below : List Frame} {meth : Method} {c9 : Code} {b L : Nat} {xs : Nat → Int32} {D : va_G} {cI cJ : ClassId} (C0 : lw_C p9 l s9 m9 meth c9 b L xs D cI cJ) {o : Nat} {q1 q2 q3 q4 q5 q6 qt : Nat → Nat} {n u kc ks : Nat} (hn9 : n = 3) (hu : u ≤ 5000) (hkc : kc + 1 ≤ 292) (hks : ks + 6 ≤ 2600) {bb : Int64} (K : ∀ (S1 S2 S3 S4 S5 S6 : SS) (T : TS) (sv : Int32), LI S2 sv bb n u → ∀ (H : Heap) (locs : List Loc) (ls : Array Slot), va_P D vwCl (poW o q1 q2 q3 q4 q5 q6 qt cI cJ S1 S2 S3 S4 S5 S6 T sv) H → va_D (A0 s9) (poW o q1 q2 q3 q4 q5 q6 qt cI cJ S1 S2 S3 S4 S5 S6 T sv) → va_S (A0 s9) s9.heap H locs → lv_has ls 14 [(0, .ref b), (1, .ref o), (2, .long bb), (4, .int 1), (5, .int (nI 0))] → W p9 l e9 room_1 s9 m9 #[Value.ref b] below meth c9 H locs kc ks (lw_Z below #[Value.ref b] s9) (F0 m9 154 ls [])) {S1 S2 S3 S4 S5 S6 : SS} {T : TS} {sv : Int32} (hI : LI S2 sv bb n u) (hs1 : S2.2.2.1 0 1 = 0) (hs2 : S2.2.2.1 0 2 = 1) {H : Heap} {locs : List Loc} {ls : Array Slot} (hP : va_P D vwCl (poW o q1 q2 q3 q4 q5 q6 qt cI cJ S1 S2 S3 S4 S5 S6 T sv) H) (hD : va_D (A0 s9) (poW o q1 q2 q3 q4 q5 q6 qt cI cJ S1 S2 S3 S4 S5 S6 T sv)) (hS : va_S (A0 s9) s9.heap H locs) (hl : lv_has ls 14 [(0, .ref b), (1, .ref o), (2, .long bb), (4, .int 1)]) : W p9 l e9 room_1 s9 m9 #[Value.ref b] below meth c9 H locs kc ks (lw_Z below #[Value.ref b] s9) (F0 m9 105 ls []) := by
  have C1 := C0
  obtain ⟨hx, hb, hr, hml, hown, hts, hX, hbl, hlk, hK, hTT, hN, hst, hL⟩ := C1
  have hA : ∀ q : Nat, s9.heap.size ≤ q → A0 s9 q := fun _ h => h
  have hbA : ¬ A0 s9 b := Nat.not_le.mpr hbl
  obtain ⟨y1, hy1, ey1⟩ := ce_nn xs L 6
  obtain ⟨y2, hy2, ey2⟩ := ce_nn xs L 7
  obtain ⟨a0, ha0⟩ : ∃ a0, a0 = y1 % 101 := ⟨_, rfl⟩
  obtain ⟨b0, hb0⟩ : ∃ b0, b0 = y2 % 2 := ⟨_, rfl⟩
  have hI9 := LI_two hI (show a0 ≤ 100 by omega) (show b0 ≤ 1 by omega)
  have hset1 : c_isSet 1 (nI a0) = true := isSet1 (by omega)
  have hset2 : c_isSet 2 (nI b0) = true := isSet2 (by omega)
  have e1 : s_set S2 1 = 0 := set_1 hs1
  have e2 : s_set (s_chS S2 1 (nI a0)) 2 = 1 := set_2 hs2 _
  refine lv_iload hx hb dL_law_105 (lv_at hl 3 rfl) ?_
  refine lv_if_eq (tgt := 148) hx hb dL_law_107 (by decide) (fun h => absurd h (by decide)) (fun _ => ?_)
  refine lv_aload_n hx hb dL_law_110 rfl (lv_at hl 1 rfl) ?_
  refine lv_iconst (v := 1) hx hb dL_law_111 (by decide) ?_
  refine lv_aload_n hx hb dL_law_112 rfl (lv_at hl 0 rfl) ?_
  refine lv_bipush (v := 6) hx hb dL_law_113 (by decide) ?_
  rw [show 6 = nI 6 from rfl]
  refine k_calli (a := []) (z := (poC o q1 q2 q3 q4 q5 q6 qt sv ++ (stW q1 cI cJ S1 ++ (stW q2 cI cJ S2 ++ (stW q3 cI cJ S3 ++ (stW q4 cI cJ S4 ++ (stW q5 cI cJ S5 ++ (stW q6 cI cJ S6 ++ (txW qt cI T))))))))) (wc := []) (wc' := []) (w' := (poC o q1 q2 q3 q4 q5 q6 qt sv ++ (stW q1 cI cJ S1 ++ (stW q2 cI cJ S2 ++ (stW q3 cI cJ S3 ++ (stW q4 cI cJ S4 ++ (stW q5 cI cJ S5 ++ (stW q6 cI cJ S6 ++ (txW qt cI T))))))))) (va_runS (As := [.ref b, .int (nI 6)]) (rest := [.int 1, .ref o]) ⟨hx, hb, hml, hown, hts⟩ (c_L_cell l D cI cJ b L xs 6 (by omega) hL _) (cwS 2 hts gL_law_L_cell rfl rfl rfl (by decide +kernel) ⟨Nat.le_of_ble_eq_true rfl, Nat.le_of_ble_eq_true rfl⟩) ⟨kBX_blind, k_preX hX hbl hbA hS hK hP hD⟩ rfl rfl hl.1 rfl (lv_room (Nat.le_of_ble_eq_true rfl)) dL_law_115 ⟨Nat.le_of_succ_le hkc, Nat.le_trans (Nat.le_add_right _ 6) hks⟩) rfl rfl rfl hP hD hS hA (fun H locs hP hD hS => ?_)
  rw [show ce_V xs L 6 = nI y1 from ey1]
  refine lv_bipush (v := 101) hx hb dL_law_118 (by decide) ?_
  refine lv_irem hx hb dL_law_120 (by decide) ?_
  rw [show (nI y1) - (nI y1) / 101 * 101 = nI a0 from by rw [ha0]; exact nm (d := 101) hy1 (by decide) (by decide)]
  refine k_calli (a := []) (z := []) (wc := (poC o q1 q2 q3 q4 q5 q6 qt sv ++ (stW q1 cI cJ S1 ++ (stW q2 cI cJ S2 ++ (stW q3 cI cJ S3 ++ (stW q4 cI cJ S4 ++ (stW q5 cI cJ S5 ++ (stW q6 cI cJ S6 ++ (txW qt cI T))))))))) (wc' := (poC o q1 q2 q3 q4 q5 q6 qt (c_sv sv) ++ (stW q1 cI cJ S1 ++ (stW q2 cI cJ (s_chS S2 1 (nI a0)) ++ (stW q3 cI cJ S2 ++ (stW q4 cI cJ S3 ++ (stW q5 cI cJ S4 ++ (stW q6 cI cJ S5 ++ (txW qt cI T))))))))) (w' := (poC o q1 q2 q3 q4 q5 q6 qt (c_sv sv) ++ (stW q1 cI cJ S1 ++ (stW q2 cI cJ (s_chS S2 1 (nI a0)) ++ (stW q3 cI cJ S2 ++ (stW q4 cI cJ S3 ++ (stW q5 cI cJ S4 ++ (stW q6 cI cJ S5 ++ (txW qt cI T))))))))) (vx_runSW (As := [.ref o, .int 1, .int (nI a0)]) (rest := []) ⟨hx, hb, hml, hown, hts⟩ (m_L_sets l D o q1 q2 q3 q4 q5 q6 qt cI cJ S1 S2 S3 S4 S5 S6 T sv 1 (nI a0) hset1 _) (vx_cwSW 3 hts gL_law_L_sets rfl rfl rfl (by decide +kernel) ⟨Nat.le_of_ble_eq_true rfl, Nat.le_of_ble_eq_true rfl⟩) ⟨kBT_blind, k_preT (a := []) (z := []) (k_w0 _) hK hP hD hS hA hTT⟩ rfl rfl hl.1 rfl (lv_room (Nat.le_of_ble_eq_true rfl)) dL_law_121 ⟨Nat.le_of_succ_le hkc, Nat.le_trans (Nat.le_add_right _ 6) hks⟩) (k_w0 _) (k_w0 _) (poW_ad _ _ _ _ _ _ _ _ _ _ _ _ _ _ _ _ _ _ _ _ _ _ _ _ _ _) hP hD hS hA (fun H locs hP hD hS => ?_)
  obtain ⟨T_2, hT_2⟩ : ∃ T9, T9 = c_sv sv := ⟨_, rfl⟩
  rw [← hT_2] at hP hD
  obtain ⟨T_3, hT_3⟩ : ∃ T9, T9 = s_chS S2 1 (nI a0) := ⟨_, rfl⟩
  rw [← hT_3] at hP hD
  refine lv_if_ne (tgt := 148) hx hb dL_law_124 (by decide) (fun c_124_3 => ?_) (fun c_124_3 => ?_)
  · have c_124_3 : ¬ (s_set S2 1) = 0 := c_124_3
    exact absurd (e1) c_124_3 -- done
  · have c_124_3 : (s_set S2 1) = 0 := c_124_3
    refine lv_aload_n hx hb dL_law_127 rfl (lv_at hl 1 rfl) ?_
    refine lv_iconst (v := 2) hx hb dL_law_128 (by decide) ?_
    refine lv_aload_n hx hb dL_law_129 rfl (lv_at hl 0 rfl) ?_
    refine lv_bipush (v := 7) hx hb dL_law_130 (by decide) ?_
    rw [show 7 = nI 7 from rfl]
    refine k_calli (a := []) (z := (poC o q1 q2 q3 q4 q5 q6 qt T_2 ++ (stW q1 cI cJ S1 ++ (stW q2 cI cJ T_3 ++ (stW q3 cI cJ S2 ++ (stW q4 cI cJ S3 ++ (stW q5 cI cJ S4 ++ (stW q6 cI cJ S5 ++ (txW qt cI T))))))))) (wc := []) (wc' := []) (w' := (poC o q1 q2 q3 q4 q5 q6 qt T_2 ++ (stW q1 cI cJ S1 ++ (stW q2 cI cJ T_3 ++ (stW q3 cI cJ S2 ++ (stW q4 cI cJ S3 ++ (stW q5 cI cJ S4 ++ (stW q6 cI cJ S5 ++ (txW qt cI T))))))))) (va_runS (As := [.ref b, .int (nI 7)]) (rest := [.int 2, .ref o]) ⟨hx, hb, hml, hown, hts⟩ (c_L_cell l D cI cJ b L xs 7 (by omega) hL _) (cwS 2 hts gL_law_L_cell rfl rfl rfl (by decide +kernel) ⟨Nat.le_of_ble_eq_true rfl, Nat.le_of_ble_eq_true rfl⟩) ⟨kBX_blind, k_preX hX hbl hbA hS hK hP hD⟩ rfl rfl hl.1 rfl (lv_room (Nat.le_of_ble_eq_true rfl)) dL_law_132 ⟨Nat.le_of_succ_le hkc, Nat.le_trans (Nat.le_add_right _ 6) hks⟩) rfl rfl rfl hP hD hS hA (fun H locs hP hD hS => ?_)
    rw [show ce_V xs L 7 = nI y2 from ey2]
    refine lv_iconst (v := 2) hx hb dL_law_135 (by decide) ?_
    refine lv_irem hx hb dL_law_136 (by decide) ?_
    rw [show (nI y2) - (nI y2) / 2 * 2 = nI b0 from by rw [hb0]; exact nm (d := 2) hy2 (by decide) (by decide)]
    refine k_calli (a := []) (z := []) (wc := (poC o q1 q2 q3 q4 q5 q6 qt T_2 ++ (stW q1 cI cJ S1 ++ (stW q2 cI cJ T_3 ++ (stW q3 cI cJ S2 ++ (stW q4 cI cJ S3 ++ (stW q5 cI cJ S4 ++ (stW q6 cI cJ S5 ++ (txW qt cI T))))))))) (wc' := (poC o q1 q2 q3 q4 q5 q6 qt (c_sv T_2) ++ (stW q1 cI cJ S1 ++ (stW q2 cI cJ (s_chS T_3 2 (nI b0)) ++ (stW q3 cI cJ T_3 ++ (stW q4 cI cJ S2 ++ (stW q5 cI cJ S3 ++ (stW q6 cI cJ S4 ++ (txW qt cI T))))))))) (w' := (poC o q1 q2 q3 q4 q5 q6 qt (c_sv T_2) ++ (stW q1 cI cJ S1 ++ (stW q2 cI cJ (s_chS T_3 2 (nI b0)) ++ (stW q3 cI cJ T_3 ++ (stW q4 cI cJ S2 ++ (stW q5 cI cJ S3 ++ (stW q6 cI cJ S4 ++ (txW qt cI T))))))))) (vx_runSW (As := [.ref o, .int 2, .int (nI b0)]) (rest := []) ⟨hx, hb, hml, hown, hts⟩ (m_L_sets l D o q1 q2 q3 q4 q5 q6 qt cI cJ S1 T_3 S2 S3 S4 S5 T T_2 2 (nI b0) hset2 _) (vx_cwSW 3 hts gL_law_L_sets rfl rfl rfl (by decide +kernel) ⟨Nat.le_of_ble_eq_true rfl, Nat.le_of_ble_eq_true rfl⟩) ⟨kBT_blind, k_preT (a := []) (z := []) (k_w0 _) hK hP hD hS hA hTT⟩ rfl rfl hl.1 rfl (lv_room (Nat.le_of_ble_eq_true rfl)) dL_law_137 ⟨Nat.le_of_succ_le hkc, Nat.le_trans (Nat.le_add_right _ 6) hks⟩) (k_w0 _) (k_w0 _) (poW_ad _ _ _ _ _ _ _ _ _ _ _ _ _ _ _ _ _ _ _ _ _ _ _ _ _ _) hP hD hS hA (fun H locs hP hD hS => ?_)
    obtain ⟨T_5, hT_5⟩ : ∃ T9, T9 = c_sv T_2 := ⟨_, rfl⟩
    rw [← hT_5] at hP hD
    obtain ⟨T_6, hT_6⟩ : ∃ T9, T9 = s_chS T_3 2 (nI b0) := ⟨_, rfl⟩
    rw [← hT_6] at hP hD
    refine lv_iconst (v := 1) hx hb dL_law_140 (by decide) ?_
    refine lv_icmp_ne (tgt := 148) hx hb dL_law_141 (by decide) (fun c_141_6 => ?_) (fun c_141_6 => ?_)
    · have c_141_6 : ¬ (s_set T_3 2) = 1 := c_141_6
      exact absurd (by rw [hT_3]; exact e2) c_141_6 -- done
    · have c_141_6 : (s_set T_3 2) = 1 := c_141_6
      refine lv_iconst (v := 1) hx hb dL_law_144 (by decide) ?_
      refine lv_goto (tgt := 149) hx hb dL_law_145 (by decide) ?_
      refine lv_istore (lv' := [(4, .int 1), (0, .ref b), (1, .ref o), (2, .long bb)]) hx hb dL_law_149 hl (by decide) rfl (fun ls hl => ?_)
      refine lv_iconst (v := 0) hx hb dL_law_151 (by decide) ?_
      refine lv_istore (lv' := [(5, .int 0), (4, .int 1), (0, .ref b), (1, .ref o), (2, .long bb)]) hx hb dL_law_152 hl (by decide) rfl (fun ls hl => ?_)
      subst hT_6
      subst hT_5
      subst hT_3
      subst hT_2
      exact K S1 (s_chS (s_chS S2 1 (nI a0)) 2 (nI b0)) (s_chS S2 1 (nI a0)) S2 S3 S4 T (c_sv (c_sv sv)) hI9 _ _ _ hP hD hS (lv_sub hl [2, 3, 4, 1, 0] rfl)
