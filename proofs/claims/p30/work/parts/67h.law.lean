set_option maxHeartbeats 1000000 in
set_option maxRecDepth 100000 in
theorem lw_add {p9 : Program} {l : Launch} {e9 : Env} {s9 : State} {m9 : MethodId} {below : List Frame} {meth : Method} {c9 : Code} {b L : Nat} {xs : Nat → Int32} {D : va_G} {cI cJ : ClassId} (C0 : lw_C p9 l s9 m9 meth c9 b L xs D cI cJ) {o : Nat} {q1 q2 q3 q4 q5 q6 qt : Nat → Nat} {k u kc ks : Nat} (hk : k < 3) (hu : u ≤ 5000) (hkc : kc + 1 ≤ 292) (hks : ks + 6 ≤ 2600) {bb : Int64} (K : ∀ (S1 S2 S3 S4 S5 S6 : SS) (T : TS) (sv : Int32), LI S2 sv bb (k + 1) u → S2.2.2.1 0 1 = 0 → S2.2.2.1 0 2 = 1 → ∀ (H : Heap) (locs : List Loc) (ls : Array Slot), va_P D vwCl (poW o q1 q2 q3 q4 q5 q6 qt cI cJ S1 S2 S3 S4 S5 S6 T sv) H → va_D (A0 s9) (poW o q1 q2 q3 q4 q5 q6 qt cI cJ S1 S2 S3 S4 S5 S6 T sv) → va_S (A0 s9) s9.heap H locs → lv_has ls 14 [(0, .ref b), (1, .ref o), (2, .long bb), (4, .int 1), (5, .int (nI (k + 1)))] → W p9 l e9 room_1 s9 m9 #[Value.ref b] below meth c9 H locs kc ks (lw_Z below #[Value.ref b] s9) (F0 m9 39 ls [])) {S1 S2 S3 S4 S5 S6 : SS} {T : TS} {sv : Int32} (hI : LI S2 sv bb k u) (hs1 : S2.2.2.1 0 1 = 0) (hs2 : S2.2.2.1 0 2 = 1) {H : Heap} {locs : List Loc} {ls : Array Slot} (hP : va_P D vwCl (poW o q1 q2 q3 q4 q5 q6 qt cI cJ S1 S2 S3 S4 S5 S6 T sv) H) (hD : va_D (A0 s9) (poW o q1 q2 q3 q4 q5 q6 qt cI cJ S1 S2 S3 S4 S5 S6 T sv)) (hS : va_S (A0 s9) s9.heap H locs) (hl : lv_has ls 14 [(0, .ref b), (1, .ref o), (2, .long bb), (4, .int 1), (5, .int (nI k))]) : W p9 l e9 room_1 s9 m9 #[Value.ref b] below meth c9 H locs kc ks (lw_Z below #[Value.ref b] s9) (F0 m9 39 ls []) := by
  have C1 := C0
  obtain ⟨hx, hb, hr, hml, hown, hts, hX, hbl, hlk, hK, hTT, hN, hst, hL⟩ := C1
  have hA : ∀ q : Nat, s9.heap.size ≤ q → A0 s9 q := fun _ h => h
  have hbA : ¬ A0 s9 b := Nat.not_le.mpr hbl
  obtain ⟨Z, Ww, t, B, v, hJ, hbb, hsv, hv4, htu⟩ := id hI
  obtain ⟨h8, hn3, h4⟩ := J_n hJ
  have hn : S2.1 8 = nI k := h8
  have hn6 : k ≤ 6 := by omega
  obtain ⟨y1, hy1, ey1⟩ := ce_nn xs L k
  obtain ⟨y2, hy2, ey2⟩ := ce_nn xs L (3 + k)
  obtain ⟨a0, ha0⟩ : ∃ a0, a0 = 1 + y1 % 500 := ⟨_, rfl⟩
  obtain ⟨b0, hb0⟩ : ∃ b0, b0 = 1 + y2 % 12 := ⟨_, rfl⟩
  obtain ⟨Z2, hJ2⟩ := o_join hJ hk (a := a0) (b := b0) (by omega) (by omega) (by omega)
  obtain ⟨v2, k1, k2, k3⟩ := c_svN hv4
  have hI9 : LI (p_join S2 (nI a0) (nI b0)) (c_sv sv) bb (k + 1) u := ⟨Z2, Ww, t, B, v2, hJ2, hbb, by rw [hsv]; exact k1, k3, htu⟩
  obtain ⟨j8, -, -⟩ := J_n hJ2
  obtain ⟨s9z, z13, hH⟩ := f_holds hJ2 (by omega) hbb
  have hs0 : (p_join S2 (nI a0) (nI b0)).2.2.1 0 = S2.2.2.1 0 := by unfold p_join; split <;> rfl
  rw [← hs0] at hs1 hs2
  refine lv_iload hx hb dL_law_39 (lv_at hl 4 rfl) ?_
  refine lv_iconst (v := 3) hx hb dL_law_41 (by decide) ?_
  refine lv_icmp_ge (tgt := 105) hx hb dL_law_42 (by decide) (fun c_42_0 => ?_) (fun c_42_0 => ?_)
  · have c_42_0 : 3 ≤ (nI k) := c_42_0
    exact absurd c_42_0 (nI_ge (b := 3) hk (by decide)) -- done
  · have c_42_0 : ¬ 3 ≤ (nI k) := c_42_0
    refine lv_iload hx hb dL_law_45 (lv_at hl 3 rfl) ?_
    refine lv_if_eq (tgt := 105) hx hb dL_law_47 (by decide) (fun h => absurd h (by decide)) (fun _ => ?_)
    refine lv_aload_n hx hb dL_law_50 rfl (lv_at hl 1 rfl) ?_
    refine lv_iconst (v := 1) hx hb dL_law_51 (by decide) ?_
    refine lv_aload_n hx hb dL_law_52 rfl (lv_at hl 0 rfl) ?_
    refine lv_iload hx hb dL_law_53 (lv_at hl 4 rfl) ?_
    refine k_calli (a := []) (z := (poC o q1 q2 q3 q4 q5 q6 qt sv ++ (stW q1 cI cJ S1 ++ (stW q2 cI cJ S2 ++ (stW q3 cI cJ S3 ++ (stW q4 cI cJ S4 ++ (stW q5 cI cJ S5 ++ (stW q6 cI cJ S6 ++ (txW qt cI T))))))))) (wc := []) (wc' := []) (w' := (poC o q1 q2 q3 q4 q5 q6 qt sv ++ (stW q1 cI cJ S1 ++ (stW q2 cI cJ S2 ++ (stW q3 cI cJ S3 ++ (stW q4 cI cJ S4 ++ (stW q5 cI cJ S5 ++ (stW q6 cI cJ S6 ++ (txW qt cI T))))))))) (va_runS (As := [.ref b, .int (nI k)]) (rest := [.int 1, .ref o]) ⟨hx, hb, hml, hown, hts⟩ (c_L_cell l D cI cJ b L xs k (by omega) hL _) (cwS 2 hts gL_law_L_cell rfl rfl rfl (by decide +kernel) ⟨Nat.le_of_ble_eq_true rfl, Nat.le_of_ble_eq_true rfl⟩) ⟨kBX_blind, k_preX hX hbl hbA hS hK hP hD⟩ rfl rfl hl.1 rfl (lv_room (Nat.le_of_ble_eq_true rfl)) dL_law_55 ⟨Nat.le_of_succ_le hkc, Nat.le_trans (Nat.le_add_right _ 6) hks⟩) rfl rfl rfl hP hD hS hA (fun H locs hP hD hS => ?_)
    rw [show ce_V xs L k = nI y1 from ey1]
    refine lv_sipush (v := 500) hx hb dL_law_58 (by decide) ?_
    refine lv_irem hx hb dL_law_61 (by decide) ?_
    refine lv_iadd hx hb dL_law_62 ?_
    rw [show 1 + ((nI y1) - (nI y1) / 500 * 500) = nI a0 from by rw [ha0]; exact nc (d := 500) (c := 1) hy1 (by decide) (by decide)]
    refine lv_iconst (v := 1) hx hb dL_law_63 (by decide) ?_
    refine lv_aload_n hx hb dL_law_64 rfl (lv_at hl 0 rfl) ?_
    refine lv_iconst (v := 3) hx hb dL_law_65 (by decide) ?_
    refine lv_iload hx hb dL_law_66 (lv_at hl 4 rfl) ?_
    refine lv_iadd hx hb dL_law_68 ?_
    rw [show 3 + (nI k) = nI (3 + k) from nI_add 3 k]
    refine k_calli (a := []) (z := (poC o q1 q2 q3 q4 q5 q6 qt sv ++ (stW q1 cI cJ S1 ++ (stW q2 cI cJ S2 ++ (stW q3 cI cJ S3 ++ (stW q4 cI cJ S4 ++ (stW q5 cI cJ S5 ++ (stW q6 cI cJ S6 ++ (txW qt cI T))))))))) (wc := []) (wc' := []) (w' := (poC o q1 q2 q3 q4 q5 q6 qt sv ++ (stW q1 cI cJ S1 ++ (stW q2 cI cJ S2 ++ (stW q3 cI cJ S3 ++ (stW q4 cI cJ S4 ++ (stW q5 cI cJ S5 ++ (stW q6 cI cJ S6 ++ (txW qt cI T))))))))) (va_runS (As := [.ref b, .int (nI (3 + k))]) (rest := [.int 1, .int (nI a0), .ref o]) ⟨hx, hb, hml, hown, hts⟩ (c_L_cell l D cI cJ b L xs (3 + k) (by omega) hL _) (cwS 2 hts gL_law_L_cell rfl rfl rfl (by decide +kernel) ⟨Nat.le_of_ble_eq_true rfl, Nat.le_of_ble_eq_true rfl⟩) ⟨kBX_blind, k_preX hX hbl hbA hS hK hP hD⟩ rfl rfl hl.1 rfl (lv_room (Nat.le_of_ble_eq_true rfl)) dL_law_69 ⟨Nat.le_of_succ_le hkc, Nat.le_trans (Nat.le_add_right _ 6) hks⟩) rfl rfl rfl hP hD hS hA (fun H locs hP hD hS => ?_)
    rw [show ce_V xs L (3 + k) = nI y2 from ey2]
    refine lv_bipush (v := 12) hx hb dL_law_72 (by decide) ?_
    refine lv_irem hx hb dL_law_74 (by decide) ?_
    refine lv_iadd hx hb dL_law_75 ?_
    rw [show 1 + ((nI y2) - (nI y2) / 12 * 12) = nI b0 from by rw [hb0]; exact nc (d := 12) (c := 1) hy2 (by decide) (by decide)]
    refine k_calli (a := []) (z := []) (wc := (poC o q1 q2 q3 q4 q5 q6 qt sv ++ (stW q1 cI cJ S1 ++ (stW q2 cI cJ S2 ++ (stW q3 cI cJ S3 ++ (stW q4 cI cJ S4 ++ (stW q5 cI cJ S5 ++ (stW q6 cI cJ S6 ++ (txW qt cI T))))))))) (wc' := (poC o q1 q2 q3 q4 q5 q6 qt (c_sv sv) ++ (stW q1 cI cJ S1 ++ (stW q2 cI cJ (p_join S2 (nI a0) (nI b0)) ++ (stW q3 cI cJ S2 ++ (stW q4 cI cJ S3 ++ (stW q5 cI cJ S4 ++ (stW q6 cI cJ S5 ++ (txW qt cI T))))))))) (w' := (poC o q1 q2 q3 q4 q5 q6 qt (c_sv sv) ++ (stW q1 cI cJ S1 ++ (stW q2 cI cJ (p_join S2 (nI a0) (nI b0)) ++ (stW q3 cI cJ S2 ++ (stW q4 cI cJ S3 ++ (stW q5 cI cJ S4 ++ (stW q6 cI cJ S5 ++ (txW qt cI T))))))))) (vx_runSW (As := [.ref o, .int (nI a0), .int (nI b0)]) (rest := []) ⟨hx, hb, hml, hown, hts⟩ (m_L_adds l D o q1 q2 q3 q4 q5 q6 qt cI cJ S1 S2 S3 S4 S5 S6 T sv (nI a0) (nI b0) k hn hn6 (c_inN (lo := 1) (hi := 500) (by omega) (by omega) (by decide)) (c_inN (lo := 1) (hi := 12) (by omega) (by omega) (by decide)) (by rw [hn]; exact nI_lt (b := 6) (by omega) (by decide)) _) (vx_cwSW 3 hts gL_law_L_adds rfl rfl rfl (by decide +kernel) ⟨Nat.le_of_ble_eq_true rfl, Nat.le_of_ble_eq_true rfl⟩) ⟨kB_blind, k_pre (a := []) (z := []) (k_w0 _) hK hP hD⟩ rfl rfl hl.1 rfl (lv_room (Nat.le_of_ble_eq_true rfl)) dL_law_76 ⟨Nat.le_of_succ_le hkc, Nat.le_trans (Nat.le_add_right _ 6) hks⟩) (k_w0 _) (k_w0 _) (poW_ad _ _ _ _ _ _ _ _ _ _ _ _ _ _ _ _ _ _ _ _ _ _ _ _ _ _) hP hD hS hA (fun H locs hP hD hS => ?_)
    refine lv_iload hx hb dL_law_79 (lv_at hl 4 rfl) ?_
    refine lv_icmp_ne (tgt := 96) hx hb dL_law_81 (by decide) (fun c_81_2 => ?_) (fun c_81_2 => ?_)
    · have c_81_2 : ¬ (p_joinR S2) = (nI k) := c_81_2
      exact absurd (by rw [p_joinR, hn, if_pos (show nI k < 6 from nI_lt (b := 6) (by omega) (by decide))]) c_81_2 -- done
    · have c_81_2 : (p_joinR S2) = (nI k) := c_81_2
      refine lv_aload_n hx hb dL_law_84 rfl (lv_at hl 1 rfl) ?_
      refine lv_lload_n hx hb dL_law_85 rfl (lv_at hl 2 rfl) ?_
      refine k_calli (a := []) (z := []) (wc := (poC o q1 q2 q3 q4 q5 q6 qt (c_sv sv) ++ (stW q1 cI cJ S1 ++ (stW q2 cI cJ (p_join S2 (nI a0) (nI b0)) ++ (stW q3 cI cJ S2 ++ (stW q4 cI cJ S3 ++ (stW q5 cI cJ S4 ++ (stW q6 cI cJ S5 ++ (txW qt cI T))))))))) (wc' := (poC o q1 q2 q3 q4 q5 q6 qt (c_sv sv) ++ (stW q1 cI cJ S1 ++ (stW q2 cI cJ (p_join S2 (nI a0) (nI b0)) ++ (stW q3 cI cJ S2 ++ (stW q4 cI cJ S3 ++ (stW q5 cI cJ S4 ++ (stW q6 cI cJ S5 ++ (txW qt cI T))))))))) (w' := (poC o q1 q2 q3 q4 q5 q6 qt (c_sv sv) ++ (stW q1 cI cJ S1 ++ (stW q2 cI cJ (p_join S2 (nI a0) (nI b0)) ++ (stW q3 cI cJ S2 ++ (stW q4 cI cJ S3 ++ (stW q5 cI cJ S4 ++ (stW q6 cI cJ S5 ++ (txW qt cI T))))))))) (va_runS (As := [.ref o, .long bb]) (rest := []) ⟨hx, hb, hml, hown, hts⟩ (c_L_holds l D o q1 q2 q3 q4 q5 q6 qt cI cJ S1 (p_join S2 (nI a0) (nI b0)) S2 S3 S4 S5 T (c_sv sv) bb (k + 1) j8 (by omega) (Z2 13) s9z z13 hH _) (cwS 2 hts gL_law_L_holds rfl rfl rfl (by decide +kernel) ⟨Nat.le_of_ble_eq_true rfl, Nat.le_of_ble_eq_true rfl⟩) ⟨kB_blind, k_pre (a := []) (z := []) (k_w0 _) hK hP hD⟩ rfl rfl hl.1 rfl (lv_room (Nat.le_of_ble_eq_true rfl)) dL_law_86 ⟨Nat.le_of_succ_le hkc, Nat.le_trans (Nat.le_add_right _ 6) hks⟩) (k_w0 _) (k_w0 _) (poW_ad _ _ _ _ _ _ _ _ _ _ _ _ _ _ _ _ _ _ _ _ _ _ _ _ _ _) hP hD hS hA (fun H locs hP hD hS => ?_)
      refine lv_if_eq (tgt := 96) hx hb dL_law_89 (by decide) (fun h => absurd h (by decide)) (fun _ => ?_)
      refine lv_iconst (v := 1) hx hb dL_law_92 (by decide) ?_
      refine lv_goto (tgt := 97) hx hb dL_law_93 (by decide) ?_
      refine lv_istore (lv' := [(4, .int 1), (0, .ref b), (1, .ref o), (2, .long bb), (5, .int (nI k))]) hx hb dL_law_97 hl (by decide) rfl (fun ls hl => ?_)
      refine lv_iinc (v := (nI k) + 1) (lv' := [(5, .int ((nI k) + 1)), (4, .int 1), (0, .ref b), (1, .ref o), (2, .long bb)]) hx hb dL_law_99 hl (k := 4) rfl rfl (by decide) rfl (fun ls hl => ?_)
      refine lv_goto (tgt := 39) hx hb dL_law_102 (by decide) ?_
      rw [show nI k + 1 = nI (k + 1) from nI_1 _] at hl
      exact K S1 (p_join S2 (nI a0) (nI b0)) S2 S3 S4 S5 T (c_sv sv) hI9 hs1 hs2 _ _ _ hP hD hS (lv_sub hl [2, 3, 4, 1, 0] rfl)

theorem isSet1 {a : Nat} (h : a ≤ 100) : c_isSet 1 (nI a) = true := isSetN (k := 1) (by omega) (Nat.zero_le _) h
theorem isSet2 {a : Nat} (h : a ≤ 1) : c_isSet 2 (nI a) = true := isSetN (k := 2) (by omega) (Nat.zero_le _) h
theorem set_1 {S : SS} (h : S.2.2.1 0 1 = 0) : s_set S 1 = 0 := by
  unfold s_set
  rw [if_pos (by decide), show (1 : Int32).toNatClampNeg = 1 from rfl]
  exact h
theorem ch_1 (S : SS) (v : Int32) : s_chS S 1 v = setA S 0 (upd (S.2.2.1 0) 1 v) := by
  unfold s_chS
  rw [if_pos (by decide), show (1 : Int32).toNatClampNeg = 1 from rfl]
theorem set_2 {S : SS} (h : S.2.2.1 0 2 = 1) (v : Int32) : s_set (s_chS S 1 v) 2 = 1 := by
  unfold s_set
  rw [if_pos (by decide), show (2 : Int32).toNatClampNeg = 2 from rfl, ch_1, setA_s]
  exact (pk_un (by decide)).trans h
theorem LI_one {S : SS} {sv : Int32} {bb : Int64} {n u a : Nat} (hI : LI S sv bb n u) (ha : a ≤ 100) : LI (s_chS S 1 (nI a)) (c_sv sv) bb n u := LI_S hI (fun Z W t B h _ => (o_set h (k := 1) (v := a) (by omega) ha).imp (fun _ q9 => q9.1))
theorem LI_for {S : SS} {sv : Int32} {bb : Int64} {n u a : Nat} (hI : LI S sv bb n u) (ha : a ≤ 1) : LI (s_chS S 2 (nI a)) (c_sv sv) bb n u := LI_S hI (fun Z W t B h _ => (o_set h (k := 2) (v := a) (by omega) ha).imp (fun _ q9 => q9.1))
theorem LI_two {S : SS} {sv : Int32} {bb : Int64} {n u a b : Nat} (hI : LI S sv bb n u) (ha : a ≤ 100) (hb : b ≤ 1) : LI (s_chS (s_chS S 1 (nI a)) 2 (nI b)) (c_sv (c_sv sv)) bb n u := LI_for (LI_one hI ha) hb
