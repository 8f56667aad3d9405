set_option maxHeartbeats 1000000 in
set_option maxRecDepth 100000 in
theorem c_L_bandsOne_a (l : Launch) (D : va_G) (o : Nat) (q1 q2 q3 q4 q5 q6 qt : Nat → Nat) (cI cJ : ClassId) (S1 S2 S3 S4 S5 S6 : SS) (T : TS) (sv : Int32) (x y : Int32) (n : Nat) (hn : S2.1 8 = nI n) (hn6 : n ≤ 6) (h1 : ¬ x < 1) (h2 : x < y) (h3 : y ≤ S2.1 0) : kI l yL_bandsOne wsL_bandsOne ({ frames := 6, cells := 0, slots := 0, locals := 148 } : Room) D [(cI, .int), (cJ, .long)] [.ref o, .int x, .int y] (poC o q1 q2 q3 q4 q5 q6 qt sv ++ (stW q1 cI cJ S1 ++ (stW q2 cI cJ S2 ++ (stW q3 cI cJ S3 ++ (stW q4 cI cJ S4 ++ (stW q5 cI cJ S5 ++ (stW q6 cI cJ S6 ++ (txW qt cI T)))))))) 1 (poC o q1 q2 q3 q4 q5 q6 qt (c_sv sv) ++ (stW q1 cI cJ S1 ++ (stW q2 cI cJ (setI (setI S2 2 x) 3 y) ++ (stW q3 cI cJ S2 ++ (stW q4 cI cJ S3 ++ (stW q5 cI cJ S4 ++ (stW q6 cI cJ S5 ++ (txW qt cI T)))))))) := by
  refine kBody.met (cc := cL_bandsOne) (maxL := 5) (ret := (some .boolean)) (by decide) rfl (Nat.le_of_ble_eq_true rfl) ?_
  intro p9 e9 s9 m9 below meth c9 A9 ls hx hb hr hml hts hown hlk hK hP hD hA hl
  have hown : s9.vm.findClass RL = some m9.cls := hown
  have inX0 : ∀ w ∈ wsX00, w ∈ wsL_bandsOne := fun w h => List.mem_cons_of_mem _ (List.mem_append_left _ (List.mem_append_left _ (List.mem_append_right _ (h))))
  have inX2 : ∀ w ∈ wsX20, w ∈ wsL_bandsOne := fun w h => List.mem_cons_of_mem _ (List.mem_append_left _ (List.mem_append_left _ (List.mem_append_left _ (List.mem_append_right _ (h)))))
  have inX3 : ∀ w ∈ wsX30, w ∈ wsL_bandsOne := fun w h => List.mem_cons_of_mem _ (List.mem_append_left _ (List.mem_append_left _ (List.mem_append_left _ (List.mem_append_left _ (List.mem_append_right _ (h))))))
  have inX4 : ∀ w ∈ wsX40, w ∈ wsL_bandsOne := fun w h => List.mem_cons_of_mem _ (List.mem_append_left _ (List.mem_append_left _ (List.mem_append_left _ (List.mem_append_left _ (List.mem_append_left _ (List.mem_append_right _ (h)))))))
  have hS : va_S A9 s9.heap s9.heap [] := va_S.rf
  have hl : lv_has ls 5 [(0, .ref o), (1, .int x), (2, .int y)] := hl
  refine lv_aload_n hx hb dL_bandsOne_0 rfl (lv_at hl 0 rfl) ?_
  refine lv_iconst (v := 3) hx hb dL_bandsOne_1 (by decide) ?_
  refine k_calli (a := []) (z := []) (wc := (poC o q1 q2 q3 q4 q5 q6 qt sv ++ (stW q1 cI cJ S1 ++ (stW q2 cI cJ S2 ++ (stW q3 cI cJ S3 ++ (stW q4 cI cJ S4 ++ (stW q5 cI cJ S5 ++ (stW q6 cI cJ S6 ++ (txW qt cI T))))))))) (wc' := (poC o q1 q2 q3 q4 q5 q6 qt sv ++ (stW q1 cI cJ S1 ++ (stW q2 cI cJ S2 ++ (stW q3 cI cJ S3 ++ (stW q4 cI cJ S4 ++ (stW q5 cI cJ S5 ++ (stW q6 cI cJ S6 ++ (txW qt cI T))))))))) (w' := (poC o q1 q2 q3 q4 q5 q6 qt sv ++ (stW q1 cI cJ S1 ++ (stW q2 cI cJ S2 ++ (stW q3 cI cJ S3 ++ (stW q4 cI cJ S4 ++ (stW q5 cI cJ S5 ++ (stW q6 cI cJ S6 ++ (txW qt cI T))))))))) (vx_runSW (As := [.ref o, .int 3]) (rest := []) ⟨hx, hb, hml, hown, hts⟩ (m_L_value l D o q1 q2 q3 q4 q5 q6 qt cI cJ S1 S2 S3 S4 S5 S6 T sv 3 n hn hn6 (by decide) _) (vx_cwSW 2 hts gL_bandsOne_L_value rfl rfl rfl (by decide +kernel) ⟨Nat.le_of_ble_eq_true rfl, Nat.le_of_ble_eq_true rfl⟩) ⟨kB_blind, k_pre (a := []) (z := []) (k_w0 _) hK hP hD⟩ rfl rfl hl.1 rfl (lv_room (Nat.le_of_ble_eq_true rfl)) dL_bandsOne_2 ⟨Nat.zero_le _, Nat.zero_le _⟩) (k_w0 _) (k_w0 _) rfl hP hD hS hA (fun H locs hP hD hS => ?_)
  rw [show s_num S2 n 3 = S2.1 3 from sn_3 S2 n]
  refine lv_aload_n hx hb dL_bandsOne_5 rfl (lv_at hl 0 rfl) ?_
  refine lv_iconst (v := 2) hx hb dL_bandsOne_6 (by decide) ?_
  refine k_calli (a := []) (z := []) (wc := (poC o q1 q2 q3 q4 q5 q6 qt sv ++ (stW q1 cI cJ S1 ++ (stW q2 cI cJ S2 ++ (stW q3 cI cJ S3 ++ (stW q4 cI cJ S4 ++ (stW q5 cI cJ S5 ++ (stW q6 cI cJ S6 ++ (txW qt cI T))))))))) (wc' := (poC o q1 q2 q3 q4 q5 q6 qt sv ++ (stW q1 cI cJ S1 ++ (stW q2 cI cJ S2 ++ (stW q3 cI cJ S3 ++ (stW q4 cI cJ S4 ++ (stW q5 cI cJ S5 ++ (stW q6 cI cJ S6 ++ (txW qt cI T))))))))) (w' := (poC o q1 q2 q3 q4 q5 q6 qt sv ++ (stW q1 cI cJ S1 ++ (stW q2 cI cJ S2 ++ (stW q3 cI cJ S3 ++ (stW q4 cI cJ S4 ++ (stW q5 cI cJ S5 ++ (stW q6 cI cJ S6 ++ (txW qt cI T))))))))) (vx_runSW (As := [.ref o, .int 2]) (rest := [.int (S2.1 3)]) ⟨hx, hb, hml, hown, hts⟩ (m_L_value l D o q1 q2 q3 q4 q5 q6 qt cI cJ S1 S2 S3 S4 S5 S6 T sv 2 n hn hn6 (by decide) _) (vx_cwSW 2 hts gL_bandsOne_L_value rfl rfl rfl (by decide +kernel) ⟨Nat.le_of_ble_eq_true rfl, Nat.le_of_ble_eq_true rfl⟩) ⟨kB_blind, k_pre (a := []) (z := []) (k_w0 _) hK hP hD⟩ rfl rfl hl.1 rfl (lv_room (Nat.le_of_ble_eq_true rfl)) dL_bandsOne_7 ⟨Nat.zero_le _, Nat.zero_le _⟩) (k_w0 _) (k_w0 _) rfl hP hD hS hA (fun H locs hP hD hS => ?_)
  rw [show s_num S2 n 2 = S2.1 2 from sn_2 S2 n]
  refine lv_isub hx hb dL_bandsOne_10 ?_
  refine lv_istore_n (lv' := [(3, .int ((S2.1 3) - (S2.1 2))), (0, .ref o), (1, .int x), (2, .int y)]) hx hb dL_bandsOne_11 rfl hl (by decide) rfl (fun ls hl => ?_)
  refine lv_aload_n hx hb dL_bandsOne_12 rfl (lv_at hl 1 rfl) ?_
  refine lv_iload_n hx hb dL_bandsOne_13 rfl (lv_at hl 2 rfl) ?_
  refine lv_iload_n hx hb dL_bandsOne_14 rfl (lv_at hl 3 rfl) ?_
  refine k_calli (a := []) (z := []) (wc := (poC o q1 q2 q3 q4 q5 q6 qt sv ++ (stW q1 cI cJ S1 ++ (stW q2 cI cJ S2 ++ (stW q3 cI cJ S3 ++ (stW q4 cI cJ S4 ++ (stW q5 cI cJ S5 ++ (stW q6 cI cJ S6 ++ (txW qt cI T))))))))) (wc' := (poC o q1 q2 q3 q4 q5 q6 qt (c_sv sv) ++ (stW q1 cI cJ S1 ++ (stW q2 cI cJ (setI (setI S2 2 x) 3 y) ++ (stW q3 cI cJ S2 ++ (stW q4 cI cJ S3 ++ (stW q5 cI cJ S4 ++ (stW q6 cI cJ S5 ++ (txW qt cI T))))))))) (w' := (poC o q1 q2 q3 q4 q5 q6 qt (c_sv sv) ++ (stW q1 cI cJ S1 ++ (stW q2 cI cJ (setI (setI S2 2 x) 3 y) ++ (stW q3 cI cJ S2 ++ (stW q4 cI cJ S3 ++ (stW q5 cI cJ S4 ++ (stW q6 cI cJ S5 ++ (txW qt cI T))))))))) (vx_runSW (As := [.ref o, .int x, .int y]) (rest := []) ⟨hx, hb, hml, hown, hts⟩ (m_L_bands l D o q1 q2 q3 q4 q5 q6 qt cI cJ S1 S2 S3 S4 S5 S6 T sv x y h1 h2 h3 _) (vx_cwSW 3 hts gL_bandsOne_L_bands rfl rfl rfl (by decide +kernel) ⟨Nat.le_of_ble_eq_true rfl, Nat.le_of_ble_eq_true rfl⟩) ⟨kB_blind, k_pre (a := []) (z := []) (k_w0 _) hK hP hD⟩ rfl rfl hl.1 rfl (lv_room (Nat.le_of_ble_eq_true rfl)) dL_bandsOne_15 ⟨Nat.zero_le _, Nat.zero_le _⟩) (k_w0 _) (k_w0 _) rfl hP hD hS hA (fun H locs hP hD hS => ?_)
  refine lv_istore (lv' := [(4, .int (S2.1 3 - S2.1 2)), (3, .int ((S2.1 3) - (S2.1 2))), (0, .ref o), (1, .int x), (2, .int y)]) hx hb dL_bandsOne_18 hl (by decide) rfl (fun ls hl => ?_)
  refine lv_iload_n hx hb dL_bandsOne_20 rfl (lv_at hl 4 rfl) ?_
  refine lv_aload_n hx hb dL_bandsOne_21 rfl (lv_at hl 2 rfl) ?_
  refine lv_iconst (v := 0) hx hb dL_bandsOne_22 (by decide) ?_
  refine k_calli (a := []) (z := []) (wc := (poC o q1 q2 q3 q4 q5 q6 qt (c_sv sv) ++ (stW q1 cI cJ S1 ++ (stW q2 cI cJ (setI (setI S2 2 x) 3 y) ++ (stW q3 cI cJ S2 ++ (stW q4 cI cJ S3 ++ (stW q5 cI cJ S4 ++ (stW q6 cI cJ S5 ++ (txW qt cI T))))))))) (wc' := (poC o q1 q2 q3 q4 q5 q6 qt (c_sv sv) ++ (stW q1 cI cJ S1 ++ (stW q2 cI cJ (setI (setI S2 2 x) 3 y) ++ (stW q3 cI cJ S2 ++ (stW q4 cI cJ S3 ++ (stW q5 cI cJ S4 ++ (stW q6 cI cJ S5 ++ (txW qt cI T))))))))) (w' := (poC o q1 q2 q3 q4 q5 q6 qt (c_sv sv) ++ (stW q1 cI cJ S1 ++ (stW q2 cI cJ (setI (setI S2 2 x) 3 y) ++ (stW q3 cI cJ S2 ++ (stW q4 cI cJ S3 ++ (stW q5 cI cJ S4 ++ (stW q6 cI cJ S5 ++ (txW qt cI T))))))))) (vx_runSW (As := [.ref o, .int 0]) (rest := [.int y]) ⟨hx, hb, hml, hown, hts⟩ (m_L_value l D o q1 q2 q3 q4 q5 q6 qt cI cJ S1 (setI (setI S2 2 x) 3 y) S2 S3 S4 S5 T (c_sv sv) 0 n hn hn6 (by decide) _) (vx_cwSW 2 hts gL_bandsOne_L_value rfl rfl rfl (by decide +kernel) ⟨Nat.le_of_ble_eq_true rfl, Nat.le_of_ble_eq_true rfl⟩) ⟨kB_blind, k_pre (a := []) (z := []) (k_w0 _) hK hP hD⟩ rfl rfl hl.1 rfl (lv_room (Nat.le_of_ble_eq_true rfl)) dL_bandsOne_23 ⟨Nat.zero_le _, Nat.zero_le _⟩) (k_w0 _) (k_w0 _) rfl hP hD hS hA (fun H locs hP hD hS => ?_)
  rw [show s_num (setI (setI S2 2 x) 3 y) n 0 = (setI (setI S2 2 x) 3 y).1 0 from sn_0 (setI (setI S2 2 x) 3 y) n]
  refine lv_icmp_le (tgt := 57) hx hb dL_bandsOne_26 (by decide) (fun c_26_0 => ?_) (fun c_26_0 => ?_)
  · have c_26_0 : y ≤ ((setI (setI S2 2 x) 3 y).1 0) := c_26_0
    refine lv_iload hx hb dL_bandsOne_57 (lv_at hl 0 rfl) ?_
    refine lv_iload_n hx hb dL_bandsOne_59 rfl (lv_at hl 1 rfl) ?_
    refine lv_icmp_ne (tgt := 85) hx hb dL_bandsOne_60 (by decide) (fun c_60_1 => ?_) (fun c_60_1 => ?_)
    · have c_60_1 : ¬ (S2.1 3 - S2.1 2) = ((S2.1 3) - (S2.1 2)) := c_60_1
      exact absurd (rfl) c_60_1 -- done
    · have c_60_1 : (S2.1 3 - S2.1 2) = ((S2.1 3) - (S2.1 2)) := c_60_1
      refine lv_aload_n hx hb dL_bandsOne_63 rfl (lv_at hl 2 rfl) ?_
      refine lv_iconst (v := 2) hx hb dL_bandsOne_64 (by decide) ?_
      refine k_calli (a := []) (z := []) (wc := (poC o q1 q2 q3 q4 q5 q6 qt (c_sv sv) ++ (stW q1 cI cJ S1 ++ (stW q2 cI cJ (setI (setI S2 2 x) 3 y) ++ (stW q3 cI cJ S2 ++ (stW q4 cI cJ S3 ++ (stW q5 cI cJ S4 ++ (stW q6 cI cJ S5 ++ (txW qt cI T))))))))) (wc' := (poC o q1 q2 q3 q4 q5 q6 qt (c_sv sv) ++ (stW q1 cI cJ S1 ++ (stW q2 cI cJ (setI (setI S2 2 x) 3 y) ++ (stW q3 cI cJ S2 ++ (stW q4 cI cJ S3 ++ (stW q5 cI cJ S4 ++ (stW q6 cI cJ S5 ++ (txW qt cI T))))))))) (w' := (poC o q1 q2 q3 q4 q5 q6 qt (c_sv sv) ++ (stW q1 cI cJ S1 ++ (stW q2 cI cJ (setI (setI S2 2 x) 3 y) ++ (stW q3 cI cJ S2 ++ (stW q4 cI cJ S3 ++ (stW q5 cI cJ S4 ++ (stW q6 cI cJ S5 ++ (txW qt cI T))))))))) (vx_runSW (As := [.ref o, .int 2]) (rest := []) ⟨hx, hb, hml, hown, hts⟩ (m_L_value l D o q1 q2 q3 q4 q5 q6 qt cI cJ S1 (setI (setI S2 2 x) 3 y) S2 S3 S4 S5 T (c_sv sv) 2 n hn hn6 (by decide) _) (vx_cwSW 2 hts gL_bandsOne_L_value rfl rfl rfl (by decide +kernel) ⟨Nat.le_of_ble_eq_true rfl, Nat.le_of_ble_eq_true rfl⟩) ⟨kB_blind, k_pre (a := []) (z := []) (k_w0 _) hK hP hD⟩ rfl rfl hl.1 rfl (lv_room (Nat.le_of_ble_eq_true rfl)) dL_bandsOne_65 ⟨Nat.zero_le _, Nat.zero_le _⟩) (k_w0 _) (k_w0 _) rfl hP hD hS hA (fun H locs hP hD hS => ?_)
      rw [show s_num (setI (setI S2 2 x) 3 y) n 2 = (setI (setI S2 2 x) 3 y).1 2 from sn_2 (setI (setI S2 2 x) 3 y) n]
      refine lv_iload_n hx hb dL_bandsOne_68 rfl (lv_at hl 3 rfl) ?_
      refine lv_icmp_ne (tgt := 85) hx hb dL_bandsOne_69 (by decide) (fun c_69_2 => ?_) (fun c_69_2 => ?_)
      · have c_69_2 : ¬ ((setI (setI S2 2 x) 3 y).1 2) = x := c_69_2
        exact absurd (rfl) c_69_2 -- done
      · have c_69_2 : ((setI (setI S2 2 x) 3 y).1 2) = x := c_69_2
        refine lv_aload_n hx hb dL_bandsOne_72 rfl (lv_at hl 2 rfl) ?_
        refine lv_iconst (v := 3) hx hb dL_bandsOne_73 (by decide) ?_
        refine k_calli (a := []) (z := []) (wc := (poC o q1 q2 q3 q4 q5 q6 qt (c_sv sv) ++ (stW q1 cI cJ S1 ++ (stW q2 cI cJ (setI (setI S2 2 x) 3 y) ++ (stW q3 cI cJ S2 ++ (stW q4 cI cJ S3 ++ (stW q5 cI cJ S4 ++ (stW q6 cI cJ S5 ++ (txW qt cI T))))))))) (wc' := (poC o q1 q2 q3 q4 q5 q6 qt (c_sv sv) ++ (stW q1 cI cJ S1 ++ (stW q2 cI cJ (setI (setI S2 2 x) 3 y) ++ (stW q3 cI cJ S2 ++ (stW q4 cI cJ S3 ++ (stW q5 cI cJ S4 ++ (stW q6 cI cJ S5 ++ (txW qt cI T))))))))) (w' := (poC o q1 q2 q3 q4 q5 q6 qt (c_sv sv) ++ (stW q1 cI cJ S1 ++ (stW q2 cI cJ (setI (setI S2 2 x) 3 y) ++ (stW q3 cI cJ S2 ++ (stW q4 cI cJ S3 ++ (stW q5 cI cJ S4 ++ (stW q6 cI cJ S5 ++ (txW qt cI T))))))))) (vx_runSW (As := [.ref o, .int 3]) (rest := []) ⟨hx, hb, hml, hown, hts⟩ (m_L_value l D o q1 q2 q3 q4 q5 q6 qt cI cJ S1 (setI (setI S2 2 x) 3 y) S2 S3 S4 S5 T (c_sv sv) 3 n hn hn6 (by decide) _) (vx_cwSW 2 hts gL_bandsOne_L_value rfl rfl rfl (by decide +kernel) ⟨Nat.le_of_ble_eq_true rfl, Nat.le_of_ble_eq_true rfl⟩) ⟨kB_blind, k_pre (a := []) (z := []) (k_w0 _) hK hP hD⟩ rfl rfl hl.1 rfl (lv_room (Nat.le_of_ble_eq_true rfl)) dL_bandsOne_74 ⟨Nat.zero_le _, Nat.zero_le _⟩) (k_w0 _) (k_w0 _) rfl hP hD hS hA (fun H locs hP hD hS => ?_)
        rw [show s_num (setI (setI S2 2 x) 3 y) n 3 = (setI (setI S2 2 x) 3 y).1 3 from sn_3 (setI (setI S2 2 x) 3 y) n]
        refine lv_iload_n hx hb dL_bandsOne_77 rfl (lv_at hl 4 rfl) ?_
        refine lv_icmp_ne (tgt := 85) hx hb dL_bandsOne_78 (by decide) (fun c_78_3 => ?_) (fun c_78_3 => ?_)
        · have c_78_3 : ¬ ((setI (setI S2 2 x) 3 y).1 3) = y := c_78_3
          exact absurd (rfl) c_78_3 -- done
        · have c_78_3 : ((setI (setI S2 2 x) 3 y).1 3) = y := c_78_3
          refine lv_iconst (v := 1) hx hb dL_bandsOne_81 (by decide) ?_
          refine lv_goto (tgt := 86) hx hb dL_bandsOne_82 (by decide) ?_
          exact k_iret hx hb hr hlk hP hS dL_bandsOne_86 rfl (by first | rfl | (simp only [c_26_0, c_60_1, c_69_2, c_78_3]; done) | (simp [c_26_0, c_60_1, c_69_2, c_78_3]; done)) (fun h => h)
  · have c_26_0 : ¬ y ≤ ((setI (setI S2 2 x) 3 y).1 0) := c_26_0
    exact absurd (show y ≤ (setI (setI S2 2 x) 3 y).1 0 from h3) c_26_0 -- done

set_option maxHeartbeats 1000000 in
set_option maxRecDepth 100000 in
theorem c_L_bandsOne_b (l : Launch) (D : va_G) (o : Nat) (q1 q2 q3 q4 q5 q6 qt : Nat → Nat) (cI cJ : ClassId) (S1 S2 S3 S4 S5 S6 : SS) (T : TS) (sv : Int32) (x y : Int32) (n : Nat) (hn : S2.1 8 = nI n) (hn6 : n ≤ 6) (hst : l.stackTraces = false) (h1 : ¬ x < 1) (h2 : x < y) (h3 : ¬ y ≤ S2.1 0) : kHn l yL_bandsOne wsL_bandsOne ({ frames := 8, cells := 1, slots := 6, locals := 148 } : Room) 1 6 D [(cI, .int), (cJ, .long)] [.ref o, .int x, .int y] (poC o q1 q2 q3 q4 q5 q6 qt sv ++ (stW q1 cI cJ S1 ++ (stW q2 cI cJ S2 ++ (stW q3 cI cJ S3 ++ (stW q4 cI cJ S4 ++ (stW q5 cI cJ S5 ++ (stW q6 cI cJ S6 ++ (txW qt cI T)))))))) 1 (poC o q1 q2 q3 q4 q5 q6 qt sv ++ (stW q1 cI cJ S1 ++ (stW q2 cI cJ S2 ++ (stW q3 cI cJ S3 ++ (stW q4 cI cJ S4 ++ (stW q5 cI cJ S5 ++ (stW q6 cI cJ S6 ++ (txW qt cI T)))))))) := by
  refine kHnBody.met (cc := cL_bandsOne) (maxL := 5) (ret := (some .boolean)) (by decide) rfl (Nat.le_of_ble_eq_true rfl) ?_
  intro p9 e9 s9 m9 below meth c9 A9 ls hx hb hr hml hts hown hlk hK hP hD hA hTT hN hl
  have hown : s9.vm.findClass RL = some m9.cls := hown
  have inX0 : ∀ w ∈ wsX00, w ∈ wsL_bandsOne := fun w h => List.mem_cons_of_mem _ (List.mem_append_left _ (List.mem_append_left _ (List.mem_append_right _ (h))))
  have inX2 : ∀ w ∈ wsX20, w ∈ wsL_bandsOne := fun w h => List.mem_cons_of_mem _ (List.mem_append_left _ (List.mem_append_left _ (List.mem_append_left _ (List.mem_append_right _ (h)))))
  have inX3 : ∀ w ∈ wsX30, w ∈ wsL_bandsOne := fun w h => List.mem_cons_of_mem _ (List.mem_append_left _ (List.mem_append_left _ (List.mem_append_left _ (List.mem_append_left _ (List.mem_append_right _ (h))))))
  have inX4 : ∀ w ∈ wsX40, w ∈ wsL_bandsOne := fun w h => List.mem_cons_of_mem _ (List.mem_append_left _ (List.mem_append_left _ (List.mem_append_left _ (List.mem_append_left _ (List.mem_append_left _ (List.mem_append_right _ (h)))))))
  have hS : va_S A9 s9.heap s9.heap [] := va_S.rf
  have hl : lv_has ls 5 [(0, .ref o), (1, .int x), (2, .int y)] := hl
  refine lv_aload_n hx hb dL_bandsOne_0 rfl (lv_at hl 0 rfl) ?_
  refine lv_iconst (v := 3) hx hb dL_bandsOne_1 (by decide) ?_
  refine k_calli (a := []) (z := []) (wc := (poC o q1 q2 q3 q4 q5 q6 qt sv ++ (stW q1 cI cJ S1 ++ (stW q2 cI cJ S2 ++ (stW q3 cI cJ S3 ++ (stW q4 cI cJ S4 ++ (stW q5 cI cJ S5 ++ (stW q6 cI cJ S6 ++ (txW qt cI T))))))))) (wc' := (poC o q1 q2 q3 q4 q5 q6 qt sv ++ (stW q1 cI cJ S1 ++ (stW q2 cI cJ S2 ++ (stW q3 cI cJ S3 ++ (stW q4 cI cJ S4 ++ (stW q5 cI cJ S5 ++ (stW q6 cI cJ S6 ++ (txW qt cI T))))))))) (w' := (poC o q1 q2 q3 q4 q5 q6 qt sv ++ (stW q1 cI cJ S1 ++ (stW q2 cI cJ S2 ++ (stW q3 cI cJ S3 ++ (stW q4 cI cJ S4 ++ (stW q5 cI cJ S5 ++ (stW q6 cI cJ S6 ++ (txW qt cI T))))))))) (vx_runSW (As := [.ref o, .int 3]) (rest := []) ⟨hx, hb, hml, hown, hts⟩ (m_L_value l D o q1 q2 q3 q4 q5 q6 qt cI cJ S1 S2 S3 S4 S5 S6 T sv 3 n hn hn6 (by decide) _) (vx_cwSW 2 hts gL_bandsOne_L_value rfl rfl rfl (by decide +kernel) ⟨Nat.le_of_ble_eq_true rfl, Nat.le_of_ble_eq_true rfl⟩) ⟨kB_blind, k_pre (a := []) (z := []) (k_w0 _) hK hP hD⟩ rfl rfl hl.1 rfl (lv_room (Nat.le_of_ble_eq_true rfl)) dL_bandsOne_2 ⟨Nat.le_of_ble_eq_true rfl, Nat.le_of_ble_eq_true rfl⟩) (k_w0 _) (k_w0 _) rfl hP hD hS hA (fun H locs hP hD hS => ?_)
  rw [show s_num S2 n 3 = S2.1 3 from sn_3 S2 n]
  refine lv_aload_n hx hb dL_bandsOne_5 rfl (lv_at hl 0 rfl) ?_
  refine lv_iconst (v := 2) hx hb dL_bandsOne_6 (by decide) ?_
  refine k_calli (a := []) (z := []) (wc := (poC o q1 q2 q3 q4 q5 q6 qt sv ++ (stW q1 cI cJ S1 ++ (stW q2 cI cJ S2 ++ (stW q3 cI cJ S3 ++ (stW q4 cI cJ S4 ++ (stW q5 cI cJ S5 ++ (stW q6 cI cJ S6 ++ (txW qt cI T))))))))) (wc' := (poC o q1 q2 q3 q4 q5 q6 qt sv ++ (stW q1 cI cJ S1 ++ (stW q2 cI cJ S2 ++ (stW q3 cI cJ S3 ++ (stW q4 cI cJ S4 ++ (stW q5 cI cJ S5 ++ (stW q6 cI cJ S6 ++ (txW qt cI T))))))))) (w' := (poC o q1 q2 q3 q4 q5 q6 qt sv ++ (stW q1 cI cJ S1 ++ (stW q2 cI cJ S2 ++ (stW q3 cI cJ S3 ++ (stW q4 cI cJ S4 ++ (stW q5 cI cJ S5 ++ (stW q6 cI cJ S6 ++ (txW qt cI T))))))))) (vx_runSW (As := [.ref o, .int 2]) (rest := [.int (S2.1 3)]) ⟨hx, hb, hml, hown, hts⟩ (m_L_value l D o q1 q2 q3 q4 q5 q6 qt cI cJ S1 S2 S3 S4 S5 S6 T sv 2 n hn hn6 (by decide) _) (vx_cwSW 2 hts gL_bandsOne_L_value rfl rfl rfl (by decide +kernel) ⟨Nat.le_of_ble_eq_true rfl, Nat.le_of_ble_eq_true rfl⟩) ⟨kB_blind, k_pre (a := []) (z := []) (k_w0 _) hK hP hD⟩ rfl rfl hl.1 rfl (lv_room (Nat.le_of_ble_eq_true rfl)) dL_bandsOne_7 ⟨Nat.le_of_ble_eq_true rfl, Nat.le_of_ble_eq_true rfl⟩) (k_w0 _) (k_w0 _) rfl hP hD hS hA (fun H locs hP hD hS => ?_)
  rw [show s_num S2 n 2 = S2.1 2 from sn_2 S2 n]
  refine lv_isub hx hb dL_bandsOne_10 ?_
  refine lv_istore_n (lv' := [(3, .int ((S2.1 3) - (S2.1 2))), (0, .ref o), (1, .int x), (2, .int y)]) hx hb dL_bandsOne_11 rfl hl (by decide) rfl (fun ls hl => ?_)
  refine lv_aload_n hx hb dL_bandsOne_12 rfl (lv_at hl 1 rfl) ?_
  refine lv_iload_n hx hb dL_bandsOne_13 rfl (lv_at hl 2 rfl) ?_
  refine lv_iload_n hx hb dL_bandsOne_14 rfl (lv_at hl 3 rfl) ?_
  refine k_callHn (a := []) (z := []) (wc := (poC o q1 q2 q3 q4 q5 q6 qt sv ++ (stW q1 cI cJ S1 ++ (stW q2 cI cJ S2 ++ (stW q3 cI cJ S3 ++ (stW q4 cI cJ S4 ++ (stW q5 cI cJ S5 ++ (stW q6 cI cJ S6 ++ (txW qt cI T))))))))) (wc' := (poC o q1 q2 q3 q4 q5 q6 qt sv ++ (stW q1 cI cJ S1 ++ (stW q2 cI cJ S2 ++ (stW q3 cI cJ S3 ++ (stW q4 cI cJ S4 ++ (stW q5 cI cJ S5 ++ (stW q6 cI cJ S6 ++ (txW qt cI T))))))))) (w' := (poC o q1 q2 q3 q4 q5 q6 qt sv ++ (stW q1 cI cJ S1 ++ (stW q2 cI cJ S2 ++ (stW q3 cI cJ S3 ++ (stW q4 cI cJ S4 ++ (stW q5 cI cJ S5 ++ (stW q6 cI cJ S6 ++ (txW qt cI T))))))))) (vx_runSW (As := [.ref o, .int x, .int y]) (rest := []) ⟨hx, hb, hml, hown, hts⟩ (t_L_bands_ise l D o q1 q2 q3 q4 q5 q6 qt cI cJ S1 S2 S3 S4 S5 S6 T sv x y hst (by rw [A_X4_setBand_t, if_neg h1, if_pos h2, if_neg h3]) _) (vx_cwSW 3 hts gL_bandsOne_L_bands rfl rfl rfl (by decide +kernel) ⟨Nat.le_of_ble_eq_true rfl, Nat.le_of_ble_eq_true rfl⟩) ⟨kBH_blind, k_preH (a := []) (z := []) (k_w0 _) hK hP hD hS hA hTT hN⟩ rfl rfl hl.1 rfl (lv_room (Nat.le_of_ble_eq_true rfl)) dL_bandsOne_15 ⟨Nat.le_of_ble_eq_true rfl, Nat.le_of_ble_eq_true rfl⟩) (k_w0 _) (k_w0 _) rfl hP hD hS hA (fun H locs hP hD hS => ?_)
  refine lv_istore (lv' := [(4, .int (-2000002)), (3, .int ((S2.1 3) - (S2.1 2))), (0, .ref o), (1, .int x), (2, .int y)]) hx hb dL_bandsOne_18 hl (by decide) rfl (fun ls hl => ?_)
  refine lv_iload_n hx hb dL_bandsOne_20 rfl (lv_at hl 4 rfl) ?_
  refine lv_aload_n hx hb dL_bandsOne_21 rfl (lv_at hl 2 rfl) ?_
  refine lv_iconst (v := 0) hx hb dL_bandsOne_22 (by decide) ?_
  refine k_calli (a := []) (z := []) (wc := (poC o q1 q2 q3 q4 q5 q6 qt sv ++ (stW q1 cI cJ S1 ++ (stW q2 cI cJ S2 ++ (stW q3 cI cJ S3 ++ (stW q4 cI cJ S4 ++ (stW q5 cI cJ S5 ++ (stW q6 cI cJ S6 ++ (txW qt cI T))))))))) (wc' := (poC o q1 q2 q3 q4 q5 q6 qt sv ++ (stW q1 cI cJ S1 ++ (stW q2 cI cJ S2 ++ (stW q3 cI cJ S3 ++ (stW q4 cI cJ S4 ++ (stW q5 cI cJ S5 ++ (stW q6 cI cJ S6 ++ (txW qt cI T))))))))) (w' := (poC o q1 q2 q3 q4 q5 q6 qt sv ++ (stW q1 cI cJ S1 ++ (stW q2 cI cJ S2 ++ (stW q3 cI cJ S3 ++ (stW q4 cI cJ S4 ++ (stW q5 cI cJ S5 ++ (stW q6 cI cJ S6 ++ (txW qt cI T))))))))) (vx_runSW (As := [.ref o, .int 0]) (rest := [.int y]) ⟨hx, hb, hml, hown, hts⟩ (m_L_value l D o q1 q2 q3 q4 q5 q6 qt cI cJ S1 S2 S3 S4 S5 S6 T sv 0 n hn hn6 (by decide) _) (vx_cwSW 2 hts gL_bandsOne_L_value rfl rfl rfl (by decide +kernel) ⟨Nat.le_of_ble_eq_true rfl, Nat.le_of_ble_eq_true rfl⟩) ⟨kB_blind, k_pre (a := []) (z := []) (k_w0 _) hK hP hD⟩ rfl rfl hl.1 rfl (lv_room (Nat.le_of_ble_eq_true rfl)) dL_bandsOne_23 ⟨Nat.le_of_ble_eq_true rfl, Nat.le_of_ble_eq_true rfl⟩) (k_w0 _) (k_w0 _) rfl hP hD hS hA (fun H locs hP hD hS => ?_)
  rw [show s_num S2 n 0 = S2.1 0 from sn_0 S2 n]
  refine lv_icmp_le (tgt := 57) hx hb dL_bandsOne_26 (by decide) (fun c_26_0 => ?_) (fun c_26_0 => ?_)
  · have c_26_0 : y ≤ (S2.1 0) := c_26_0
    exact absurd c_26_0 h3 -- done
  · have c_26_0 : ¬ y ≤ (S2.1 0) := c_26_0
    refine lv_iload hx hb dL_bandsOne_29 (lv_at hl 0 rfl) ?_
    refine lv_ldc (v := -2000002) hx hb hown (hts (.constant RL 19 (-2000002)) (List.mem_of_getElem? (i := 1) rfl)) dL_bandsOne_31 ?_
    refine lv_icmp_ne (tgt := 55) hx hb dL_bandsOne_33 (by decide) (fun h => absurd h (by decide)) (fun _ => ?_)
    refine lv_aload_n hx hb dL_bandsOne_36 rfl (lv_at hl 2 rfl) ?_
    refine lv_iconst (v := 3) hx hb dL_bandsOne_37 (by decide) ?_
    refine k_calli (a := []) (z := []) (wc := (poC o q1 q2 q3 q4 q5 q6 qt sv ++ (stW q1 cI cJ S1 ++ (stW q2 cI cJ S2 ++ (stW q3 cI cJ S3 ++ (stW q4 cI cJ S4 ++ (stW q5 cI cJ S5 ++ (stW q6 cI cJ S6 ++ (txW qt cI T))))))))) (wc' := (poC o q1 q2 q3 q4 q5 q6 qt sv ++ (stW q1 cI cJ S1 ++ (stW q2 cI cJ S2 ++ (stW q3 cI cJ S3 ++ (stW q4 cI cJ S4 ++ (stW q5 cI cJ S5 ++ (stW q6 cI cJ S6 ++ (txW qt cI T))))))))) (w' := (poC o q1 q2 q3 q4 q5 q6 qt sv ++ (stW q1 cI cJ S1 ++ (stW q2 cI cJ S2 ++ (stW q3 cI cJ S3 ++ (stW q4 cI cJ S4 ++ (stW q5 cI cJ S5 ++ (stW q6 cI cJ S6 ++ (txW qt cI T))))))))) (vx_runSW (As := [.ref o, .int 3]) (rest := []) ⟨hx, hb, hml, hown, hts⟩ (m_L_value l D o q1 q2 q3 q4 q5 q6 qt cI cJ S1 S2 S3 S4 S5 S6 T sv 3 n hn hn6 (by decide) _) (vx_cwSW 2 hts gL_bandsOne_L_value rfl rfl rfl (by decide +kernel) ⟨Nat.le_of_ble_eq_true rfl, Nat.le_of_ble_eq_true rfl⟩) ⟨kB_blind, k_pre (a := []) (z := []) (k_w0 _) hK hP hD⟩ rfl rfl hl.1 rfl (lv_room (Nat.le_of_ble_eq_true rfl)) dL_bandsOne_38 ⟨Nat.le_of_ble_eq_true rfl, Nat.le_of_ble_eq_true rfl⟩) (k_w0 _) (k_w0 _) rfl hP hD hS hA (fun H locs hP hD hS => ?_)
    rw [show s_num S2 n 3 = S2.1 3 from sn_3 S2 n]
    refine lv_aload_n hx hb dL_bandsOne_41 rfl (lv_at hl 2 rfl) ?_
    refine lv_iconst (v := 2) hx hb dL_bandsOne_42 (by decide) ?_
    refine k_calli (a := []) (z := []) (wc := (poC o q1 q2 q3 q4 q5 q6 qt sv ++ (stW q1 cI cJ S1 ++ (stW q2 cI cJ S2 ++ (stW q3 cI cJ S3 ++ (stW q4 cI cJ S4 ++ (stW q5 cI cJ S5 ++ (stW q6 cI cJ S6 ++ (txW qt cI T))))))))) (wc' := (poC o q1 q2 q3 q4 q5 q6 qt sv ++ (stW q1 cI cJ S1 ++ (stW q2 cI cJ S2 ++ (stW q3 cI cJ S3 ++ (stW q4 cI cJ S4 ++ (stW q5 cI cJ S5 ++ (stW q6 cI cJ S6 ++ (txW qt cI T))))))))) (w' := (poC o q1 q2 q3 q4 q5 q6 qt sv ++ (stW q1 cI cJ S1 ++ (stW q2 cI cJ S2 ++ (stW q3 cI cJ S3 ++ (stW q4 cI cJ S4 ++ (stW q5 cI cJ S5 ++ (stW q6 cI cJ S6 ++ (txW qt cI T))))))))) (vx_runSW (As := [.ref o, .int 2]) (rest := [.int (S2.1 3)]) ⟨hx, hb, hml, hown, hts⟩ (m_L_value l D o q1 q2 q3 q4 q5 q6 qt cI cJ S1 S2 S3 S4 S5 S6 T sv 2 n hn hn6 (by decide) _) (vx_cwSW 2 hts gL_bandsOne_L_value rfl rfl rfl (by decide +kernel) ⟨Nat.le_of_ble_eq_true rfl, Nat.le_of_ble_eq_true rfl⟩) ⟨kB_blind, k_pre (a := []) (z := []) (k_w0 _) hK hP hD⟩ rfl rfl hl.1 rfl (lv_room (Nat.le_of_ble_eq_true rfl)) dL_bandsOne_43 ⟨Nat.le_of_ble_eq_true rfl, Nat.le_of_ble_eq_true rfl⟩) (k_w0 _) (k_w0 _) rfl hP hD hS hA (fun H locs hP hD hS => ?_)
    rw [show s_num S2 n 2 = S2.1 2 from sn_2 S2 n]
    refine lv_isub hx hb dL_bandsOne_46 ?_
    refine lv_iload_n hx hb dL_bandsOne_47 rfl (lv_at hl 1 rfl) ?_
    refine lv_icmp_ne (tgt := 55) hx hb dL_bandsOne_48 (by decide) (fun c_48_2 => ?_) (fun c_48_2 => ?_)
    · have c_48_2 : ¬ ((S2.1 3) - (S2.1 2)) = ((S2.1 3) - (S2.1 2)) := c_48_2
      exact absurd (rfl) c_48_2 -- done
    · have c_48_2 : ((S2.1 3) - (S2.1 2)) = ((S2.1 3) - (S2.1 2)) := c_48_2
      refine lv_iconst (v := 1) hx hb dL_bandsOne_51 (by decide) ?_
      refine lv_goto (tgt := 56) hx hb dL_bandsOne_52 (by decide) ?_
      exact k_hnret (Nat.le_of_ble_eq_true rfl) (Nat.le_of_ble_eq_true rfl) hx hb hr hlk hP hS dL_bandsOne_56 rfl (by first | rfl | (simp only [c_26_0, c_48_2]; done) | (simp [c_26_0, c_48_2]; done)) (fun h => h)

set_option maxHeartbeats 1000000 in
set_option maxRecDepth 100000 in
theorem c_L_sizesOne_a (l : Launch) (D : va_G) (o : Nat) (q1 q2 q3 q4 q5 q6 qt : Nat → Nat) (cI cJ : ClassId) (S1 S2 S3 S4 S5 S6 : SS) (T : TS) (sv : Int32) (x : Int32) (n : Nat) (hn : S2.1 8 = nI n) (hn6 : n ≤ 6) (hc : c_in x 100 100000 = true) (h1 : ¬ x < S2.1 1) (h3 : S2.1 3 ≤ x) : kI l yL_sizesOne wsL_sizesOne ({ frames := 6, cells := 0, slots := 0, locals := 146 } : Room) D [(cI, .int), (cJ, .long)] [.ref o, .int x] (poC o q1 q2 q3 q4 q5 q6 qt sv ++ (stW q1 cI cJ S1 ++ (stW q2 cI cJ S2 ++ (stW q3 cI cJ S3 ++ (stW q4 cI cJ S4 ++ (stW q5 cI cJ S5 ++ (stW q6 cI cJ S6 ++ (txW qt cI T)))))))) 1 (poC o q1 q2 q3 q4 q5 q6 qt (c_sv sv) ++ (stW q1 cI cJ S1 ++ (stW q2 cI cJ (setI S2 0 x) ++ (stW q3 cI cJ S2 ++ (stW q4 cI cJ S3 ++ (stW q5 cI cJ S4 ++ (stW q6 cI cJ S5 ++ (txW qt cI T)))))))) := by
  refine kBody.met (cc := cL_sizesOne) (maxL := 4) (ret := (some .boolean)) (by decide) rfl (Nat.le_of_ble_eq_true rfl) ?_
  intro p9 e9 s9 m9 below meth c9 A9 ls hx hb hr hml hts hown hlk hK hP hD hA hl
  have hown : s9.vm.findClass RL = some m9.cls := hown
  have inX0 : ∀ w ∈ wsX00, w ∈ wsL_sizesOne := fun w h => List.mem_cons_of_mem _ (List.mem_append_left _ (List.mem_append_left _ (List.mem_append_right _ (h))))
  have inX2 : ∀ w ∈ wsX20, w ∈ wsL_sizesOne := fun w h => List.mem_cons_of_mem _ (List.mem_append_left _ (List.mem_append_left _ (List.mem_append_left _ (List.mem_append_right _ (h)))))
  have inX3 : ∀ w ∈ wsX30, w ∈ wsL_sizesOne := fun w h => List.mem_cons_of_mem _ (List.mem_append_left _ (List.mem_append_left _ (List.mem_append_left _ (List.mem_append_left _ (List.mem_append_right _ (h))))))
  have inX4 : ∀ w ∈ wsX40, w ∈ wsL_sizesOne := fun w h => List.mem_cons_of_mem _ (List.mem_append_left _ (List.mem_append_left _ (List.mem_append_left _ (List.mem_append_left _ (List.mem_append_left _ (List.mem_append_right _ (h)))))))
  have hS : va_S A9 s9.heap s9.heap [] := va_S.rf
  have hl : lv_has ls 4 [(0, .ref o), (1, .int x)] := hl
  refine lv_aload_n hx hb dL_sizesOne_0 rfl (lv_at hl 0 rfl) ?_
  refine lv_iconst (v := 0) hx hb dL_sizesOne_1 (by decide) ?_
  refine k_calli (a := []) (z := []) (wc := (poC o q1 q2 q3 q4 q5 q6 qt sv ++ (stW q1 cI cJ S1 ++ (stW q2 cI cJ S2 ++ (stW q3 cI cJ S3 ++ (stW q4 cI cJ S4 ++ (stW q5 cI cJ S5 ++ (stW q6 cI cJ S6 ++ (txW qt cI T))))))))) (wc' := (poC o q1 q2 q3 q4 q5 q6 qt sv ++ (stW q1 cI cJ S1 ++ (stW q2 cI cJ S2 ++ (stW q3 cI cJ S3 ++ (stW q4 cI cJ S4 ++ (stW q5 cI cJ S5 ++ (stW q6 cI cJ S6 ++ (txW qt cI T))))))))) (w' := (poC o q1 q2 q3 q4 q5 q6 qt sv ++ (stW q1 cI cJ S1 ++ (stW q2 cI cJ S2 ++ (stW q3 cI cJ S3 ++ (stW q4 cI cJ S4 ++ (stW q5 cI cJ S5 ++ (stW q6 cI cJ S6 ++ (txW qt cI T))))))))) (vx_runSW (As := [.ref o, .int 0]) (rest := []) ⟨hx, hb, hml, hown, hts⟩ (m_L_value l D o q1 q2 q3 q4 q5 q6 qt cI cJ S1 S2 S3 S4 S5 S6 T sv 0 n hn hn6 (by decide) _) (vx_cwSW 2 hts gL_sizesOne_L_value rfl rfl rfl (by decide +kernel) ⟨Nat.le_of_ble_eq_true rfl, Nat.le_of_ble_eq_true rfl⟩) ⟨kB_blind, k_pre (a := []) (z := []) (k_w0 _) hK hP hD⟩ rfl rfl hl.1 rfl (lv_room (Nat.le_of_ble_eq_true rfl)) dL_sizesOne_2 ⟨Nat.zero_le _, Nat.zero_le _⟩) (k_w0 _) (k_w0 _) rfl hP hD hS hA (fun H locs hP hD hS => ?_)
  rw [show s_num S2 n 0 = S2.1 0 from sn_0 S2 n]
  refine lv_istore_n (lv' := [(2, .int (S2.1 0)), (0, .ref o), (1, .int x)]) hx hb dL_sizesOne_5 rfl hl (by decide) rfl (fun ls hl => ?_)
  refine lv_aload_n hx hb dL_sizesOne_6 rfl (lv_at hl 1 rfl) ?_
  refine lv_iload_n hx hb dL_sizesOne_7 rfl (lv_at hl 2 rfl) ?_
  refine k_calli (a := []) (z := []) (wc := (poC o q1 q2 q3 q4 q5 q6 qt sv ++ (stW q1 cI cJ S1 ++ (stW q2 cI cJ S2 ++ (stW q3 cI cJ S3 ++ (stW q4 cI cJ S4 ++ (stW q5 cI cJ S5 ++ (stW q6 cI cJ S6 ++ (txW qt cI T))))))))) (wc' := (poC o q1 q2 q3 q4 q5 q6 qt (c_sv sv) ++ (stW q1 cI cJ S1 ++ (stW q2 cI cJ (setI S2 0 x) ++ (stW q3 cI cJ S2 ++ (stW q4 cI cJ S3 ++ (stW q5 cI cJ S4 ++ (stW q6 cI cJ S5 ++ (txW qt cI T))))))))) (w' := (poC o q1 q2 q3 q4 q5 q6 qt (c_sv sv) ++ (stW q1 cI cJ S1 ++ (stW q2 cI cJ (setI S2 0 x) ++ (stW q3 cI cJ S2 ++ (stW q4 cI cJ S3 ++ (stW q5 cI cJ S4 ++ (stW q6 cI cJ S5 ++ (txW qt cI T))))))))) (vx_runSW (As := [.ref o, .int x]) (rest := []) ⟨hx, hb, hml, hown, hts⟩ (m_L_sizes l D o q1 q2 q3 q4 q5 q6 qt cI cJ S1 S2 S3 S4 S5 S6 T sv x hc h1 h3 _) (vx_cwSW 2 hts gL_sizesOne_L_sizes rfl rfl rfl (by decide +kernel) ⟨Nat.le_of_ble_eq_true rfl, Nat.le_of_ble_eq_true rfl⟩) ⟨kB_blind, k_pre (a := []) (z := []) (k_w0 _) hK hP hD⟩ rfl rfl hl.1 rfl (lv_room (Nat.le_of_ble_eq_true rfl)) dL_sizesOne_8 ⟨Nat.zero_le _, Nat.zero_le _⟩) (k_w0 _) (k_w0 _) rfl hP hD hS hA (fun H locs hP hD hS => ?_)
  refine lv_istore_n (lv' := [(3, .int (S2.1 0)), (2, .int (S2.1 0)), (0, .ref o), (1, .int x)]) hx hb dL_sizesOne_11 rfl hl (by decide) rfl (fun ls hl => ?_)
  refine lv_aload_n hx hb dL_sizesOne_12 rfl (lv_at hl 2 rfl) ?_
  refine lv_iconst (v := 1) hx hb dL_sizesOne_13 (by decide) ?_
  refine k_calli (a := []) (z := []) (wc := (poC o q1 q2 q3 q4 q5 q6 qt (c_sv sv) ++ (stW q1 cI cJ S1 ++ (stW q2 cI cJ (setI S2 0 x) ++ (stW q3 cI cJ S2 ++ (stW q4 cI cJ S3 ++ (stW q5 cI cJ S4 ++ (stW q6 cI cJ S5 ++ (txW qt cI T))))))))) (wc' := (poC o q1 q2 q3 q4 q5 q6 qt (c_sv sv) ++ (stW q1 cI cJ S1 ++ (stW q2 cI cJ (setI S2 0 x) ++ (stW q3 cI cJ S2 ++ (stW q4 cI cJ S3 ++ (stW q5 cI cJ S4 ++ (stW q6 cI cJ S5 ++ (txW qt cI T))))))))) (w' := (poC o q1 q2 q3 q4 q5 q6 qt (c_sv sv) ++ (stW q1 cI cJ S1 ++ (stW q2 cI cJ (setI S2 0 x) ++ (stW q3 cI cJ S2 ++ (stW q4 cI cJ S3 ++ (stW q5 cI cJ S4 ++ (stW q6 cI cJ S5 ++ (txW qt cI T))))))))) (vx_runSW (As := [.ref o, .int 1]) (rest := []) ⟨hx, hb, hml, hown, hts⟩ (m_L_value l D o q1 q2 q3 q4 q5 q6 qt cI cJ S1 (setI S2 0 x) S2 S3 S4 S5 T (c_sv sv) 1 n hn hn6 (by decide) _) (vx_cwSW 2 hts gL_sizesOne_L_value rfl rfl rfl (by decide +kernel) ⟨Nat.le_of_ble_eq_true rfl, Nat.le_of_ble_eq_true rfl⟩) ⟨kB_blind, k_pre (a := []) (z := []) (k_w0 _) hK hP hD⟩ rfl rfl hl.1 rfl (lv_room (Nat.le_of_ble_eq_true rfl)) dL_sizesOne_14 ⟨Nat.zero_le _, Nat.zero_le _⟩) (k_w0 _) (k_w0 _) rfl hP hD hS hA (fun H locs hP hD hS => ?_)
  rw [show s_num (setI S2 0 x) n 1 = (setI S2 0 x).1 1 from sn_1 (setI S2 0 x) n]
  refine lv_iload_n hx hb dL_sizesOne_17 rfl (lv_at hl 3 rfl) ?_
  refine lv_icmp_gt (tgt := 30) hx hb dL_sizesOne_18 (by decide) (fun c_18_0 => ?_) (fun c_18_0 => ?_)
  · have c_18_0 : x < ((setI S2 0 x).1 1) := c_18_0
    exact absurd c_18_0 (show ¬ x < (setI S2 0 x).1 1 from h1) -- done
  · have c_18_0 : ¬ x < ((setI S2 0 x).1 1) := c_18_0
    refine lv_aload_n hx hb dL_sizesOne_21 rfl (lv_at hl 2 rfl) ?_
    refine lv_iconst (v := 3) hx hb dL_sizesOne_22 (by decide) ?_
    refine k_calli (a := []) (z := []) (wc := (poC o q1 q2 q3 q4 q5 q6 qt (c_sv sv) ++ (stW q1 cI cJ S1 ++ (stW q2 cI cJ (setI S2 0 x) ++ (stW q3 cI cJ S2 ++ (stW q4 cI cJ S3 ++ (stW q5 cI cJ S4 ++ (stW q6 cI cJ S5 ++ (txW qt cI T))))))))) (wc' := (poC o q1 q2 q3 q4 q5 q6 qt (c_sv sv) ++ (stW q1 cI cJ S1 ++ (stW q2 cI cJ (setI S2 0 x) ++ (stW q3 cI cJ S2 ++ (stW q4 cI cJ S3 ++ (stW q5 cI cJ S4 ++ (stW q6 cI cJ S5 ++ (txW qt cI T))))))))) (w' := (poC o q1 q2 q3 q4 q5 q6 qt (c_sv sv) ++ (stW q1 cI cJ S1 ++ (stW q2 cI cJ (setI S2 0 x) ++ (stW q3 cI cJ S2 ++ (stW q4 cI cJ S3 ++ (stW q5 cI cJ S4 ++ (stW q6 cI cJ S5 ++ (txW qt cI T))))))))) (vx_runSW (As := [.ref o, .int 3]) (rest := []) ⟨hx, hb, hml, hown, hts⟩ (m_L_value l D o q1 q2 q3 q4 q5 q6 qt cI cJ S1 (setI S2 0 x) S2 S3 S4 S5 T (c_sv sv) 3 n hn hn6 (by decide) _) (vx_cwSW 2 hts gL_sizesOne_L_value rfl rfl rfl (by decide +kernel) ⟨Nat.le_of_ble_eq_true rfl, Nat.le_of_ble_eq_true rfl⟩) ⟨kB_blind, k_pre (a := []) (z := []) (k_w0 _) hK hP hD⟩ rfl rfl hl.1 rfl (lv_room (Nat.le_of_ble_eq_true rfl)) dL_sizesOne_23 ⟨Nat.zero_le _, Nat.zero_le _⟩) (k_w0 _) (k_w0 _) rfl hP hD hS hA (fun H locs hP hD hS => ?_)
    rw [show s_num (setI S2 0 x) n 3 = (setI S2 0 x).1 3 from sn_3 (setI S2 0 x) n]
    refine lv_iload_n hx hb dL_sizesOne_26 rfl (lv_at hl 3 rfl) ?_
    refine lv_icmp_le (tgt := 51) hx hb dL_sizesOne_27 (by decide) (fun c_27_1 => ?_) (fun c_27_1 => ?_)
    · have c_27_1 : ((setI S2 0 x).1 3) ≤ x := c_27_1
      refine lv_iload_n hx hb dL_sizesOne_51 rfl (lv_at hl 0 rfl) ?_
      refine lv_iload_n hx hb dL_sizesOne_52 rfl (lv_at hl 1 rfl) ?_
      refine lv_icmp_ne (tgt := 69) hx hb dL_sizesOne_53 (by decide) (fun c_53_2 => ?_) (fun c_53_2 => ?_)
      · have c_53_2 : ¬ (S2.1 0) = (S2.1 0) := c_53_2
        exact absurd (rfl) c_53_2 -- done
      · have c_53_2 : (S2.1 0) = (S2.1 0) := c_53_2
        refine lv_aload_n hx hb dL_sizesOne_56 rfl (lv_at hl 2 rfl) ?_
        refine lv_iconst (v := 0) hx hb dL_sizesOne_57 (by decide) ?_
        refine k_calli (a := []) (z := []) (wc := (poC o q1 q2 q3 q4 q5 q6 qt (c_sv sv) ++ (stW q1 cI cJ S1 ++ (stW q2 cI cJ (setI S2 0 x) ++ (stW q3 cI cJ S2 ++ (stW q4 cI cJ S3 ++ (stW q5 cI cJ S4 ++ (stW q6 cI cJ S5 ++ (txW qt cI T))))))))) (wc' := (poC o q1 q2 q3 q4 q5 q6 qt (c_sv sv) ++ (stW q1 cI cJ S1 ++ (stW q2 cI cJ (setI S2 0 x) ++ (stW q3 cI cJ S2 ++ (stW q4 cI cJ S3 ++ (stW q5 cI cJ S4 ++ (stW q6 cI cJ S5 ++ (txW qt cI T))))))))) (w' := (poC o q1 q2 q3 q4 q5 q6 qt (c_sv sv) ++ (stW q1 cI cJ S1 ++ (stW q2 cI cJ (setI S2 0 x) ++ (stW q3 cI cJ S2 ++ (stW q4 cI cJ S3 ++ (stW q5 cI cJ S4 ++ (stW q6 cI cJ S5 ++ (txW qt cI T))))))))) (vx_runSW (As := [.ref o, .int 0]) (rest := []) ⟨hx, hb, hml, hown, hts⟩ (m_L_value l D o q1 q2 q3 q4 q5 q6 qt cI cJ S1 (setI S2 0 x) S2 S3 S4 S5 T (c_sv sv) 0 n hn hn6 (by decide) _) (vx_cwSW 2 hts gL_sizesOne_L_value rfl rfl rfl (by decide +kernel) ⟨Nat.le_of_ble_eq_true rfl, Nat.le_of_ble_eq_true rfl⟩) ⟨kB_blind, k_pre (a := []) (z := []) (k_w0 _) hK hP hD⟩ rfl rfl hl.1 rfl (lv_room (Nat.le_of_ble_eq_true rfl)) dL_sizesOne_58 ⟨Nat.zero_le _, Nat.zero_le _⟩) (k_w0 _) (k_w0 _) rfl hP hD hS hA (fun H locs hP hD hS => ?_)
        rw [show s_num (setI S2 0 x) n 0 = (setI S2 0 x).1 0 from sn_0 (setI S2 0 x) n]
        refine lv_iload_n hx hb dL_sizesOne_61 rfl (lv_at hl 3 rfl) ?_
        refine lv_icmp_ne (tgt := 69) hx hb dL_sizesOne_62 (by decide) (fun c_62_3 => ?_) (fun c_62_3 => ?_)
        · have c_62_3 : ¬ ((setI S2 0 x).1 0) = x := c_62_3
          exact absurd (rfl) c_62_3 -- done
        · have c_62_3 : ((setI S2 0 x).1 0) = x := c_62_3
          refine lv_iconst (v := 1) hx hb dL_sizesOne_65 (by decide) ?_
          refine lv_goto (tgt := 70) hx hb dL_sizesOne_66 (by decide) ?_
          exact k_iret hx hb hr hlk hP hS dL_sizesOne_70 rfl (by first | rfl | (simp only [c_18_0, c_27_1, c_53_2, c_62_3]; done) | (simp [c_18_0, c_27_1, c_53_2, c_62_3]; done)) (fun h => h)
    · have c_27_1 : ¬ ((setI S2 0 x).1 3) ≤ x := c_27_1
      exact absurd (show (setI S2 0 x).1 3 ≤ x from h3) c_27_1 -- done

set_option maxHeartbeats 1000000 in
set_option maxRecDepth 100000 in
theorem c_L_sizesOne_b (l : Launch) (D : va_G) (o : Nat) (q1 q2 q3 q4 q5 q6 qt : Nat → Nat) (cI cJ : ClassId) (S1 S2 S3 S4 S5 S6 : SS) (T : TS) (sv : Int32) (x : Int32) (n : Nat) (hn : S2.1 8 = nI n) (hn6 : n ≤ 6) (hst : l.stackTraces = false) (hc : c_in x 100 100000 = true) (h1 : x < S2.1 1 ∨ ¬ S2.1 3 ≤ x) : kHn l yL_sizesOne wsL_sizesOne ({ frames := 8, cells := 1, slots := 6, locals := 146 } : Room) 1 6 D [(cI, .int), (cJ, .long)] [.ref o, .int x] (poC o q1 q2 q3 q4 q5 q6 qt sv ++ (stW q1 cI cJ S1 ++ (stW q2 cI cJ S2 ++ (stW q3 cI cJ S3 ++ (stW q4 cI cJ S4 ++ (stW q5 cI cJ S5 ++ (stW q6 cI cJ S6 ++ (txW qt cI T)))))))) 1 (poC o q1 q2 q3 q4 q5 q6 qt sv ++ (stW q1 cI cJ S1 ++ (stW q2 cI cJ S2 ++ (stW q3 cI cJ S3 ++ (stW q4 cI cJ S4 ++ (stW q5 cI cJ S5 ++ (stW q6 cI cJ S6 ++ (txW qt cI T)))))))) := by
  refine kHnBody.met (cc := cL_sizesOne) (maxL := 4) (ret := (some .boolean)) (by decide) rfl (Nat.le_of_ble_eq_true rfl) ?_
  intro p9 e9 s9 m9 below meth c9 A9 ls hx hb hr hml hts hown hlk hK hP hD hA hTT hN hl
  have hown : s9.vm.findClass RL = some m9.cls := hown
  have inX0 : ∀ w ∈ wsX00, w ∈ wsL_sizesOne := fun w h => List.mem_cons_of_mem _ (List.mem_append_left _ (List.mem_append_left _ (List.mem_append_right _ (h))))
  have inX2 : ∀ w ∈ wsX20, w ∈ wsL_sizesOne := fun w h => List.mem_cons_of_mem _ (List.mem_append_left _ (List.mem_append_left _ (List.mem_append_left _ (List.mem_append_right _ (h)))))
  have inX3 : ∀ w ∈ wsX30, w ∈ wsL_sizesOne := fun w h => List.mem_cons_of_mem _ (List.mem_append_left _ (List.mem_append_left _ (List.mem_append_left _ (List.mem_append_left _ (List.mem_append_right _ (h))))))
  have inX4 : ∀ w ∈ wsX40, w ∈ wsL_sizesOne := fun w h => List.mem_cons_of_mem _ (List.mem_append_left _ (List.mem_append_left _ (List.mem_append_left _ (List.mem_append_left _ (List.mem_append_left _ (List.mem_append_right _ (h)))))))
  have hS : va_S A9 s9.heap s9.heap [] := va_S.rf
  have hl : lv_has ls 4 [(0, .ref o), (1, .int x)] := hl
  refine lv_aload_n hx hb dL_sizesOne_0 rfl (lv_at hl 0 rfl) ?_
  refine lv_iconst (v := 0) hx hb dL_sizesOne_1 (by decide) ?_
  refine k_calli (a := []) (z := []) (wc := (poC o q1 q2 q3 q4 q5 q6 qt sv ++ (stW q1 cI cJ S1 ++ (stW q2 cI cJ S2 ++ (stW q3 cI cJ S3 ++ (stW q4 cI cJ S4 ++ (stW q5 cI cJ S5 ++ (stW q6 cI cJ S6 ++ (txW qt cI T))))))))) (wc' := (poC o q1 q2 q3 q4 q5 q6 qt sv ++ (stW q1 cI cJ S1 ++ (stW q2 cI cJ S2 ++ (stW q3 cI cJ S3 ++ (stW q4 cI cJ S4 ++ (stW q5 cI cJ S5 ++ (stW q6 cI cJ S6 ++ (txW qt cI T))))))))) (w' := (poC o q1 q2 q3 q4 q5 q6 qt sv ++ (stW q1 cI cJ S1 ++ (stW q2 cI cJ S2 ++ (stW q3 cI cJ S3 ++ (stW q4 cI cJ S4 ++ (stW q5 cI cJ S5 ++ (stW q6 cI cJ S6 ++ (txW qt cI T))))))))) (vx_runSW (As := [.ref o, .int 0]) (rest := []) ⟨hx, hb, hml, hown, hts⟩ (m_L_value l D o q1 q2 q3 q4 q5 q6 qt cI cJ S1 S2 S3 S4 S5 S6 T sv 0 n hn hn6 (by decide) _) (vx_cwSW 2 hts gL_sizesOne_L_value rfl rfl rfl (by decide +kernel) ⟨Nat.le_of_ble_eq_true rfl, Nat.le_of_ble_eq_true rfl⟩) ⟨kB_blind, k_pre (a := []) (z := []) (k_w0 _) hK hP hD⟩ rfl rfl hl.1 rfl (lv_room (Nat.le_of_ble_eq_true rfl)) dL_sizesOne_2 ⟨Nat.le_of_ble_eq_true rfl, Nat.le_of_ble_eq_true rfl⟩) (k_w0 _) (k_w0 _) rfl hP hD hS hA (fun H locs hP hD hS => ?_)
  rw [show s_num S2 n 0 = S2.1 0 from sn_0 S2 n]
  refine lv_istore_n (lv' := [(2, .int (S2.1 0)), (0, .ref o), (1, .int x)]) hx hb dL_sizesOne_5 rfl hl (by decide) rfl (fun ls hl => ?_)
  refine lv_aload_n hx hb dL_sizesOne_6 rfl (lv_at hl 1 rfl) ?_
  refine lv_iload_n hx hb dL_sizesOne_7 rfl (lv_at hl 2 rfl) ?_
  refine k_callHn (a := []) (z := []) (wc := (poC o q1 q2 q3 q4 q5 q6 qt sv ++ (stW q1 cI cJ S1 ++ (stW q2 cI cJ S2 ++ (stW q3 cI cJ S3 ++ (stW q4 cI cJ S4 ++ (stW q5 cI cJ S5 ++ (stW q6 cI cJ S6 ++ (txW qt cI T))))))))) (wc' := (poC o q1 q2 q3 q4 q5 q6 qt sv ++ (stW q1 cI cJ S1 ++ (stW q2 cI cJ S2 ++ (stW q3 cI cJ S3 ++ (stW q4 cI cJ S4 ++ (stW q5 cI cJ S5 ++ (stW q6 cI cJ S6 ++ (txW qt cI T))))))))) (w' := (poC o q1 q2 q3 q4 q5 q6 qt sv ++ (stW q1 cI cJ S1 ++ (stW q2 cI cJ S2 ++ (stW q3 cI cJ S3 ++ (stW q4 cI cJ S4 ++ (stW q5 cI cJ S5 ++ (stW q6 cI cJ S6 ++ (txW qt cI T))))))))) (vx_runSW (As := [.ref o, .int x]) (rest := []) ⟨hx, hb, hml, hown, hts⟩ (t_L_sizes_ise l D o q1 q2 q3 q4 q5 q6 qt cI cJ S1 S2 S3 S4 S5 S6 T sv x hst (by
    rw [A_X4_setSize_t, if_pos hc]
    by_cases q1 : x < S2.1 1
    · rw [if_pos q1]
    · rw [if_neg q1, if_neg (h1.resolve_left q1)]) _) (vx_cwSW 2 hts gL_sizesOne_L_sizes rfl rfl rfl (by decide +kernel) ⟨Nat.le_of_ble_eq_true rfl, Nat.le_of_ble_eq_true rfl⟩) ⟨kBH_blind, k_preH (a := []) (z := []) (k_w0 _) hK hP hD hS hA hTT hN⟩ rfl rfl hl.1 rfl (lv_room (Nat.le_of_ble_eq_true rfl)) dL_sizesOne_8 ⟨Nat.le_of_ble_eq_true rfl, Nat.le_of_ble_eq_true rfl⟩) (k_w0 _) (k_w0 _) rfl hP hD hS hA (fun H locs hP hD hS => ?_)
  refine lv_istore_n (lv' := [(3, .int (-2000002)), (2, .int (S2.1 0)), (0, .ref o), (1, .int x)]) hx hb dL_sizesOne_11 rfl hl (by decide) rfl (fun ls hl => ?_)
  refine lv_aload_n hx hb dL_sizesOne_12 rfl (lv_at hl 2 rfl) ?_
  refine lv_iconst (v := 1) hx hb dL_sizesOne_13 (by decide) ?_
  refine k_calli (a := []) (z := []) (wc := (poC o q1 q2 q3 q4 q5 q6 qt sv ++ (stW q1 cI cJ S1 ++ (stW q2 cI cJ S2 ++ (stW q3 cI cJ S3 ++ (stW q4 cI cJ S4 ++ (stW q5 cI cJ S5 ++ (stW q6 cI cJ S6 ++ (txW qt cI T))))))))) (wc' := (poC o q1 q2 q3 q4 q5 q6 qt sv ++ (stW q1 cI cJ S1 ++ (stW q2 cI cJ S2 ++ (stW q3 cI cJ S3 ++ (stW q4 cI cJ S4 ++ (stW q5 cI cJ S5 ++ (stW q6 cI cJ S6 ++ (txW qt cI T))))))))) (w' := (poC o q1 q2 q3 q4 q5 q6 qt sv ++ (stW q1 cI cJ S1 ++ (stW q2 cI cJ S2 ++ (stW q3 cI cJ S3 ++ (stW q4 cI cJ S4 ++ (stW q5 cI cJ S5 ++ (stW q6 cI cJ S6 ++ (txW qt cI T))))))))) (vx_runSW (As := [.ref o, .int 1]) (rest := []) ⟨hx, hb, hml, hown, hts⟩ (m_L_value l D o q1 q2 q3 q4 q5 q6 qt cI cJ S1 S2 S3 S4 S5 S6 T sv 1 n hn hn6 (by decide) _) (vx_cwSW 2 hts gL_sizesOne_L_value rfl rfl rfl (by decide +kernel) ⟨Nat.le_of_ble_eq_true rfl, Nat.le_of_ble_eq_true rfl⟩) ⟨kB_blind, k_pre (a := []) (z := []) (k_w0 _) hK hP hD⟩ rfl rfl hl.1 rfl (lv_room (Nat.le_of_ble_eq_true rfl)) dL_sizesOne_14 ⟨Nat.le_of_ble_eq_true rfl, Nat.le_of_ble_eq_true rfl⟩) (k_w0 _) (k_w0 _) rfl hP hD hS hA (fun H locs hP hD hS => ?_)
  rw [show s_num S2 n 1 = S2.1 1 from sn_1 S2 n]
  refine lv_iload_n hx hb dL_sizesOne_17 rfl (lv_at hl 3 rfl) ?_
  refine lv_icmp_gt (tgt := 30) hx hb dL_sizesOne_18 (by decide) (fun c_18_0 => ?_) (fun c_18_0 => ?_)
  · have c_18_0 : x < (S2.1 1) := c_18_0
    refine lv_iload_n hx hb dL_sizesOne_30 rfl (lv_at hl 0 rfl) ?_
    refine lv_ldc (v := -2000002) hx hb hown (hts (.constant RL 19 (-2000002)) (List.mem_of_getElem? (i := 1) rfl)) dL_sizesOne_31 ?_
    refine lv_icmp_ne (tgt := 49) hx hb dL_sizesOne_33 (by decide) (fun h => absurd h (by decide)) (fun _ => ?_)
    refine lv_aload_n hx hb dL_sizesOne_36 rfl (lv_at hl 2 rfl) ?_
    refine lv_iconst (v := 0) hx hb dL_sizesOne_37 (by decide) ?_
    refine k_calli (a := []) (z := []) (wc := (poC o q1 q2 q3 q4 q5 q6 qt sv ++ (stW q1 cI cJ S1 ++ (stW q2 cI cJ S2 ++ (stW q3 cI cJ S3 ++ (stW q4 cI cJ S4 ++ (stW q5 cI cJ S5 ++ (stW q6 cI cJ S6 ++ (txW qt cI T))))))))) (wc' := (poC o q1 q2 q3 q4 q5 q6 qt sv ++ (stW q1 cI cJ S1 ++ (stW q2 cI cJ S2 ++ (stW q3 cI cJ S3 ++ (stW q4 cI cJ S4 ++ (stW q5 cI cJ S5 ++ (stW q6 cI cJ S6 ++ (txW qt cI T))))))))) (w' := (poC o q1 q2 q3 q4 q5 q6 qt sv ++ (stW q1 cI cJ S1 ++ (stW q2 cI cJ S2 ++ (stW q3 cI cJ S3 ++ (stW q4 cI cJ S4 ++ (stW q5 cI cJ S5 ++ (stW q6 cI cJ S6 ++ (txW qt cI T))))))))) (vx_runSW (As := [.ref o, .int 0]) (rest := []) ⟨hx, hb, hml, hown, hts⟩ (m_L_value l D o q1 q2 q3 q4 q5 q6 qt cI cJ S1 S2 S3 S4 S5 S6 T sv 0 n hn hn6 (by decide) _) (vx_cwSW 2 hts gL_sizesOne_L_value rfl rfl rfl (by decide +kernel) ⟨Nat.le_of_ble_eq_true rfl, Nat.le_of_ble_eq_true rfl⟩) ⟨kB_blind, k_pre (a := []) (z := []) (k_w0 _) hK hP hD⟩ rfl rfl hl.1 rfl (lv_room (Nat.le_of_ble_eq_true rfl)) dL_sizesOne_38 ⟨Nat.le_of_ble_eq_true rfl, Nat.le_of_ble_eq_true rfl⟩) (k_w0 _) (k_w0 _) rfl hP hD hS hA (fun H locs hP hD hS => ?_)
    rw [show s_num S2 n 0 = S2.1 0 from sn_0 S2 n]
    refine lv_iload_n hx hb dL_sizesOne_41 rfl (lv_at hl 1 rfl) ?_
    refine lv_icmp_ne (tgt := 49) hx hb dL_sizesOne_42 (by decide) (fun c_42_2 => ?_) (fun c_42_2 => ?_)
    · have c_42_2 : ¬ (S2.1 0) = (S2.1 0) := c_42_2
      exact absurd (rfl) c_42_2 -- done
    · have c_42_2 : (S2.1 0) = (S2.1 0) := c_42_2
      refine lv_iconst (v := 1) hx hb dL_sizesOne_45 (by decide) ?_
      refine lv_goto (tgt := 50) hx hb dL_sizesOne_46 (by decide) ?_
      exact k_hnret (Nat.le_of_ble_eq_true rfl) (Nat.le_of_ble_eq_true rfl) hx hb hr hlk hP hS dL_sizesOne_50 rfl (by first | rfl | (simp only [c_18_0, c_42_2]; done) | (simp [c_18_0, c_42_2]; done)) (fun h => h)
  · have c_18_0 : ¬ x < (S2.1 1) := c_18_0
    refine lv_aload_n hx hb dL_sizesOne_21 rfl (lv_at hl 2 rfl) ?_
    refine lv_iconst (v := 3) hx hb dL_sizesOne_22 (by decide) ?_
    refine k_calli (a := []) (z := []) (wc := (poC o q1 q2 q3 q4 q5 q6 qt sv ++ (stW q1 cI cJ S1 ++ (stW q2 cI cJ S2 ++ (stW q3 cI cJ S3 ++ (stW q4 cI cJ S4 ++ (stW q5 cI cJ S5 ++ (stW q6 cI cJ S6 ++ (txW qt cI T))))))))) (wc' := (poC o q1 q2 q3 q4 q5 q6 qt sv ++ (stW q1 cI cJ S1 ++ (stW q2 cI cJ S2 ++ (stW q3 cI cJ S3 ++ (stW q4 cI cJ S4 ++ (stW q5 cI cJ S5 ++ (stW q6 cI cJ S6 ++ (txW qt cI T))))))))) (w' := (poC o q1 q2 q3 q4 q5 q6 qt sv ++ (stW q1 cI cJ S1 ++ (stW q2 cI cJ S2 ++ (stW q3 cI cJ S3 ++ (stW q4 cI cJ S4 ++ (stW q5 cI cJ S5 ++ (stW q6 cI cJ S6 ++ (txW qt cI T))))))))) (vx_runSW (As := [.ref o, .int 3]) (rest := []) ⟨hx, hb, hml, hown, hts⟩ (m_L_value l D o q1 q2 q3 q4 q5 q6 qt cI cJ S1 S2 S3 S4 S5 S6 T sv 3 n hn hn6 (by decide) _) (vx_cwSW 2 hts gL_sizesOne_L_value rfl rfl rfl (by decide +kernel) ⟨Nat.le_of_ble_eq_true rfl, Nat.le_of_ble_eq_true rfl⟩) ⟨kB_blind, k_pre (a := []) (z := []) (k_w0 _) hK hP hD⟩ rfl rfl hl.1 rfl (lv_room (Nat.le_of_ble_eq_true rfl)) dL_sizesOne_23 ⟨Nat.le_of_ble_eq_true rfl, Nat.le_of_ble_eq_true rfl⟩) (k_w0 _) (k_w0 _) rfl hP hD hS hA (fun H locs hP hD hS => ?_)
    rw [show s_num S2 n 3 = S2.1 3 from sn_3 S2 n]
    refine lv_iload_n hx hb dL_sizesOne_26 rfl (lv_at hl 3 rfl) ?_
    refine lv_icmp_le (tgt := 51) hx hb dL_sizesOne_27 (by decide) (fun c_27_3 => ?_) (fun c_27_3 => ?_)
    · have c_27_3 : (S2.1 3) ≤ x := c_27_3
      exact absurd c_27_3 (h1.resolve_left c_18_0) -- done
    · have c_27_3 : ¬ (S2.1 3) ≤ x := c_27_3
      refine lv_iload_n hx hb dL_sizesOne_30 rfl (lv_at hl 0 rfl) ?_
      refine lv_ldc (v := -2000002) hx hb hown (hts (.constant RL 19 (-2000002)) (List.mem_of_getElem? (i := 1) rfl)) dL_sizesOne_31 ?_
      refine lv_icmp_ne (tgt := 49) hx hb dL_sizesOne_33 (by decide) (fun h => absurd h (by decide)) (fun _ => ?_)
      refine lv_aload_n hx hb dL_sizesOne_36 rfl (lv_at hl 2 rfl) ?_
      refine lv_iconst (v := 0) hx hb dL_sizesOne_37 (by decide) ?_
      refine k_calli (a := []) (z := []) (wc := (poC o q1 q2 q3 q4 q5 q6 qt sv ++ (stW q1 cI cJ S1 ++ (stW q2 cI cJ S2 ++ (stW q3 cI cJ S3 ++ (stW q4 cI cJ S4 ++ (stW q5 cI cJ S5 ++ (stW q6 cI cJ S6 ++ (txW qt cI T))))))))) (wc' := (poC o q1 q2 q3 q4 q5 q6 qt sv ++ (stW q1 cI cJ S1 ++ (stW q2 cI cJ S2 ++ (stW q3 cI cJ S3 ++ (stW q4 cI cJ S4 ++ (stW q5 cI cJ S5 ++ (stW q6 cI cJ S6 ++ (txW qt cI T))))))))) (w' := (poC o q1 q2 q3 q4 q5 q6 qt sv ++ (stW q1 cI cJ S1 ++ (stW q2 cI cJ S2 ++ (stW q3 cI cJ S3 ++ (stW q4 cI cJ S4 ++ (stW q5 cI cJ S5 ++ (stW q6 cI cJ S6 ++ (txW qt cI T))))))))) (vx_runSW (As := [.ref o, .int 0]) (rest := []) ⟨hx, hb, hml, hown, hts⟩ (m_L_value l D o q1 q2 q3 q4 q5 q6 qt cI cJ S1 S2 S3 S4 S5 S6 T sv 0 n hn hn6 (by decide) _) (vx_cwSW 2 hts gL_sizesOne_L_value rfl rfl rfl (by decide +kernel) ⟨Nat.le_of_ble_eq_true rfl, Nat.le_of_ble_eq_true rfl⟩) ⟨kB_blind, k_pre (a := []) (z := []) (k_w0 _) hK hP hD⟩ rfl rfl hl.1 rfl (lv_room (Nat.le_of_ble_eq_true rfl)) dL_sizesOne_38 ⟨Nat.le_of_ble_eq_true rfl, Nat.le_of_ble_eq_true rfl⟩) (k_w0 _) (k_w0 _) rfl hP hD hS hA (fun H locs hP hD hS => ?_)
      rw [show s_num S2 n 0 = S2.1 0 from sn_0 S2 n]
      refine lv_iload_n hx hb dL_sizesOne_41 rfl (lv_at hl 1 rfl) ?_
      refine lv_icmp_ne (tgt := 49) hx hb dL_sizesOne_42 (by decide) (fun c_42_5 => ?_) (fun c_42_5 => ?_)
      · have c_42_5 : ¬ (S2.1 0) = (S2.1 0) := c_42_5
        exact absurd (rfl) c_42_5 -- done
      · have c_42_5 : (S2.1 0) = (S2.1 0) := c_42_5
        refine lv_iconst (v := 1) hx hb dL_sizesOne_45 (by decide) ?_
        refine lv_goto (tgt := 50) hx hb dL_sizesOne_46 (by decide) ?_
        exact k_hnret (Nat.le_of_ble_eq_true rfl) (Nat.le_of_ble_eq_true rfl) hx hb hr hlk hP hS dL_sizesOne_50 rfl (by first | rfl | (simp only [c_18_0, c_27_3, c_42_5]; done) | (simp [c_18_0, c_27_3, c_42_5]; done)) (fun h => h)
