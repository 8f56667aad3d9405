set_option maxHeartbeats 1000000 in
set_option maxRecDepth 100000 in
theorem c_X3_passMinute (l : Launch) (D : va_G) (q : Nat → Nat) (cI cJ : ClassId) (S : SS) (n : Nat) (hn : S.1 8 = nI n) (hn6 : n ≤ 6) : kI l yX3_passMinute wsX3_passMinute ({ frames := 3, cells := 0, slots := 0, locals := 84 } : Room) D [(cI, .int), (cJ, .long)] [.ref (q 0)] (stW q cI cJ S) (s_minR S n) (stW q cI cJ (s_min S n)) := by
  refine kBody.met (cc := cX3_passMinute) (maxL := 3) (ret := (some .int)) (by decide) rfl (Nat.le_of_ble_eq_true rfl) ?_
  intro p9 e9 s9 m9 below meth c9 A9 ls hx hb hr hml hts hown hlk hK hP hD hA hl
  have hown : s9.vm.findClass RX3 = some m9.cls := hown
  have inX0 : ∀ w ∈ wsX00, w ∈ wsX3_passMinute := fun w h => List.mem_cons_of_mem _ (List.mem_append_right _ (h))
  have inX2 : ∀ w ∈ wsX20, w ∈ wsX3_passMinute := fun w h => List.mem_cons_of_mem _ (List.mem_append_left _ (List.mem_append_right _ (h)))
  have inX3 : ∀ w ∈ wsX30, w ∈ wsX3_passMinute := fun w h => List.mem_cons_of_mem _ (List.mem_append_left _ (List.mem_append_left _ (List.mem_append_right _ (h))))
  have hS : va_S A9 s9.heap s9.heap [] := va_S.rf
  have hl : lv_has ls 3 [(0, .ref (q 0))] := hl
  refine lv_aload_n hx hb dX3_passMinute_0 rfl (lv_at hl 0 rfl) ?_
  refine va_get (D := D) (ci := 3) (v := .int (S.1 4)) (C := RX3) (T := TX3) (N := 15) hx hb hts inX3 hown hK hP 0 rfl rfl 4 (by decide) (hts (.fieldLink RX3 49 "PumpOaths$Station" "time" "I") (List.mem_of_getElem? (i := 1) rfl)) (fun _ h9 => h9) rfl dX3_passMinute_1 ?_
  refine lv_sipush (v := 1440) hx hb dX3_passMinute_4 (by decide) ?_
  refine lv_irem hx hb dX3_passMinute_7 (by decide) ?_
  refine lv_istore_n (lv' := [(1, .int ((S.1 4) - (S.1 4) / 1440 * 1440)), (0, .ref (q 0))]) hx hb dX3_passMinute_8 rfl hl (by decide) rfl (fun ls hl => ?_)
  have J_24_0 : ∀ (H : Heap) (locs : List Loc) (ls : Array Slot), va_P D vwCl (stW q cI cJ (s_m1 S)) H → va_D A9 (stW q cI cJ (s_m1 S)) → va_S A9 s9.heap H locs → lv_has ls 3 [(0, .ref (q 0)), (1, .int ((S.1 4) - (S.1 4) / 1440 * 1440))] → W p9 l e9 ({ frames := 3, cells := 0, slots := 0, locals := 84 } : Room) s9 m9 (List.toArray [.ref (q 0)]) below meth c9 H locs 0 0 (MQ below (va_Qi (fun r (_ : Unit) => r = (s_minR S n)) (fun _ t9 => va_P D vwCl (stW q cI cJ (s_min S n)) t9.heap) A9) (List.toArray [.ref (q 0)]) s9 0 0 A9) (F0 m9 24 ls [])  := by
    intro H locs ls hP hD hS hl
    obtain ⟨T_2, hT_2⟩ : ∃ T9, T9 = s_m1 S := ⟨_, rfl⟩
    rw [← hT_2] at hP hD
    have J_41_2 : ∀ (H : Heap) (locs : List Loc) (ls : Array Slot), va_P D vwCl (stW q cI cJ (s_pre S n)) H → va_D A9 (stW q cI cJ (s_pre S n)) → va_S A9 s9.heap H locs → lv_has ls 3 [(0, .ref (q 0)), (1, .int ((S.1 4) - (S.1 4) / 1440 * 1440))] → W p9 l e9 ({ frames := 3, cells := 0, slots := 0, locals := 84 } : Room) s9 m9 (List.toArray [.ref (q 0)]) below meth c9 H locs 0 0 (MQ below (va_Qi (fun r (_ : Unit) => r = (s_minR S n)) (fun _ t9 => va_P D vwCl (stW q cI cJ (s_min S n)) t9.heap) A9) (List.toArray [.ref (q 0)]) s9 0 0 A9) (F0 m9 41 ls [])  := by
      intro H locs ls hP hD hS hl
      obtain ⟨T_4, hT_4⟩ : ∃ T9, T9 = s_pre S n := ⟨_, rfl⟩
      rw [← hT_4] at hP hD
      refine lv_aload_n hx hb dX3_passMinute_41 rfl (lv_at hl 0 rfl) ?_
      refine k_calli (a := []) (z := []) (wc := stW q cI cJ T_4) (wc' := stW q cI cJ (s_swS T_4 n)) (w' := stW q cI cJ (s_swS T_4 n)) (va_runV (As := []) (rest := []) ⟨hx, hb, hml, hown, hts⟩ (c_X3_switchPumps l D q cI cJ T_4 n (by subst hT_4 hT_2; exact (s_pre_8 S n).trans hn) hn6 _) (cwV 0 hts gX3_passMinute_X3_switchPumps rfl rfl rfl (by decide +kernel) ⟨Nat.le_of_ble_eq_true rfl, Nat.le_of_ble_eq_true rfl⟩) ⟨kB_blind, va_recv hK hP (ci := 3) (q0 := 0) rfl rfl, k_pre (a := []) (z := []) (k_w0 _) hK hP hD⟩ rfl rfl hl.1 rfl (lv_room (Nat.le_of_ble_eq_true rfl)) dX3_passMinute_42 ⟨Nat.zero_le _, Nat.zero_le _⟩) (k_w0 _) (k_w0 _) (stW_ad _ _ _ _ _) hP hD hS hA (fun H locs hP hD hS => ?_)
      obtain ⟨T_5, hT_5⟩ : ∃ T9, T9 = s_swS T_4 n := ⟨_, rfl⟩
      rw [← hT_5] at hP hD
      refine lv_istore_n (lv' := [(2, .int (s_sw T_4 n)), (0, .ref (q 0)), (1, .int ((S.1 4) - (S.1 4) / 1440 * 1440))]) hx hb dX3_passMinute_45 rfl hl (by decide) rfl (fun ls hl => ?_)
      refine lv_aload_n hx hb dX3_passMinute_46 rfl (lv_at hl 1 rfl) ?_
      refine k_callv (a := []) (z := []) (wc := stW q cI cJ T_5) (wc' := stW q cI cJ (s_move T_5 n)) (w' := stW q cI cJ (s_move T_5 n)) (va_runV (As := []) (rest := []) ⟨hx, hb, hml, hown, hts⟩ (c_X3_moveWater l D q cI cJ T_5 n (by subst hT_5 hT_4 hT_2; exact ((s_swS_8 _ _).trans (s_pre_8 S n)).trans hn) hn6 _) (cwV 0 hts gX3_passMinute_X3_moveWater rfl rfl rfl (by decide +kernel) ⟨Nat.le_of_ble_eq_true rfl, Nat.le_of_ble_eq_true rfl⟩) ⟨kB_blind, va_recv hK hP (ci := 3) (q0 := 0) rfl rfl, k_pre (a := []) (z := []) (k_w0 _) hK hP hD⟩ rfl rfl hl.1 rfl (lv_room (Nat.le_of_ble_eq_true rfl)) dX3_passMinute_47 ⟨Nat.zero_le _, Nat.zero_le _⟩) (k_w0 _) (k_w0 _) (stW_ad _ _ _ _ _) hP hD hS hA (fun H locs hP hD hS => ?_)
      obtain ⟨T_6, hT_6⟩ : ∃ T9, T9 = s_move T_5 n := ⟨_, rfl⟩
      rw [← hT_6] at hP hD
      have J_71_6 : ∀ (H : Heap) (locs : List Loc) (ls : Array Slot), va_P D vwCl (stW q cI cJ (s_m3 (s_mid S n))) H → va_D A9 (stW q cI cJ (s_m3 (s_mid S n))) → va_S A9 s9.heap H locs → lv_has ls 3 [(0, .ref (q 0)), (1, .int ((S.1 4) - (S.1 4) / 1440 * 1440)), (2, .int (s_sw T_4 n))] → W p9 l e9 ({ frames := 3, cells := 0, slots := 0, locals := 84 } : Room) s9 m9 (List.toArray [.ref (q 0)]) below meth c9 H locs 0 0 (MQ below (va_Qi (fun r (_ : Unit) => r = (s_minR S n)) (fun _ t9 => va_P D vwCl (stW q cI cJ (s_min S n)) t9.heap) A9) (List.toArray [.ref (q 0)]) s9 0 0 A9) (F0 m9 71 ls [])  := by
        intro H locs ls hP hD hS hl
        obtain ⟨T_8, hT_8⟩ : ∃ T9, T9 = s_m3 (s_mid S n) := ⟨_, rfl⟩
        rw [← hT_8] at hP hD
        have J_111_8 : ∀ (H : Heap) (locs : List Loc) (ls : Array Slot), va_P D vwCl (stW q cI cJ (s_m4 (s_day S) (s_m3 (s_mid S n)))) H → va_D A9 (stW q cI cJ (s_m4 (s_day S) (s_m3 (s_mid S n)))) → va_S A9 s9.heap H locs → lv_has ls 3 [(0, .ref (q 0)), (1, .int ((S.1 4) - (S.1 4) / 1440 * 1440)), (2, .int (s_sw T_4 n))] → W p9 l e9 ({ frames := 3, cells := 0, slots := 0, locals := 84 } : Room) s9 m9 (List.toArray [.ref (q 0)]) below meth c9 H locs 0 0 (MQ below (va_Qi (fun r (_ : Unit) => r = (s_minR S n)) (fun _ t9 => va_P D vwCl (stW q cI cJ (s_min S n)) t9.heap) A9) (List.toArray [.ref (q 0)]) s9 0 0 A9) (F0 m9 111 ls [])  := by
          intro H locs ls hP hD hS hl
          obtain ⟨T_10, hT_10⟩ : ∃ T9, T9 = s_m4 (s_day S) (s_m3 (s_mid S n)) := ⟨_, rfl⟩
          rw [← hT_10] at hP hD
          refine lv_aload_n hx hb dX3_passMinute_111 rfl (lv_at hl 0 rfl) ?_
          refine lv_dup hx hb dX3_passMinute_112 rfl ?_
          refine va_get (D := D) (ci := 3) (v := .int (T_10.1 4)) (C := RX3) (T := TX3) (N := 15) hx hb hts inX3 hown hK hP 0 rfl rfl 4 (by decide) (hts (.fieldLink RX3 49 "PumpOaths$Station" "time" "I") (List.mem_of_getElem? (i := 1) rfl)) (fun _ h9 => h9) rfl dX3_passMinute_113 ?_
          refine lv_iconst (v := 1) hx hb dX3_passMinute_116 (by decide) ?_
          refine lv_iadd hx hb dX3_passMinute_117 ?_
          refine va_put (D := D) (ci := 3) (v := .int ((T_10.1 4) + 1)) (ty := .int) (C := RX3) (T := TX3) (N := 15) hx hb hts inX3 tyX3 tyX3_ok nmX3 hown hK hP hD hS 0 rfl rfl 4 (by decide) (hts (.fieldLink RX3 49 "PumpOaths$Station" "time" "I") (List.mem_of_getElem? (i := 1) rfl)) (fun _ h9 => h9) rfl (by decide +kernel) rfl rfl (Nat.le_of_ble_eq_true rfl) dX3_passMinute_118 (fun H locs hP hD hS => ?_)
          have hP : va_P D vwCl (stW q cI cJ (setI T_10 4 ((T_10.1 4) + 1))) H := hP
          have hD : va_D A9 (stW q cI cJ (setI T_10 4 ((T_10.1 4) + 1))) := hD
          refine lv_iload_n hx hb dX3_passMinute_121 rfl (lv_at hl 2 rfl) ?_
          exact k_iret hx hb hr hlk hP hS dX3_passMinute_122 rfl (by subst hT_10 hT_8 hT_6 hT_5 hT_4 hT_2; first | rfl | (simp only []; done) | (simp []; done)) (k_P (by subst hT_10 hT_8 hT_6 hT_5 hT_4 hT_2; rfl))
        refine lv_iload_n hx hb dX3_passMinute_71 rfl (lv_at hl 1 rfl) ?_
        refine lv_sipush (v := 359) hx hb dX3_passMinute_72 (by decide) ?_
        refine lv_icmp_ne (tgt := 111) hx hb dX3_passMinute_75 (by decide) (fun c_75_10 => ?_) (fun c_75_10 => ?_)
        · have c_75_10 : ¬ ((S.1 4) - (S.1 4) / 1440 * 1440) = 359 := c_75_10
          have hs0 : T_8 = (s_m4 (s_day S) (s_m3 (s_mid S n))) := by subst hT_8 hT_6 hT_5 hT_4 hT_2; first | (simp only [s_m4, s_day, c_75_10]; done) | (simp [s_m4, s_day, c_75_10]; done) | rfl
          have hw9 : (stW q cI cJ T_8) = (stW q cI cJ (s_m4 (s_day S) (s_m3 (s_mid S n)))) := congrArg (fun T9 => stW q cI cJ T9) hs0
          exact J_111_8 _ _ _ (k_P hw9 hP) (hw9 ▸ hD) hS (lv_sub hl [0, 1, 2] rfl)
        · have c_75_10 : ((S.1 4) - (S.1 4) / 1440 * 1440) = 359 := c_75_10
          refine lv_aload_n hx hb dX3_passMinute_78 rfl (lv_at hl 0 rfl) ?_
          refine va_get (D := D) (ci := 3) (v := .int (T_8.1 4)) (C := RX3) (T := TX3) (N := 15) hx hb hts inX3 hown hK hP 0 rfl rfl 4 (by decide) (hts (.fieldLink RX3 49 "PumpOaths$Station" "time" "I") (List.mem_of_getElem? (i := 1) rfl)) (fun _ h9 => h9) rfl dX3_passMinute_79 ?_
          refine lv_sipush (v := 1440) hx hb dX3_passMinute_82 (by decide) ?_
          refine lv_icmp_le (tgt := 111) hx hb dX3_passMinute_85 (by decide) (fun c_85_11 => ?_) (fun c_85_11 => ?_)
          · have c_85_11 : (T_8.1 4) ≤ 1440 := c_85_11
            have hs0 : T_8 = (s_m4 (s_day S) (s_m3 (s_mid S n))) := by subst hT_8 hT_6 hT_5 hT_4 hT_2; first | (simp only [s_m4, s_day, c_75_10, c_85_11]; done) | (simp [s_m4, s_day, c_75_10, c_85_11]; done) | rfl
            have hw9 : (stW q cI cJ T_8) = (stW q cI cJ (s_m4 (s_day S) (s_m3 (s_mid S n)))) := congrArg (fun T9 => stW q cI cJ T9) hs0
            exact J_111_8 _ _ _ (k_P hw9 hP) (hw9 ▸ hD) hS (lv_sub hl [0, 1, 2] rfl)
          · have c_85_11 : ¬ (T_8.1 4) ≤ 1440 := c_85_11
            refine lv_aload_n hx hb dX3_passMinute_88 rfl (lv_at hl 0 rfl) ?_
            refine lv_aload_n hx hb dX3_passMinute_89 rfl (lv_at hl 0 rfl) ?_
            refine k_calll (a := []) (z := []) (wc := stW q cI cJ T_8) (wc' := stW q cI cJ T_8) (w' := stW q cI cJ T_8) (va_runV (As := []) (rest := [.ref (q 0)]) ⟨hx, hb, hml, hown, hts⟩ (c_X3_balance l D q cI cJ T_8  _) (cwV 0 hts gX3_passMinute_X3_balance rfl rfl rfl (by decide +kernel) ⟨Nat.le_of_ble_eq_true rfl, Nat.le_of_ble_eq_true rfl⟩) ⟨kB_blind, va_recv hK hP (ci := 3) (q0 := 0) rfl rfl, k_pre (a := []) (z := []) (k_w0 _) hK hP hD⟩ rfl rfl hl.1 rfl (lv_room (Nat.le_of_ble_eq_true rfl)) dX3_passMinute_90 ⟨Nat.zero_le _, Nat.zero_le _⟩) (k_w0 _) (k_w0 _) (stW_ad _ _ _ _ _) hP hD hS hA (fun H locs hP hD hS => ?_)
            refine lv_aload_n hx hb dX3_passMinute_93 rfl (lv_at hl 0 rfl) ?_
            refine va_get (D := D) (ci := 3) (v := .long (T_8.2.1 0)) (C := RX3) (T := TX3) (N := 15) hx hb hts inX3 hown hK hP 0 rfl rfl 8 (by decide) (hts (.fieldLink RX3 61 "PumpOaths$Station" "balanceAtDusk" "J") (List.mem_of_getElem? (i := 2) rfl)) (fun _ h9 => h9) rfl dX3_passMinute_94 ?_
            refine lv_lsub hx hb dX3_passMinute_97 ?_
            refine va_put (D := D) (ci := 3) (v := .long ((s_bal T_8) - (T_8.2.1 0))) (ty := .long) (C := RX3) (T := TX3) (N := 15) hx hb hts inX3 tyX3 tyX3_ok nmX3 hown hK hP hD hS 0 rfl rfl 9 (by decide) (hts (.fieldLink RX3 65 "PumpOaths$Station" "measuredLeak" "J") (List.mem_of_getElem? (i := 7) rfl)) (fun _ h9 => h9) rfl (by decide +kernel) rfl rfl (Nat.le_of_ble_eq_true rfl) dX3_passMinute_98 (fun H locs hP hD hS => ?_)
            have hP : va_P D vwCl (stW q cI cJ (setL T_8 1 ((s_bal T_8) - (T_8.2.1 0)))) H := hP
            have hD : va_D A9 (stW q cI cJ (setL T_8 1 ((s_bal T_8) - (T_8.2.1 0)))) := hD
            refine lv_aload_n hx hb dX3_passMinute_101 rfl (lv_at hl 0 rfl) ?_
            refine lv_dup hx hb dX3_passMinute_102 rfl ?_
            refine va_get (D := D) (ci := 3) (v := .int (T_8.1 7)) (C := RX3) (T := TX3) (N := 15) hx hb hts inX3 hown hK hP 0 rfl rfl 7 (by decide) (hts (.fieldLink RX3 58 "PumpOaths$Station" "nights" "I") (List.mem_of_getElem? (i := 8) rfl)) (fun _ h9 => h9) rfl dX3_passMinute_103 ?_
            refine lv_iconst (v := 1) hx hb dX3_passMinute_106 (by decide) ?_
            refine lv_iadd hx hb dX3_passMinute_107 ?_
            refine va_put (D := D) (ci := 3) (v := .int ((T_8.1 7) + 1)) (ty := .int) (C := RX3) (T := TX3) (N := 15) hx hb hts inX3 tyX3 tyX3_ok nmX3 hown hK hP hD hS 0 rfl rfl 7 (by decide) (hts (.fieldLink RX3 58 "PumpOaths$Station" "nights" "I") (List.mem_of_getElem? (i := 8) rfl)) (fun _ h9 => h9) rfl (by decide +kernel) rfl rfl (Nat.le_of_ble_eq_true rfl) dX3_passMinute_108 (fun H locs hP hD hS => ?_)
            have hP : va_P D vwCl (stW q cI cJ (setI (setL T_8 1 ((s_bal T_8) - (T_8.2.1 0))) 7 ((T_8.1 7) + 1))) H := hP
            have hD : va_D A9 (stW q cI cJ (setI (setL T_8 1 ((s_bal T_8) - (T_8.2.1 0))) 7 ((T_8.1 7) + 1))) := hD
            have hs0 : (setI (setL T_8 1 ((s_bal T_8) - (T_8.2.1 0))) 7 ((T_8.1 7) + 1)) = (s_m4 (s_day S) (s_m3 (s_mid S n))) := by subst hT_8 hT_6 hT_5 hT_4 hT_2; first | (simp only [s_m4, s_day, c_75_10, c_85_11]; done) | (simp [s_m4, s_day, c_75_10, c_85_11]; done) | rfl
            have hw9 : (stW q cI cJ (setI (setL T_8 1 ((s_bal T_8) - (T_8.2.1 0))) 7 ((T_8.1 7) + 1))) = (stW q cI cJ (s_m4 (s_day S) (s_m3 (s_mid S n)))) := congrArg (fun T9 => stW q cI cJ T9) hs0
            exact J_111_8 _ _ _ (k_P hw9 hP) (hw9 ▸ hD) hS (lv_sub hl [0, 1, 2] rfl)
      refine lv_aload_n hx hb dX3_passMinute_50 rfl (lv_at hl 1 rfl) ?_
      refine va_get (D := D) (ci := 3) (v := .int (T_6.1 1)) (C := RX3) (T := TX3) (N := 15) hx hb hts inX3 hown hK hP 0 rfl rfl 1 (by decide) (hts (.fieldLink RX3 15 "PumpOaths$Station" "level" "I") (List.mem_of_getElem? (i := 4) rfl)) (fun _ h9 => h9) rfl dX3_passMinute_51 ?_
      refine lv_aload_n hx hb dX3_passMinute_54 rfl (lv_at hl 1 rfl) ?_
      refine va_get (D := D) (ci := 3) (v := .int (T_6.1 2)) (C := RX3) (T := TX3) (N := 15) hx hb hts inX3 hown hK hP 0 rfl rfl 2 (by decide) (hts (.fieldLink RX3 18 "PumpOaths$Station" "low" "I") (List.mem_of_getElem? (i := 5) rfl)) (fun _ h9 => h9) rfl dX3_passMinute_55 ?_
      refine lv_icmp_ge (tgt := 71) hx hb dX3_passMinute_58 (by decide) (fun c_58_12 => ?_) (fun c_58_12 => ?_)
      · have c_58_12 : (T_6.1 2) ≤ (T_6.1 1) := c_58_12
        have hs0 : T_6 = (s_m3 (s_mid S n)) := by subst hT_6 hT_5 hT_4 hT_2; first | (simp only [s_m3, s_mid, c_58_12]; done) | (simp [s_m3, s_mid, c_58_12]; done) | rfl
        have hw9 : (stW q cI cJ T_6) = (stW q cI cJ (s_m3 (s_mid S n))) := congrArg (fun T9 => stW q cI cJ T9) hs0
        exact J_71_6 _ _ _ (k_P hw9 hP) (hw9 ▸ hD) hS (lv_sub hl [1, 2, 0] rfl)
      · have c_58_12 : ¬ (T_6.1 2) ≤ (T_6.1 1) := c_58_12
        refine lv_aload_n hx hb dX3_passMinute_61 rfl (lv_at hl 1 rfl) ?_
        refine lv_dup hx hb dX3_passMinute_62 rfl ?_
        refine va_get (D := D) (ci := 3) (v := .int (T_6.1 6)) (C := RX3) (T := TX3) (N := 15) hx hb hts inX3 hown hK hP 0 rfl rfl 6 (by decide) (hts (.fieldLink RX3 55 "PumpOaths$Station" "minutesBelow" "I") (List.mem_of_getElem? (i := 6) rfl)) (fun _ h9 => h9) rfl dX3_passMinute_63 ?_
        refine lv_iconst (v := 1) hx hb dX3_passMinute_66 (by decide) ?_
        refine lv_iadd hx hb dX3_passMinute_67 ?_
        refine va_put (D := D) (ci := 3) (v := .int ((T_6.1 6) + 1)) (ty := .int) (C := RX3) (T := TX3) (N := 15) hx hb hts inX3 tyX3 tyX3_ok nmX3 hown hK hP hD hS 0 rfl rfl 6 (by decide) (hts (.fieldLink RX3 55 "PumpOaths$Station" "minutesBelow" "I") (List.mem_of_getElem? (i := 6) rfl)) (fun _ h9 => h9) rfl (by decide +kernel) rfl rfl (Nat.le_of_ble_eq_true rfl) dX3_passMinute_68 (fun H locs hP hD hS => ?_)
        have hP : va_P D vwCl (stW q cI cJ (setI T_6 6 ((T_6.1 6) + 1))) H := hP
        have hD : va_D A9 (stW q cI cJ (setI T_6 6 ((T_6.1 6) + 1))) := hD
        have hs0 : (setI T_6 6 ((T_6.1 6) + 1)) = (s_m3 (s_mid S n)) := by subst hT_6 hT_5 hT_4 hT_2; first | (simp only [s_m3, s_mid, c_58_12]; done) | (simp [s_m3, s_mid, c_58_12]; done) | rfl
        have hw9 : (stW q cI cJ (setI T_6 6 ((T_6.1 6) + 1))) = (stW q cI cJ (s_m3 (s_mid S n))) := congrArg (fun T9 => stW q cI cJ T9) hs0
        exact J_71_6 _ _ _ (k_P hw9 hP) (hw9 ▸ hD) hS (lv_sub hl [1, 2, 0] rfl)
    refine lv_aload_n hx hb dX3_passMinute_24 rfl (lv_at hl 0 rfl) ?_
    refine va_get (D := D) (ci := 3) (v := .int (T_2.1 4)) (C := RX3) (T := TX3) (N := 15) hx hb hts inX3 hown hK hP 0 rfl rfl 4 (by decide) (hts (.fieldLink RX3 49 "PumpOaths$Station" "time" "I") (List.mem_of_getElem? (i := 1) rfl)) (fun _ h9 => h9) rfl dX3_passMinute_25 ?_
    refine lv_bipush (v := 60) hx hb dX3_passMinute_28 (by decide) ?_
    refine lv_irem hx hb dX3_passMinute_30 (by decide) ?_
    refine lv_if_ne (tgt := 41) hx hb dX3_passMinute_31 (by decide) (fun c_31_13 => ?_) (fun c_31_13 => ?_)
    · have c_31_13 : ¬ ((T_2.1 4) - (T_2.1 4) / 60 * 60) = 0 := c_31_13
      have hs0 : T_2 = (s_pre S n) := by subst hT_2; first | (simp only [s_pre, s_m2, c_31_13]; done) | (simp [s_pre, s_m2, c_31_13]; done) | rfl
      have hw9 : (stW q cI cJ T_2) = (stW q cI cJ (s_pre S n)) := congrArg (fun T9 => stW q cI cJ T9) hs0
      exact J_41_2 _ _ _ (k_P hw9 hP) (hw9 ▸ hD) hS (lv_sub hl [0, 1] rfl)
    · have c_31_13 : ((T_2.1 4) - (T_2.1 4) / 60 * 60) = 0 := c_31_13
      refine lv_aload_n hx hb dX3_passMinute_34 rfl (lv_at hl 0 rfl) ?_
      refine va_get (D := D) (ci := 3) (v := .ref (q 4)) (C := RX3) (T := TX3) (N := 15) hx hb hts inX3 hown hK hP 0 rfl rfl 13 (by decide) (hts (.fieldLink RX3 38 "PumpOaths$Station" "pumps" "LPumpOaths$Pumps;") (List.mem_of_getElem? (i := 3) rfl)) (fun _ h9 => h9) rfl dX3_passMinute_35 ?_
      refine k_callv (a := []) (z := []) (wc := stW q cI cJ T_2) (wc' := stW q cI cJ (p_hour T_2 n)) (w' := stW q cI cJ (p_hour T_2 n)) (va_runV (As := []) (rest := []) ⟨hx, hb, hml, hown, hts⟩ (c_X2_beginHour l D q cI cJ T_2 n (by subst hT_2; exact (s_m1_8 S).trans hn) hn6 _) (cwV 0 hts gX3_passMinute_X2_beginHour rfl rfl rfl (by decide +kernel) ⟨Nat.le_of_ble_eq_true rfl, Nat.le_of_ble_eq_true rfl⟩) ⟨kB_blind, va_recv hK hP (ci := 2) (q0 := 4) rfl rfl, k_pre (a := []) (z := []) (k_w0 _) hK hP hD⟩ rfl rfl hl.1 rfl (lv_room (Nat.le_of_ble_eq_true rfl)) dX3_passMinute_38 ⟨Nat.zero_le _, Nat.zero_le _⟩) (k_w0 _) (k_w0 _) (stW_ad _ _ _ _ _) hP hD hS hA (fun H locs hP hD hS => ?_)
      obtain ⟨T_15, hT_15⟩ : ∃ T9, T9 = p_hour T_2 n := ⟨_, rfl⟩
      rw [← hT_15] at hP hD
      have hs0 : T_15 = (s_pre S n) := by subst hT_15 hT_2; first | (simp only [s_pre, s_m2, c_31_13]; done) | (simp [s_pre, s_m2, c_31_13]; done) | rfl
      have hw9 : (stW q cI cJ T_15) = (stW q cI cJ (s_pre S n)) := congrArg (fun T9 => stW q cI cJ T9) hs0
      exact J_41_2 _ _ _ (k_P hw9 hP) (hw9 ▸ hD) hS (lv_sub hl [0, 1] rfl)
  refine lv_iload_n hx hb dX3_passMinute_9 rfl (lv_at hl 0 rfl) ?_
  refine lv_sipush (v := 1320) hx hb dX3_passMinute_10 (by decide) ?_
  refine lv_icmp_ne (tgt := 24) hx hb dX3_passMinute_13 (by decide) (fun c_13_15 => ?_) (fun c_13_15 => ?_)
  · have c_13_15 : ¬ ((S.1 4) - (S.1 4) / 1440 * 1440) = 1320 := c_13_15
    have hs0 : S = (s_m1 S) := by first | (simp only [s_m1, s_day, c_13_15]; done) | (simp [s_m1, s_day, c_13_15]; done) | rfl
    have hw9 : (stW q cI cJ S) = (stW q cI cJ (s_m1 S)) := congrArg (fun T9 => stW q cI cJ T9) hs0
    exact J_24_0 _ _ _ (k_P hw9 hP) (hw9 ▸ hD) hS (lv_sub hl [1, 0] rfl)
  · have c_13_15 : ((S.1 4) - (S.1 4) / 1440 * 1440) = 1320 := c_13_15
    refine lv_aload_n hx hb dX3_passMinute_16 rfl (lv_at hl 1 rfl) ?_
    refine lv_aload_n hx hb dX3_passMinute_17 rfl (lv_at hl 1 rfl) ?_
    refine k_calll (a := []) (z := []) (wc := stW q cI cJ S) (wc' := stW q cI cJ S) (w' := stW q cI cJ S) (va_runV (As := []) (rest := [.ref (q 0)]) ⟨hx, hb, hml, hown, hts⟩ (c_X3_balance l D q cI cJ S  _) (cwV 0 hts gX3_passMinute_X3_balance rfl rfl rfl (by decide +kernel) ⟨Nat.le_of_ble_eq_true rfl, Nat.le_of_ble_eq_true rfl⟩) ⟨kB_blind, va_recv hK hP (ci := 3) (q0 := 0) rfl rfl, k_pre (a := []) (z := []) (k_w0 _) hK hP hD⟩ rfl rfl hl.1 rfl (lv_room (Nat.le_of_ble_eq_true rfl)) dX3_passMinute_18 ⟨Nat.zero_le _, Nat.zero_le _⟩) (k_w0 _) (k_w0 _) (stW_ad _ _ _ _ _) hP hD hS hA (fun H locs hP hD hS => ?_)
    refine va_put (D := D) (ci := 3) (v := .long (s_bal S)) (ty := .long) (C := RX3) (T := TX3) (N := 15) hx hb hts inX3 tyX3 tyX3_ok nmX3 hown hK hP hD hS 0 rfl rfl 8 (by decide) (hts (.fieldLink RX3 61 "PumpOaths$Station" "balanceAtDusk" "J") (List.mem_of_getElem? (i := 2) rfl)) (fun _ h9 => h9) rfl (by decide +kernel) rfl rfl (Nat.le_of_ble_eq_true rfl) dX3_passMinute_21 (fun H locs hP hD hS => ?_)
    have hP : va_P D vwCl (stW q cI cJ (setL S 0 (s_bal S))) H := hP
    have hD : va_D A9 (stW q cI cJ (setL S 0 (s_bal S))) := hD
    have hs0 : (setL S 0 (s_bal S)) = (s_m1 S) := by first | (simp only [s_m1, s_day, c_13_15]; done) | (simp [s_m1, s_day, c_13_15]; done) | rfl
    have hw9 : (stW q cI cJ (setL S 0 (s_bal S))) = (stW q cI cJ (s_m1 S)) := congrArg (fun T9 => stW q cI cJ T9) hs0
    exact J_24_0 _ _ _ (k_P hw9 hP) (hw9 ▸ hD) hS (lv_sub hl [1, 0] rfl)

set_option maxHeartbeats 1000000 in
set_option maxRecDepth 100000 in
theorem c_X3_letPass (l : Launch) (D : va_G) (q : Nat → Nat) (cI cJ : ClassId) (S : SS) (w : Int32) (n : Nat) (hn : S.1 8 = nI n) (hn6 : n ≤ 6) : kV l yX3_letPass wsX3_letPass ({ frames := 4, cells := 0, slots := 0, locals := 106 } : Room) D [(cI, .int), (cJ, .long)] [.ref (q 0), .int w] (stW q cI cJ S) (stW q cI cJ (s_pass S n w.toNatClampNeg)) := by
  refine kBody.met (cc := cX3_letPass) (maxL := 3) (ret := none) (by decide) rfl (Nat.le_of_ble_eq_true rfl) ?_
  intro p9 e9 s9 m9 below meth c9 A9 ls hx hb hr hml hts hown hlk hK hP hD hA hl
  have hown : s9.vm.findClass RX3 = some m9.cls := hown
  have inX0 : ∀ w ∈ wsX00, w ∈ wsX3_letPass := fun w h => List.mem_cons_of_mem _ (List.mem_append_right _ (h))
  have inX2 : ∀ w ∈ wsX20, w ∈ wsX3_letPass := fun w h => List.mem_cons_of_mem _ (List.mem_append_left _ (List.mem_append_right _ (h)))
  have inX3 : ∀ w ∈ wsX30, w ∈ wsX3_letPass := fun w h => List.mem_cons_of_mem _ (List.mem_append_left _ (List.mem_append_left _ (List.mem_append_right _ (h))))
  have hS : va_S A9 s9.heap s9.heap [] := va_S.rf
  have hl : lv_has ls 3 [(0, .ref (q 0)), (1, .int w)] := hl
  refine lv_iconst (v := 0) hx hb dX3_letPass_0 (by decide) ?_
  refine lv_istore_n (lv' := [(2, .int 0), (0, .ref (q 0)), (1, .int w)]) hx hb dX3_letPass_1 rfl hl (by decide) rfl (fun ls hl => ?_)
  have L_2_0 : ∀ (d : Nat) (k : Nat) (T : SS), w.toNatClampNeg < k + d → k ≤ w.toNatClampNeg → ∀  (e2 : itr (s_go n) k S = T) (hT : T.1 8 = nI n) (H : Heap) (locs : List Loc) (ls : Array Slot), va_P D vwCl (stW q cI cJ T) H → va_D A9 (stW q cI cJ T) → va_S A9 s9.heap H locs → lv_has ls 3 [(0, .ref (q 0)), (1, .int w), (2, .int (nI k))] → W p9 l e9 ({ frames := 4, cells := 0, slots := 0, locals := 106 } : Room) s9 m9 (List.toArray [.ref (q 0), .int w]) below meth c9 H locs 0 0 (MQ below (va_Qv (fun (_ : Unit) => True) (fun _ t9 => va_P D vwCl (stW q cI cJ (s_pass S n w.toNatClampNeg)) t9.heap) A9) (List.toArray [.ref (q 0), .int w]) s9 0 0 A9) (F0 m9 2 ls []) := by
    intro d
    induction d with
    | zero =>
      intro k T hf
      intro hkn; exact absurd hf (by omega)
    | succ d ih_2 =>
      intro k T hf_2 hkn_2 e2 hT H locs ls hP hD hS hl
      refine lv_iload_n hx hb dX3_letPass_2 rfl (lv_at hl 2 rfl) ?_
      refine lv_iload_n hx hb dX3_letPass_3 rfl (lv_at hl 1 rfl) ?_
      refine lv_icmp_ge (tgt := 18) hx hb dX3_letPass_4 (by decide) (fun c_4_1 => ?_) (fun c_4_1 => ?_)
      · have c_4_1 : w ≤ (nI k) := c_4_1
        have hke_2 : w.toNatClampNeg = k := (k_exit c_4_1 hkn_2).symm
        subst hke_2
        exact k_vret hx hb hr hlk hP hS dX3_letPass_18 (k_P (by rw [s_pass, e2]))
      · have c_4_1 : ¬ w ≤ (nI k) := c_4_1
        have hkl_2 : k < w.toNatClampNeg := k_body c_4_1 hkn_2
        refine lv_aload_n hx hb dX3_letPass_7 rfl (lv_at hl 0 rfl) ?_
        refine k_calli (a := []) (z := []) (wc := stW q cI cJ T) (wc' := stW q cI cJ (s_min T n)) (w' := stW q cI cJ (s_min T n)) (va_runV (As := []) (rest := []) ⟨hx, hb, hml, hown, hts⟩ (c_X3_passMinute l D q cI cJ T n hT hn6 _) (cwV 0 hts gX3_letPass_X3_passMinute rfl rfl rfl (by decide +kernel) ⟨Nat.le_of_ble_eq_true rfl, Nat.le_of_ble_eq_true rfl⟩) ⟨kB_blind, va_recv hK hP (ci := 3) (q0 := 0) rfl rfl, k_pre (a := []) (z := []) (k_w0 _) hK hP hD⟩ rfl rfl hl.1 rfl (lv_room (Nat.le_of_ble_eq_true rfl)) dX3_letPass_8 ⟨Nat.zero_le _, Nat.zero_le _⟩) (k_w0 _) (k_w0 _) (stW_ad _ _ _ _ _) hP hD hS hA (fun H locs hP hD hS => ?_)
        refine lv_pop hx hb dX3_letPass_11 rfl ?_
        refine lv_iinc (v := (nI k) + 1) (lv' := [(2, .int ((nI k) + 1)), (0, .ref (q 0)), (1, .int w)]) hx hb dX3_letPass_12 hl (k := 2) rfl rfl (by decide) rfl (fun ls hl => ?_)
        refine lv_goto (tgt := 2) hx hb dX3_letPass_15 (by decide) ?_
        rw [show ((nI k) + 1) = (nI (k + 1)) from nI_1 _] at hl
        exact ih_2 (k + 1) (s_min T n) (by omega) (by omega) (by rw [itr_s, e2]; simp [s_go, c_4_1]) ((s_min_8 _ _).trans hT) _ _ _ hP hD hS (lv_sub hl [1, 2, 0] rfl)
  exact L_2_0 (w.toNatClampNeg + 1) 0 S (by omega) (by omega) (rfl) (hn) _ _ _ hP hD hS (lv_sub hl [1, 2, 0] rfl)

set_option maxHeartbeats 1000000 in
set_option maxRecDepth 100000 in
theorem c_X3_digestOnto (l : Launch) (D : va_G) (q : Nat → Nat) (cI cJ : ClassId) (S : SS) (h : Int64) (n : Nat) (hn : S.1 8 = nI n) (hn6 : n ≤ 6) (mm : Nat) (hm : S.1 9 = nI mm) (hm12 : mm ≤ 12) : kL l yX3_digestOnto wsX3_digestOnto ({ frames := 3, cells := 0, slots := 0, locals := 69 } : Room) D [(cI, .int), (cJ, .long)] [.ref (q 0), .long h] (stW q cI cJ S) (s_dig S n mm h) (stW q cI cJ S) := by
  refine kBody.met (cc := cX3_digestOnto) (maxL := 6) (ret := (some .long)) (by decide) rfl (Nat.le_of_ble_eq_true rfl) ?_
  intro p9 e9 s9 m9 below meth c9 A9 ls hx hb hr hml hts hown hlk hK hP hD hA hl
  have hown : s9.vm.findClass RX3 = some m9.cls := hown
  have inX0 : ∀ w ∈ wsX00, w ∈ wsX3_digestOnto := fun w h => List.mem_cons_of_mem _ (List.mem_append_right _ (h))
  have inX2 : ∀ w ∈ wsX20, w ∈ wsX3_digestOnto := fun w h => List.mem_cons_of_mem _ (List.mem_append_left _ (List.mem_append_right _ (h)))
  have inX3 : ∀ w ∈ wsX30, w ∈ wsX3_digestOnto := fun w h => List.mem_cons_of_mem _ (List.mem_append_left _ (List.mem_append_left _ (List.mem_append_right _ (h))))
  have hS : va_S A9 s9.heap s9.heap [] := va_S.rf
  have hl : lv_has ls 6 [(0, .ref (q 0)), (1, .long h)] := hl
  refine lv_lload_n hx hb dX3_digestOnto_0 rfl (lv_at hl 1 rfl) ?_
  refine lv_lstore_n (lv' := [(3, .long h), (0, .ref (q 0)), (1, .long h)]) hx hb dX3_digestOnto_1 rfl hl (by decide) rfl (fun ls hl => ?_)
  refine lv_iconst (v := 0) hx hb dX3_digestOnto_2 (by decide) ?_
  refine lv_istore (lv' := [(5, .int 0), (3, .long h), (0, .ref (q 0)), (1, .long h)]) hx hb dX3_digestOnto_3 hl (by decide) rfl (fun ls hl => ?_)
  have L_5_0 : ∀ (d : Nat) (k : Nat) (x1 : Int64), 14 < k + d → k ≤ 14 → ∀  (e5 : itr (s_dgN S n) k h = x1) (H : Heap) (locs : List Loc) (ls : Array Slot), va_P D vwCl (stW q cI cJ S) H → va_D A9 (stW q cI cJ S) → va_S A9 s9.heap H locs → lv_has ls 6 [(0, .ref (q 0)), (1, .long h), (3, .long x1), (5, .int (nI k))] → W p9 l e9 ({ frames := 3, cells := 0, slots := 0, locals := 69 } : Room) s9 m9 (List.toArray [.ref (q 0), .long h]) below meth c9 H locs 0 0 (MQ below (va_Ql (fun r (_ : Unit) => r = (s_dig S n mm h)) (fun _ t9 => va_P D vwCl (stW q cI cJ S) t9.heap) A9) (List.toArray [.ref (q 0), .long h]) s9 0 0 A9) (F0 m9 5 ls []) := by
    intro d
    induction d with
    | zero =>
      intro k x1 hf
      intro hkn; exact absurd hf (by omega)
    | succ d ih_5 =>
      intro k x1 hf_5 hkn_5 e5 H locs ls hP hD hS hl
      refine lv_iload hx hb dX3_digestOnto_5 (lv_at hl 3 rfl) ?_
      refine lv_bipush (v := 14) hx hb dX3_digestOnto_7 (by decide) ?_
      refine lv_icmp_ge (tgt := 32) hx hb dX3_digestOnto_9 (by decide) (fun c_9_1 => ?_) (fun c_9_1 => ?_)
      · have c_9_1 : 14 ≤ (nI k) := c_9_1
        have hke_5 : 14 = k := (k_exitN c_9_1 rfl hkn_5 (by decide)).symm
        subst hke_5
        refine lv_iconst (v := 0) hx hb dX3_digestOnto_32 (by decide) ?_
        refine lv_istore (lv' := [(5, .int 0), (0, .ref (q 0)), (1, .long h), (3, .long x1)]) hx hb dX3_digestOnto_33 hl (by decide) rfl (fun ls hl => ?_)
        have L_35_2 : ∀ (d : Nat) (k : Nat) (x2 : Int64), 3 < k + d → k ≤ 3 → ∀  (e35 : itr (s_dgA S 0) k x1 = x2) (H : Heap) (locs : List Loc) (ls : Array Slot), va_P D vwCl (stW q cI cJ S) H → va_D A9 (stW q cI cJ S) → va_S A9 s9.heap H locs → lv_has ls 6 [(0, .ref (q 0)), (1, .long h), (3, .long x2), (5, .int (nI k))] → W p9 l e9 ({ frames := 3, cells := 0, slots := 0, locals := 69 } : Room) s9 m9 (List.toArray [.ref (q 0), .long h]) below meth c9 H locs 0 0 (MQ below (va_Ql (fun r (_ : Unit) => r = (s_dig S n mm h)) (fun _ t9 => va_P D vwCl (stW q cI cJ S) t9.heap) A9) (List.toArray [.ref (q 0), .long h]) s9 0 0 A9) (F0 m9 35 ls []) := by
          intro d
          induction d with
          | zero =>
            intro k x2 hf
            intro hkn; exact absurd hf (by omega)
          | succ d ih_35 =>
            intro k x2 hf_35 hkn_35 e35 H locs ls hP hD hS hl
            refine lv_iload hx hb dX3_digestOnto_35 (lv_at hl 3 rfl) ?_
            refine lv_iconst (v := 3) hx hb dX3_digestOnto_37 (by decide) ?_
            refine lv_icmp_ge (tgt := 62) hx hb dX3_digestOnto_38 (by decide) (fun c_38_3 => ?_) (fun c_38_3 => ?_)
            · have c_38_3 : 3 ≤ (nI k) := c_38_3
              have hke_35 : 3 = k := (k_exitN c_38_3 rfl hkn_35 (by decide)).symm
              subst hke_35
              refine lv_iconst (v := 0) hx hb dX3_digestOnto_62 (by decide) ?_
              refine lv_istore (lv' := [(5, .int 0), (0, .ref (q 0)), (1, .long h), (3, .long x2)]) hx hb dX3_digestOnto_63 hl (by decide) rfl (fun ls hl => ?_)
              have L_65_4 : ∀ (d : Nat) (k : Nat) (x3 : Int64), 24 < k + d → k ≤ 24 → ∀  (e65 : itr (s_dgA S 1) k x2 = x3) (H : Heap) (locs : List Loc) (ls : Array Slot), va_P D vwCl (stW q cI cJ S) H → va_D A9 (stW q cI cJ S) → va_S A9 s9.heap H locs → lv_has ls 6 [(0, .ref (q 0)), (1, .long h), (3, .long x3), (5, .int (nI k))] → W p9 l e9 ({ frames := 3, cells := 0, slots := 0, locals := 69 } : Room) s9 m9 (List.toArray [.ref (q 0), .long h]) below meth c9 H locs 0 0 (MQ below (va_Ql (fun r (_ : Unit) => r = (s_dig S n mm h)) (fun _ t9 => va_P D vwCl (stW q cI cJ S) t9.heap) A9) (List.toArray [.ref (q 0), .long h]) s9 0 0 A9) (F0 m9 65 ls []) := by
                intro d
                induction d with
                | zero =>
                  intro k x3 hf
                  intro hkn; exact absurd hf (by omega)
                | succ d ih_65 =>
                  intro k x3 hf_65 hkn_65 e65 H locs ls hP hD hS hl
                  refine lv_iload hx hb dX3_digestOnto_65 (lv_at hl 3 rfl) ?_
                  refine lv_bipush (v := 24) hx hb dX3_digestOnto_67 (by decide) ?_
                  refine lv_icmp_ge (tgt := 93) hx hb dX3_digestOnto_69 (by decide) (fun c_69_5 => ?_) (fun c_69_5 => ?_)
                  · have c_69_5 : 24 ≤ (nI k) := c_69_5
                    have hke_65 : 24 = k := (k_exitN c_69_5 rfl hkn_65 (by decide)).symm
                    subst hke_65
                    refine lv_iconst (v := 0) hx hb dX3_digestOnto_93 (by decide) ?_
                    refine lv_istore (lv' := [(5, .int 0), (0, .ref (q 0)), (1, .long h), (3, .long x3)]) hx hb dX3_digestOnto_94 hl (by decide) rfl (fun ls hl => ?_)
                    have L_96_6 : ∀ (d : Nat) (k : Nat) (x4 : Int64), 5 < k + d → k ≤ 5 → ∀  (e96 : itr (s_dgV S) k x3 = x4) (H : Heap) (locs : List Loc) (ls : Array Slot), va_P D vwCl (stW q cI cJ S) H → va_D A9 (stW q cI cJ S) → va_S A9 s9.heap H locs → lv_has ls 6 [(0, .ref (q 0)), (1, .long h), (3, .long x4), (5, .int (nI k))] → W p9 l e9 ({ frames := 3, cells := 0, slots := 0, locals := 69 } : Room) s9 m9 (List.toArray [.ref (q 0), .long h]) below meth c9 H locs 0 0 (MQ below (va_Ql (fun r (_ : Unit) => r = (s_dig S n mm h)) (fun _ t9 => va_P D vwCl (stW q cI cJ S) t9.heap) A9) (List.toArray [.ref (q 0), .long h]) s9 0 0 A9) (F0 m9 96 ls []) := by
                      intro d
                      induction d with
                      | zero =>
                        intro k x4 hf
                        intro hkn; exact absurd hf (by omega)
                      | succ d ih_96 =>
                        intro k x4 hf_96 hkn_96 e96 H locs ls hP hD hS hl
                        refine lv_iload hx hb dX3_digestOnto_96 (lv_at hl 3 rfl) ?_
                        refine lv_iconst (v := 5) hx hb dX3_digestOnto_98 (by decide) ?_
                        refine lv_icmp_ge (tgt := 122) hx hb dX3_digestOnto_99 (by decide) (fun c_99_7 => ?_) (fun c_99_7 => ?_)
                        · have c_99_7 : 5 ≤ (nI k) := c_99_7
                          have hke_96 : 5 = k := (k_exitN c_99_7 rfl hkn_96 (by decide)).symm
                          subst hke_96
                          refine lv_ldc2 (v := 31) hx hb hown (hts (.constantLong RX3 160 (31)) (List.mem_of_getElem? (i := 1) rfl)) dX3_digestOnto_122 ?_
                          refine lv_lload_n hx hb dX3_digestOnto_125 rfl (lv_at hl 2 rfl) ?_
                          refine lv_lmul hx hb dX3_digestOnto_126 ?_
                          refine lv_aload_n hx hb dX3_digestOnto_127 rfl (lv_at hl 0 rfl) ?_
                          refine va_get (D := D) (ci := 3) (v := .long (S.2.1 1)) (C := RX3) (T := TX3) (N := 15) hx hb hts inX3 hown hK hP 0 rfl rfl 9 (by decide) (hts (.fieldLink RX3 65 "PumpOaths$Station" "measuredLeak" "J") (List.mem_of_getElem? (i := 5) rfl)) (fun _ h9 => h9) rfl dX3_digestOnto_128 ?_
                          refine lv_ladd hx hb dX3_digestOnto_131 ?_
                          refine lv_lstore_n (lv' := [(3, .long ((31 * x4) + (S.2.1 1))), (0, .ref (q 0)), (1, .long h), (5, .int (nI 5))]) hx hb dX3_digestOnto_132 rfl hl (by decide) rfl (fun ls hl => ?_)
                          refine lv_aload_n hx hb dX3_digestOnto_133 rfl (lv_at hl 1 rfl) ?_
                          refine va_get (D := D) (ci := 3) (v := .ref (q 4)) (C := RX3) (T := TX3) (N := 15) hx hb hts inX3 hown hK hP 0 rfl rfl 13 (by decide) (hts (.fieldLink RX3 38 "PumpOaths$Station" "pumps" "LPumpOaths$Pumps;") (List.mem_of_getElem? (i := 6) rfl)) (fun _ h9 => h9) rfl dX3_digestOnto_134 ?_
                          refine lv_lload_n hx hb dX3_digestOnto_137 rfl (lv_at hl 0 rfl) ?_
                          refine k_calll (a := []) (z := []) (wc := stW q cI cJ S) (wc' := stW q cI cJ S) (w' := stW q cI cJ S) (va_runV (As := [.long ((31 * x4) + (S.2.1 1))]) (rest := []) ⟨hx, hb, hml, hown, hts⟩ (c_X2_digestOnto l D q cI cJ S ((31 * x4) + (S.2.1 1)) n hn hn6 _) (cwV 1 hts gX3_digestOnto_X2_digestOnto rfl rfl rfl (by decide +kernel) ⟨Nat.le_of_ble_eq_true rfl, Nat.le_of_ble_eq_true rfl⟩) ⟨kB_blind, va_recv hK hP (ci := 2) (q0 := 4) rfl rfl, k_pre (a := []) (z := []) (k_w0 _) hK hP hD⟩ rfl rfl hl.1 rfl (lv_room (Nat.le_of_ble_eq_true rfl)) dX3_digestOnto_138 ⟨Nat.zero_le _, Nat.zero_le _⟩) (k_w0 _) (k_w0 _) (stW_ad _ _ _ _ _) hP hD hS hA (fun H locs hP hD hS => ?_)
                          refine lv_lstore_n (lv' := [(3, .long (p_dig S n ((31 * x4) + (S.2.1 1)))), (0, .ref (q 0)), (1, .long h), (5, .int (nI 5))]) hx hb dX3_digestOnto_141 rfl hl (by decide) rfl (fun ls hl => ?_)
                          refine lv_aload_n hx hb dX3_digestOnto_142 rfl (lv_at hl 1 rfl) ?_
                          refine va_get (D := D) (ci := 3) (v := .ref (q 13)) (C := RX3) (T := TX3) (N := 15) hx hb hts inX3 hown hK hP 0 rfl rfl 14 (by decide) (hts (.fieldLink RX3 45 "PumpOaths$Station" "log" "LPumpOaths$BreachLog;") (List.mem_of_getElem? (i := 7) rfl)) (fun _ h9 => h9) rfl dX3_digestOnto_143 ?_
                          refine lv_lload_n hx hb dX3_digestOnto_146 rfl (lv_at hl 0 rfl) ?_
                          refine k_calll (a := []) (z := []) (wc := stW q cI cJ S) (wc' := stW q cI cJ S) (w' := stW q cI cJ S) (va_runV (As := [.long (p_dig S n ((31 * x4) + (S.2.1 1)))]) (rest := []) ⟨hx, hb, hml, hown, hts⟩ (c_X0_digestOnto l D q cI cJ S (p_dig S n ((31 * x4) + (S.2.1 1))) mm hm hm12 _) (cwV 1 hts gX3_digestOnto_X0_digestOnto rfl rfl rfl (by decide +kernel) ⟨Nat.le_of_ble_eq_true rfl, Nat.le_of_ble_eq_true rfl⟩) ⟨kB_blind, va_recv hK hP (ci := 0) (q0 := 13) rfl rfl, k_pre (a := []) (z := []) (k_w0 _) hK hP hD⟩ rfl rfl hl.1 rfl (lv_room (Nat.le_of_ble_eq_true rfl)) dX3_digestOnto_147 ⟨Nat.zero_le _, Nat.zero_le _⟩) (k_w0 _) (k_w0 _) (stW_ad _ _ _ _ _) hP hD hS hA (fun H locs hP hD hS => ?_)
                          exact k_lret hx hb hr hlk hP hS dX3_digestOnto_150 (by rw [s_dig, e5, e35, e65, e96]) (fun h => h)
                        · have c_99_7 : ¬ 5 ≤ (nI k) := c_99_7
                          have hkl_96 : k < 5 := k_bodyN c_99_7 rfl hkn_96 (by decide)
                          refine lv_ldc2 (v := 31) hx hb hown (hts (.constantLong RX3 160 (31)) (List.mem_of_getElem? (i := 1) rfl)) dX3_digestOnto_102 ?_
                          refine lv_lload_n hx hb dX3_digestOnto_105 rfl (lv_at hl 2 rfl) ?_
                          refine lv_lmul hx hb dX3_digestOnto_106 ?_
                          refine lv_aload_n hx hb dX3_digestOnto_107 rfl (lv_at hl 0 rfl) ?_
                          refine va_get (D := D) (ci := 3) (v := .ref (q 3)) (C := RX3) (T := TX3) (N := 15) hx hb hts inX3 hown hK hP 0 rfl rfl 12 (by decide) (hts (.fieldLink RX3 31 "PumpOaths$Station" "waters" "[J") (List.mem_of_getElem? (i := 4) rfl)) (fun _ h9 => h9) rfl dX3_digestOnto_108 ?_
                          refine lv_iload hx hb dX3_digestOnto_111 (lv_at hl 3 rfl) ?_
                          refine va_lald (f := S.2.2.2) hx hb hK hP 3 1 rfl rfl (k_in (k := k) rfl (by omega) (by decide)) dX3_digestOnto_113 ?_
                          rw [show (nI k : Int32).toNatClampNeg = k from nI_clamp (by omega)]
                          refine lv_ladd hx hb dX3_digestOnto_114 ?_
                          refine lv_lstore_n (lv' := [(3, .long ((31 * x4) + (S.2.2.2 k))), (0, .ref (q 0)), (1, .long h), (5, .int (nI k))]) hx hb dX3_digestOnto_115 rfl hl (by decide) rfl (fun ls hl => ?_)
                          refine lv_iinc (v := (nI k) + 1) (lv' := [(5, .int ((nI k) + 1)), (3, .long ((31 * x4) + (S.2.2.2 k))), (0, .ref (q 0)), (1, .long h)]) hx hb dX3_digestOnto_116 hl (k := 3) rfl rfl (by decide) rfl (fun ls hl => ?_)
                          refine lv_goto (tgt := 96) hx hb dX3_digestOnto_119 (by decide) ?_
                          rw [show ((nI k) + 1) = (nI (k + 1)) from nI_1 _] at hl
                          exact ih_96 (k + 1) ((31 * x4) + (S.2.2.2 k)) (by omega) (by omega) (by rw [itr_s, e96]; simp [s_dgV, c_9_1, c_38_3, c_69_5, c_99_7]) _ _ _ hP hD hS (lv_sub hl [2, 3, 1, 0] rfl)
                    exact L_96_6 (5 + 1) 0 x3 (by omega) (by omega) (rfl) _ _ _ hP hD hS (lv_sub hl [1, 2, 3, 0] rfl)
                  · have c_69_5 : ¬ 24 ≤ (nI k) := c_69_5
                    have hkl_65 : k < 24 := k_bodyN c_69_5 rfl hkn_65 (by decide)
                    refine lv_ldc2 (v := 31) hx hb hown (hts (.constantLong RX3 160 (31)) (List.mem_of_getElem? (i := 1) rfl)) dX3_digestOnto_72 ?_
                    refine lv_lload_n hx hb dX3_digestOnto_75 rfl (lv_at hl 2 rfl) ?_
                    refine lv_lmul hx hb dX3_digestOnto_76 ?_
                    refine lv_aload_n hx hb dX3_digestOnto_77 rfl (lv_at hl 0 rfl) ?_
                    refine va_get (D := D) (ci := 3) (v := .ref (q 2)) (C := RX3) (T := TX3) (N := 15) hx hb hts inX3 hown hK hP 0 rfl rfl 11 (by decide) (hts (.fieldLink RX3 28 "PumpOaths$Station" "demands" "[I") (List.mem_of_getElem? (i := 3) rfl)) (fun _ h9 => h9) rfl dX3_digestOnto_78 ?_
                    refine lv_iload hx hb dX3_digestOnto_81 (lv_at hl 3 rfl) ?_
                    refine va_iald (f := S.2.2.1 1) hx hb hK hP 2 0 rfl rfl (k_in (k := k) rfl (by omega) (by decide)) dX3_digestOnto_83 ?_
                    rw [show (nI k : Int32).toNatClampNeg = k from nI_clamp (by omega)]
                    refine lv_i2l hx hb dX3_digestOnto_84 rfl ?_
                    refine lv_ladd hx hb dX3_digestOnto_85 ?_
                    refine lv_lstore_n (lv' := [(3, .long ((31 * x3) + (((S.2.2.1 1) k).toInt64))), (0, .ref (q 0)), (1, .long h), (5, .int (nI k))]) hx hb dX3_digestOnto_86 rfl hl (by decide) rfl (fun ls hl => ?_)
                    refine lv_iinc (v := (nI k) + 1) (lv' := [(5, .int ((nI k) + 1)), (3, .long ((31 * x3) + (((S.2.2.1 1) k).toInt64))), (0, .ref (q 0)), (1, .long h)]) hx hb dX3_digestOnto_87 hl (k := 3) rfl rfl (by decide) rfl (fun ls hl => ?_)
                    refine lv_goto (tgt := 65) hx hb dX3_digestOnto_90 (by decide) ?_
                    rw [show ((nI k) + 1) = (nI (k + 1)) from nI_1 _] at hl
                    exact ih_65 (k + 1) ((31 * x3) + (((S.2.2.1 1) k).toInt64)) (by omega) (by omega) (by rw [itr_s, e65]; simp [s_dgA, c_9_1, c_38_3, c_69_5]) _ _ _ hP hD hS (lv_sub hl [2, 3, 1, 0] rfl)
              exact L_65_4 (24 + 1) 0 x2 (by omega) (by omega) (rfl) _ _ _ hP hD hS (lv_sub hl [1, 2, 3, 0] rfl)
            · have c_38_3 : ¬ 3 ≤ (nI k) := c_38_3
              have hkl_35 : k < 3 := k_bodyN c_38_3 rfl hkn_35 (by decide)
              refine lv_ldc2 (v := 31) hx hb hown (hts (.constantLong RX3 160 (31)) (List.mem_of_getElem? (i := 1) rfl)) dX3_digestOnto_41 ?_
              refine lv_lload_n hx hb dX3_digestOnto_44 rfl (lv_at hl 2 rfl) ?_
              refine lv_lmul hx hb dX3_digestOnto_45 ?_
              refine lv_aload_n hx hb dX3_digestOnto_46 rfl (lv_at hl 0 rfl) ?_
              refine va_get (D := D) (ci := 3) (v := .ref (q 1)) (C := RX3) (T := TX3) (N := 15) hx hb hts inX3 hown hK hP 0 rfl rfl 10 (by decide) (hts (.fieldLink RX3 24 "PumpOaths$Station" "settings" "[I") (List.mem_of_getElem? (i := 2) rfl)) (fun _ h9 => h9) rfl dX3_digestOnto_47 ?_
              refine lv_iload hx hb dX3_digestOnto_50 (lv_at hl 3 rfl) ?_
              refine va_iald (f := S.2.2.1 0) hx hb hK hP 1 0 rfl rfl (k_in (k := k) rfl (by omega) (by decide)) dX3_digestOnto_52 ?_
              rw [show (nI k : Int32).toNatClampNeg = k from nI_clamp (by omega)]
              refine lv_i2l hx hb dX3_digestOnto_53 rfl ?_
              refine lv_ladd hx hb dX3_digestOnto_54 ?_
              refine lv_lstore_n (lv' := [(3, .long ((31 * x2) + (((S.2.2.1 0) k).toInt64))), (0, .ref (q 0)), (1, .long h), (5, .int (nI k))]) hx hb dX3_digestOnto_55 rfl hl (by decide) rfl (fun ls hl => ?_)
              refine lv_iinc (v := (nI k) + 1) (lv' := [(5, .int ((nI k) + 1)), (3, .long ((31 * x2) + (((S.2.2.1 0) k).toInt64))), (0, .ref (q 0)), (1, .long h)]) hx hb dX3_digestOnto_56 hl (k := 3) rfl rfl (by decide) rfl (fun ls hl => ?_)
              refine lv_goto (tgt := 35) hx hb dX3_digestOnto_59 (by decide) ?_
              rw [show ((nI k) + 1) = (nI (k + 1)) from nI_1 _] at hl
              exact ih_35 (k + 1) ((31 * x2) + (((S.2.2.1 0) k).toInt64)) (by omega) (by omega) (by rw [itr_s, e35]; simp [s_dgA, c_9_1, c_38_3]) _ _ _ hP hD hS (lv_sub hl [2, 3, 1, 0] rfl)
        exact L_35_2 (3 + 1) 0 x1 (by omega) (by omega) (rfl) _ _ _ hP hD hS (lv_sub hl [1, 2, 3, 0] rfl)
      · have c_9_1 : ¬ 14 ≤ (nI k) := c_9_1
        have hkl_5 : k < 14 := k_bodyN c_9_1 rfl hkn_5 (by decide)
        refine lv_ldc2 (v := 31) hx hb hown (hts (.constantLong RX3 160 (31)) (List.mem_of_getElem? (i := 1) rfl)) dX3_digestOnto_12 ?_
        refine lv_lload_n hx hb dX3_digestOnto_15 rfl (lv_at hl 2 rfl) ?_
        refine lv_lmul hx hb dX3_digestOnto_16 ?_
        refine lv_aload_n hx hb dX3_digestOnto_17 rfl (lv_at hl 0 rfl) ?_
        refine lv_iload hx hb dX3_digestOnto_18 (lv_at hl 3 rfl) ?_
        refine k_calli (a := []) (z := []) (wc := stW q cI cJ S) (wc' := stW q cI cJ S) (w' := stW q cI cJ S) (va_runV (As := [.int (nI k)]) (rest := [.long (31 * x1)]) ⟨hx, hb, hml, hown, hts⟩ (c_X3_numberAt l D q cI cJ S (nI k) n hn hn6 _) (cwV 1 hts gX3_digestOnto_X3_numberAt rfl rfl rfl (by decide +kernel) ⟨Nat.le_of_ble_eq_true rfl, Nat.le_of_ble_eq_true rfl⟩) ⟨kB_blind, va_recv hK hP (ci := 3) (q0 := 0) rfl rfl, k_pre (a := []) (z := []) (k_w0 _) hK hP hD⟩ rfl rfl hl.1 rfl (lv_room (Nat.le_of_ble_eq_true rfl)) dX3_digestOnto_20 ⟨Nat.zero_le _, Nat.zero_le _⟩) (k_w0 _) (k_w0 _) (stW_ad _ _ _ _ _) hP hD hS hA (fun H locs hP hD hS => ?_)
        refine lv_i2l hx hb dX3_digestOnto_23 rfl ?_
        refine lv_ladd hx hb dX3_digestOnto_24 ?_
        refine lv_lstore_n (lv' := [(3, .long ((31 * x1) + ((s_num S n (nI k)).toInt64))), (0, .ref (q 0)), (1, .long h), (5, .int (nI k))]) hx hb dX3_digestOnto_25 rfl hl (by decide) rfl (fun ls hl => ?_)
        refine lv_iinc (v := (nI k) + 1) (lv' := [(5, .int ((nI k) + 1)), (3, .long ((31 * x1) + ((s_num S n (nI k)).toInt64))), (0, .ref (q 0)), (1, .long h)]) hx hb dX3_digestOnto_26 hl (k := 3) rfl rfl (by decide) rfl (fun ls hl => ?_)
        refine lv_goto (tgt := 5) hx hb dX3_digestOnto_29 (by decide) ?_
        rw [show ((nI k) + 1) = (nI (k + 1)) from nI_1 _] at hl
        exact ih_5 (k + 1) ((31 * x1) + ((s_num S n (nI k)).toInt64)) (by omega) (by omega) (by rw [itr_s, e5]; simp [s_dgN, c_9_1]) _ _ _ hP hD hS (lv_sub hl [2, 3, 1, 0] rfl)
  exact L_5_0 (14 + 1) 0 h (by omega) (by omega) (rfl) _ _ _ hP hD hS (lv_sub hl [2, 3, 1, 0] rfl)

set_option maxHeartbeats 1000000 in
set_option maxRecDepth 100000 in
theorem c_X3_become (l : Launch) (D : va_G) (q r : Nat → Nat) (cI cJ : ClassId) (S T : SS)  : kV l yX3_become wsX3_become ({ frames := 2, cells := 0, slots := 0, locals := 61 } : Room) D [(cI, .int), (cJ, .long)] [.ref (q 0), .ref (r 0)] (stW q cI cJ S ++ (stW r cI cJ T)) (stW q cI cJ T ++ (stW r cI cJ T)) := by
  refine kBody.met (cc := cX3_become) (maxL := 2) (ret := none) (by decide) rfl (Nat.le_of_ble_eq_true rfl) ?_
  intro p9 e9 s9 m9 below meth c9 A9 ls hx hb hr hml hts hown hlk hK hP hD hA hl
  have hown : s9.vm.findClass RX3 = some m9.cls := hown
  have inX0 : ∀ w ∈ wsX00, w ∈ wsX3_become := fun w h => List.mem_cons_of_mem _ (List.mem_append_right _ (h))
  have inX2 : ∀ w ∈ wsX20, w ∈ wsX3_become := fun w h => List.mem_cons_of_mem _ (List.mem_append_left _ (List.mem_append_right _ (h)))
  have inX3 : ∀ w ∈ wsX30, w ∈ wsX3_become := fun w h => List.mem_cons_of_mem _ (List.mem_append_left _ (List.mem_append_left _ (List.mem_append_right _ (h))))
  have hS : va_S A9 s9.heap s9.heap [] := va_S.rf
  have hl : lv_has ls 2 [(0, .ref (q 0)), (1, .ref (r 0))] := hl
  refine lv_aload_n hx hb dX3_become_0 rfl (lv_at hl 0 rfl) ?_
  refine lv_aload_n hx hb dX3_become_1 rfl (lv_at hl 1 rfl) ?_
  refine va_get (D := D) (ci := 3) (v := .int (T.1 0)) (C := RX3) (T := TX3) (N := 15) hx hb hts inX3 hown hK hP 15 rfl rfl 0 (by decide) (hts (.fieldLink RX3 11 "PumpOaths$Station" "size" "I") (List.mem_of_getElem? (i := 1) rfl)) (fun _ h9 => h9) rfl dX3_become_2 ?_
  refine va_put (D := D) (ci := 3) (v := .int (T.1 0)) (ty := .int) (C := RX3) (T := TX3) (N := 15) hx hb hts inX3 tyX3 tyX3_ok nmX3 hown hK hP hD hS 0 rfl rfl 0 (by decide) (hts (.fieldLink RX3 11 "PumpOaths$Station" "size" "I") (List.mem_of_getElem? (i := 1) rfl)) (fun _ h9 => h9) rfl (by decide +kernel) rfl rfl (Nat.le_of_ble_eq_true rfl) dX3_become_5 (fun H locs hP hD hS => ?_)
  have hP : va_P D vwCl (stW q cI cJ (setI S 0 (T.1 0)) ++ (stW r cI cJ T)) H := hP
  have hD : va_D A9 (stW q cI cJ (setI S 0 (T.1 0)) ++ (stW r cI cJ T)) := hD
  refine lv_aload_n hx hb dX3_become_8 rfl (lv_at hl 0 rfl) ?_
  refine lv_aload_n hx hb dX3_become_9 rfl (lv_at hl 1 rfl) ?_
  refine va_get (D := D) (ci := 3) (v := .int (T.1 1)) (C := RX3) (T := TX3) (N := 15) hx hb hts inX3 hown hK hP 15 rfl rfl 1 (by decide) (hts (.fieldLink RX3 15 "PumpOaths$Station" "level" "I") (List.mem_of_getElem? (i := 2) rfl)) (fun _ h9 => h9) rfl dX3_become_10 ?_
  refine va_put (D := D) (ci := 3) (v := .int (T.1 1)) (ty := .int) (C := RX3) (T := TX3) (N := 15) hx hb hts inX3 tyX3 tyX3_ok nmX3 hown hK hP hD hS 0 rfl rfl 1 (by decide) (hts (.fieldLink RX3 15 "PumpOaths$Station" "level" "I") (List.mem_of_getElem? (i := 2) rfl)) (fun _ h9 => h9) rfl (by decide +kernel) rfl rfl (Nat.le_of_ble_eq_true rfl) dX3_become_13 (fun H locs hP hD hS => ?_)
  have hP : va_P D vwCl (stW q cI cJ (setI (setI S 0 (T.1 0)) 1 (T.1 1)) ++ (stW r cI cJ T)) H := hP
  have hD : va_D A9 (stW q cI cJ (setI (setI S 0 (T.1 0)) 1 (T.1 1)) ++ (stW r cI cJ T)) := hD
  refine lv_aload_n hx hb dX3_become_16 rfl (lv_at hl 0 rfl) ?_
  refine lv_aload_n hx hb dX3_become_17 rfl (lv_at hl 1 rfl) ?_
  refine va_get (D := D) (ci := 3) (v := .int (T.1 2)) (C := RX3) (T := TX3) (N := 15) hx hb hts inX3 hown hK hP 15 rfl rfl 2 (by decide) (hts (.fieldLink RX3 18 "PumpOaths$Station" "low" "I") (List.mem_of_getElem? (i := 3) rfl)) (fun _ h9 => h9) rfl dX3_become_18 ?_
  refine va_put (D := D) (ci := 3) (v := .int (T.1 2)) (ty := .int) (C := RX3) (T := TX3) (N := 15) hx hb hts inX3 tyX3 tyX3_ok nmX3 hown hK hP hD hS 0 rfl rfl 2 (by decide) (hts (.fieldLink RX3 18 "PumpOaths$Station" "low" "I") (List.mem_of_getElem? (i := 3) rfl)) (fun _ h9 => h9) rfl (by decide +kernel) rfl rfl (Nat.le_of_ble_eq_true rfl) dX3_become_21 (fun H locs hP hD hS => ?_)
  have hP : va_P D vwCl (stW q cI cJ (setI (setI (setI S 0 (T.1 0)) 1 (T.1 1)) 2 (T.1 2)) ++ (stW r cI cJ T)) H := hP
  have hD : va_D A9 (stW q cI cJ (setI (setI (setI S 0 (T.1 0)) 1 (T.1 1)) 2 (T.1 2)) ++ (stW r cI cJ T)) := hD
  refine lv_aload_n hx hb dX3_become_24 rfl (lv_at hl 0 rfl) ?_
  refine lv_aload_n hx hb dX3_become_25 rfl (lv_at hl 1 rfl) ?_
  refine va_get (D := D) (ci := 3) (v := .int (T.1 3)) (C := RX3) (T := TX3) (N := 15) hx hb hts inX3 hown hK hP 15 rfl rfl 3 (by decide) (hts (.fieldLink RX3 21 "PumpOaths$Station" "high" "I") (List.mem_of_getElem? (i := 4) rfl)) (fun _ h9 => h9) rfl dX3_become_26 ?_
  refine va_put (D := D) (ci := 3) (v := .int (T.1 3)) (ty := .int) (C := RX3) (T := TX3) (N := 15) hx hb hts inX3 tyX3 tyX3_ok nmX3 hown hK hP hD hS 0 rfl rfl 3 (by decide) (hts (.fieldLink RX3 21 "PumpOaths$Station" "high" "I") (List.mem_of_getElem? (i := 4) rfl)) (fun _ h9 => h9) rfl (by decide +kernel) rfl rfl (Nat.le_of_ble_eq_true rfl) dX3_become_29 (fun H locs hP hD hS => ?_)
  have hP : va_P D vwCl (stW q cI cJ (setI (setI (setI (setI S 0 (T.1 0)) 1 (T.1 1)) 2 (T.1 2)) 3 (T.1 3)) ++ (stW r cI cJ T)) H := hP
  have hD : va_D A9 (stW q cI cJ (setI (setI (setI (setI S 0 (T.1 0)) 1 (T.1 1)) 2 (T.1 2)) 3 (T.1 3)) ++ (stW r cI cJ T)) := hD
  refine lv_aload_n hx hb dX3_become_32 rfl (lv_at hl 0 rfl) ?_
  refine lv_aload_n hx hb dX3_become_33 rfl (lv_at hl 1 rfl) ?_
  refine va_get (D := D) (ci := 3) (v := .int (T.1 4)) (C := RX3) (T := TX3) (N := 15) hx hb hts inX3 hown hK hP 15 rfl rfl 4 (by decide) (hts (.fieldLink RX3 49 "PumpOaths$Station" "time" "I") (List.mem_of_getElem? (i := 5) rfl)) (fun _ h9 => h9) rfl dX3_become_34 ?_
  refine va_put (D := D) (ci := 3) (v := .int (T.1 4)) (ty := .int) (C := RX3) (T := TX3) (N := 15) hx hb hts inX3 tyX3 tyX3_ok nmX3 hown hK hP hD hS 0 rfl rfl 4 (by decide) (hts (.fieldLink RX3 49 "PumpOaths$Station" "time" "I") (List.mem_of_getElem? (i := 5) rfl)) (fun _ h9 => h9) rfl (by decide +kernel) rfl rfl (Nat.le_of_ble_eq_true rfl) dX3_become_37 (fun H locs hP hD hS => ?_)
  have hP : va_P D vwCl (stW q cI cJ (setI (setI (setI (setI (setI S 0 (T.1 0)) 1 (T.1 1)) 2 (T.1 2)) 3 (T.1 3)) 4 (T.1 4)) ++ (stW r cI cJ T)) H := hP
  have hD : va_D A9 (stW q cI cJ (setI (setI (setI (setI (setI S 0 (T.1 0)) 1 (T.1 1)) 2 (T.1 2)) 3 (T.1 3)) 4 (T.1 4)) ++ (stW r cI cJ T)) := hD
  refine lv_aload_n hx hb dX3_become_40 rfl (lv_at hl 0 rfl) ?_
  refine lv_aload_n hx hb dX3_become_41 rfl (lv_at hl 1 rfl) ?_
  refine va_get (D := D) (ci := 3) (v := .int (T.1 5)) (C := RX3) (T := TX3) (N := 15) hx hb hts inX3 hown hK hP 15 rfl rfl 5 (by decide) (hts (.fieldLink RX3 52 "PumpOaths$Station" "brokenOaths" "I") (List.mem_of_getElem? (i := 6) rfl)) (fun _ h9 => h9) rfl dX3_become_42 ?_
  refine va_put (D := D) (ci := 3) (v := .int (T.1 5)) (ty := .int) (C := RX3) (T := TX3) (N := 15) hx hb hts inX3 tyX3 tyX3_ok nmX3 hown hK hP hD hS 0 rfl rfl 5 (by decide) (hts (.fieldLink RX3 52 "PumpOaths$Station" "brokenOaths" "I") (List.mem_of_getElem? (i := 6) rfl)) (fun _ h9 => h9) rfl (by decide +kernel) rfl rfl (Nat.le_of_ble_eq_true rfl) dX3_become_45 (fun H locs hP hD hS => ?_)
  have hP : va_P D vwCl (stW q cI cJ (setI (setI (setI (setI (setI (setI S 0 (T.1 0)) 1 (T.1 1)) 2 (T.1 2)) 3 (T.1 3)) 4 (T.1 4)) 5 (T.1 5)) ++ (stW r cI cJ T)) H := hP
  have hD : va_D A9 (stW q cI cJ (setI (setI (setI (setI (setI (setI S 0 (T.1 0)) 1 (T.1 1)) 2 (T.1 2)) 3 (T.1 3)) 4 (T.1 4)) 5 (T.1 5)) ++ (stW r cI cJ T)) := hD
  refine lv_aload_n hx hb dX3_become_48 rfl (lv_at hl 0 rfl) ?_
  refine lv_aload_n hx hb dX3_become_49 rfl (lv_at hl 1 rfl) ?_
  refine va_get (D := D) (ci := 3) (v := .int (T.1 6)) (C := RX3) (T := TX3) (N := 15) hx hb hts inX3 hown hK hP 15 rfl rfl 6 (by decide) (hts (.fieldLink RX3 55 "PumpOaths$Station" "minutesBelow" "I") (List.mem_of_getElem? (i := 7) rfl)) (fun _ h9 => h9) rfl dX3_become_50 ?_
  refine va_put (D := D) (ci := 3) (v := .int (T.1 6)) (ty := .int) (C := RX3) (T := TX3) (N := 15) hx hb hts inX3 tyX3 tyX3_ok nmX3 hown hK hP hD hS 0 rfl rfl 6 (by decide) (hts (.fieldLink RX3 55 "PumpOaths$Station" "minutesBelow" "I") (List.mem_of_getElem? (i := 7) rfl)) (fun _ h9 => h9) rfl (by decide +kernel) rfl rfl (Nat.le_of_ble_eq_true rfl) dX3_become_53 (fun H locs hP hD hS => ?_)
  have hP : va_P D vwCl (stW q cI cJ (setI (setI (setI (setI (setI (setI (setI S 0 (T.1 0)) 1 (T.1 1)) 2 (T.1 2)) 3 (T.1 3)) 4 (T.1 4)) 5 (T.1 5)) 6 (T.1 6)) ++ (stW r cI cJ T)) H := hP
  have hD : va_D A9 (stW q cI cJ (setI (setI (setI (setI (setI (setI (setI S 0 (T.1 0)) 1 (T.1 1)) 2 (T.1 2)) 3 (T.1 3)) 4 (T.1 4)) 5 (T.1 5)) 6 (T.1 6)) ++ (stW r cI cJ T)) := hD
  refine lv_aload_n hx hb dX3_become_56 rfl (lv_at hl 0 rfl) ?_
  refine lv_aload_n hx hb dX3_become_57 rfl (lv_at hl 1 rfl) ?_
  refine va_get (D := D) (ci := 3) (v := .int (T.1 7)) (C := RX3) (T := TX3) (N := 15) hx hb hts inX3 hown hK hP 15 rfl rfl 7 (by decide) (hts (.fieldLink RX3 58 "PumpOaths$Station" "nights" "I") (List.mem_of_getElem? (i := 8) rfl)) (fun _ h9 => h9) rfl dX3_become_58 ?_
  refine va_put (D := D) (ci := 3) (v := .int (T.1 7)) (ty := .int) (C := RX3) (T := TX3) (N := 15) hx hb hts inX3 tyX3 tyX3_ok nmX3 hown hK hP hD hS 0 rfl rfl 7 (by decide) (hts (.fieldLink RX3 58 "PumpOaths$Station" "nights" "I") (List.mem_of_getElem? (i := 8) rfl)) (fun _ h9 => h9) rfl (by decide +kernel) rfl rfl (Nat.le_of_ble_eq_true rfl) dX3_become_61 (fun H locs hP hD hS => ?_)
  have hP : va_P D vwCl (stW q cI cJ (setI (setI (setI (setI (setI (setI (setI (setI S 0 (T.1 0)) 1 (T.1 1)) 2 (T.1 2)) 3 (T.1 3)) 4 (T.1 4)) 5 (T.1 5)) 6 (T.1 6)) 7 (T.1 7)) ++ (stW r cI cJ T)) H := hP
  have hD : va_D A9 (stW q cI cJ (setI (setI (setI (setI (setI (setI (setI (setI S 0 (T.1 0)) 1 (T.1 1)) 2 (T.1 2)) 3 (T.1 3)) 4 (T.1 4)) 5 (T.1 5)) 6 (T.1 6)) 7 (T.1 7)) ++ (stW r cI cJ T)) := hD
  refine lv_aload_n hx hb dX3_become_64 rfl (lv_at hl 0 rfl) ?_
  refine lv_aload_n hx hb dX3_become_65 rfl (lv_at hl 1 rfl) ?_
  refine va_get (D := D) (ci := 3) (v := .long (T.2.1 0)) (C := RX3) (T := TX3) (N := 15) hx hb hts inX3 hown hK hP 15 rfl rfl 8 (by decide) (hts (.fieldLink RX3 61 "PumpOaths$Station" "balanceAtDusk" "J") (List.mem_of_getElem? (i := 9) rfl)) (fun _ h9 => h9) rfl dX3_become_66 ?_
  refine va_put (D := D) (ci := 3) (v := .long (T.2.1 0)) (ty := .long) (C := RX3) (T := TX3) (N := 15) hx hb hts inX3 tyX3 tyX3_ok nmX3 hown hK hP hD hS 0 rfl rfl 8 (by decide) (hts (.fieldLink RX3 61 "PumpOaths$Station" "balanceAtDusk" "J") (List.mem_of_getElem? (i := 9) rfl)) (fun _ h9 => h9) rfl (by decide +kernel) rfl rfl (Nat.le_of_ble_eq_true rfl) dX3_become_69 (fun H locs hP hD hS => ?_)
  have hP : va_P D vwCl (stW q cI cJ (setL (setI (setI (setI (setI (setI (setI (setI (setI S 0 (T.1 0)) 1 (T.1 1)) 2 (T.1 2)) 3 (T.1 3)) 4 (T.1 4)) 5 (T.1 5)) 6 (T.1 6)) 7 (T.1 7)) 0 (T.2.1 0)) ++ (stW r cI cJ T)) H := hP
  have hD : va_D A9 (stW q cI cJ (setL (setI (setI (setI (setI (setI (setI (setI (setI S 0 (T.1 0)) 1 (T.1 1)) 2 (T.1 2)) 3 (T.1 3)) 4 (T.1 4)) 5 (T.1 5)) 6 (T.1 6)) 7 (T.1 7)) 0 (T.2.1 0)) ++ (stW r cI cJ T)) := hD
  refine lv_aload_n hx hb dX3_become_72 rfl (lv_at hl 0 rfl) ?_
  refine lv_aload_n hx hb dX3_become_73 rfl (lv_at hl 1 rfl) ?_
  refine va_get (D := D) (ci := 3) (v := .long (T.2.1 1)) (C := RX3) (T := TX3) (N := 15) hx hb hts inX3 hown hK hP 15 rfl rfl 9 (by decide) (hts (.fieldLink RX3 65 "PumpOaths$Station" "measuredLeak" "J") (List.mem_of_getElem? (i := 10) rfl)) (fun _ h9 => h9) rfl dX3_become_74 ?_
  refine va_put (D := D) (ci := 3) (v := .long (T.2.1 1)) (ty := .long) (C := RX3) (T := TX3) (N := 15) hx hb hts inX3 tyX3 tyX3_ok nmX3 hown hK hP hD hS 0 rfl rfl 9 (by decide) (hts (.fieldLink RX3 65 "PumpOaths$Station" "measuredLeak" "J") (List.mem_of_getElem? (i := 10) rfl)) (fun _ h9 => h9) rfl (by decide +kernel) rfl rfl (Nat.le_of_ble_eq_true rfl) dX3_become_77 (fun H locs hP hD hS => ?_)
  have hP : va_P D vwCl (stW q cI cJ (setL (setL (setI (setI (setI (setI (setI (setI (setI (setI S 0 (T.1 0)) 1 (T.1 1)) 2 (T.1 2)) 3 (T.1 3)) 4 (T.1 4)) 5 (T.1 5)) 6 (T.1 6)) 7 (T.1 7)) 0 (T.2.1 0)) 1 (T.2.1 1)) ++ (stW r cI cJ T)) H := hP
  have hD : va_D A9 (stW q cI cJ (setL (setL (setI (setI (setI (setI (setI (setI (setI (setI S 0 (T.1 0)) 1 (T.1 1)) 2 (T.1 2)) 3 (T.1 3)) 4 (T.1 4)) 5 (T.1 5)) 6 (T.1 6)) 7 (T.1 7)) 0 (T.2.1 0)) 1 (T.2.1 1)) ++ (stW r cI cJ T)) := hD
  refine lv_aload_n hx hb dX3_become_80 rfl (lv_at hl 1 rfl) ?_
  refine va_get (D := D) (ci := 3) (v := .ref (r 1)) (C := RX3) (T := TX3) (N := 15) hx hb hts inX3 hown hK hP 15 rfl rfl 10 (by decide) (hts (.fieldLink RX3 24 "PumpOaths$Station" "settings" "[I") (List.mem_of_getElem? (i := 11) rfl)) (fun _ h9 => h9) rfl dX3_become_81 ?_
  refine lv_iconst (v := 0) hx hb dX3_become_84 (by decide) ?_
  refine lv_aload_n hx hb dX3_become_85 rfl (lv_at hl 0 rfl) ?_
  refine va_get (D := D) (ci := 3) (v := .ref (q 1)) (C := RX3) (T := TX3) (N := 15) hx hb hts inX3 hown hK hP 0 rfl rfl 10 (by decide) (hts (.fieldLink RX3 24 "PumpOaths$Station" "settings" "[I") (List.mem_of_getElem? (i := 11) rfl)) (fun _ h9 => h9) rfl dX3_become_86 ?_
  refine lv_iconst (v := 0) hx hb dX3_become_89 (by decide) ?_
  refine lv_iconst (v := 3) hx hb dX3_become_90 (by decide) ?_
  refine k_copyi hx hb (hml.trans hl.1.symm) hown (hts (.methodLink RX3 68 arraycopyName) (List.mem_of_getElem? (i := 12) rfl)) (hts (.native arraycopyName) (List.mem_of_getElem? (i := 13) rfl)) (hts (.static arraycopyName) (List.mem_of_getElem? (i := 14) rfl)) (hts (.initialized "java/lang/System") (List.mem_of_getElem? (i := 15) rfl)) hK hP hD hS 16 1 0 0 rfl rfl rfl rfl (by decide) rfl (by decide) (Nat.le_of_ble_eq_true rfl) dX3_become_91 (fun H locs hP hD hS => ?_)
  have hP : va_P D vwCl (stW q cI cJ (setA (setL (setL (setI (setI (setI (setI (setI (setI (setI (setI S 0 (T.1 0)) 1 (T.1 1)) 2 (T.1 2)) 3 (T.1 3)) 4 (T.1 4)) 5 (T.1 5)) 6 (T.1 6)) 7 (T.1 7)) 0 (T.2.1 0)) 1 (T.2.1 1)) 0 (T.2.2.1 0)) ++ (stW r cI cJ T)) H := hP
  have hD : va_D A9 (stW q cI cJ (setA (setL (setL (setI (setI (setI (setI (setI (setI (setI (setI S 0 (T.1 0)) 1 (T.1 1)) 2 (T.1 2)) 3 (T.1 3)) 4 (T.1 4)) 5 (T.1 5)) 6 (T.1 6)) 7 (T.1 7)) 0 (T.2.1 0)) 1 (T.2.1 1)) 0 (T.2.2.1 0)) ++ (stW r cI cJ T)) := hD
  refine lv_aload_n hx hb dX3_become_94 rfl (lv_at hl 1 rfl) ?_
  refine va_get (D := D) (ci := 3) (v := .ref (r 2)) (C := RX3) (T := TX3) (N := 15) hx hb hts inX3 hown hK hP 15 rfl rfl 11 (by decide) (hts (.fieldLink RX3 28 "PumpOaths$Station" "demands" "[I") (List.mem_of_getElem? (i := 16) rfl)) (fun _ h9 => h9) rfl dX3_become_95 ?_
  refine lv_iconst (v := 0) hx hb dX3_become_98 (by decide) ?_
  refine lv_aload_n hx hb dX3_become_99 rfl (lv_at hl 0 rfl) ?_
  refine va_get (D := D) (ci := 3) (v := .ref (q 2)) (C := RX3) (T := TX3) (N := 15) hx hb hts inX3 hown hK hP 0 rfl rfl 11 (by decide) (hts (.fieldLink RX3 28 "PumpOaths$Station" "demands" "[I") (List.mem_of_getElem? (i := 16) rfl)) (fun _ h9 => h9) rfl dX3_become_100 ?_
  refine lv_iconst (v := 0) hx hb dX3_become_103 (by decide) ?_
  refine lv_bipush (v := 24) hx hb dX3_become_104 (by decide) ?_
  refine k_copyi hx hb (hml.trans hl.1.symm) hown (hts (.methodLink RX3 68 arraycopyName) (List.mem_of_getElem? (i := 12) rfl)) (hts (.native arraycopyName) (List.mem_of_getElem? (i := 13) rfl)) (hts (.static arraycopyName) (List.mem_of_getElem? (i := 14) rfl)) (hts (.initialized "java/lang/System") (List.mem_of_getElem? (i := 15) rfl)) hK hP hD hS 17 2 0 0 rfl rfl rfl rfl (by decide) rfl (by decide) (Nat.le_of_ble_eq_true rfl) dX3_become_106 (fun H locs hP hD hS => ?_)
  have hP : va_P D vwCl (stW q cI cJ (setA (setA (setL (setL (setI (setI (setI (setI (setI (setI (setI (setI S 0 (T.1 0)) 1 (T.1 1)) 2 (T.1 2)) 3 (T.1 3)) 4 (T.1 4)) 5 (T.1 5)) 6 (T.1 6)) 7 (T.1 7)) 0 (T.2.1 0)) 1 (T.2.1 1)) 0 (T.2.2.1 0)) 1 (T.2.2.1 1)) ++ (stW r cI cJ T)) H := hP
  have hD : va_D A9 (stW q cI cJ (setA (setA (setL (setL (setI (setI (setI (setI (setI (setI (setI (setI S 0 (T.1 0)) 1 (T.1 1)) 2 (T.1 2)) 3 (T.1 3)) 4 (T.1 4)) 5 (T.1 5)) 6 (T.1 6)) 7 (T.1 7)) 0 (T.2.1 0)) 1 (T.2.1 1)) 0 (T.2.2.1 0)) 1 (T.2.2.1 1)) ++ (stW r cI cJ T)) := hD
  refine lv_aload_n hx hb dX3_become_109 rfl (lv_at hl 1 rfl) ?_
  refine va_get (D := D) (ci := 3) (v := .ref (r 3)) (C := RX3) (T := TX3) (N := 15) hx hb hts inX3 hown hK hP 15 rfl rfl 12 (by decide) (hts (.fieldLink RX3 31 "PumpOaths$Station" "waters" "[J") (List.mem_of_getElem? (i := 17) rfl)) (fun _ h9 => h9) rfl dX3_become_110 ?_
  refine lv_iconst (v := 0) hx hb dX3_become_113 (by decide) ?_
  refine lv_aload_n hx hb dX3_become_114 rfl (lv_at hl 0 rfl) ?_
  refine va_get (D := D) (ci := 3) (v := .ref (q 3)) (C := RX3) (T := TX3) (N := 15) hx hb hts inX3 hown hK hP 0 rfl rfl 12 (by decide) (hts (.fieldLink RX3 31 "PumpOaths$Station" "waters" "[J") (List.mem_of_getElem? (i := 17) rfl)) (fun _ h9 => h9) rfl dX3_become_115 ?_
  refine lv_iconst (v := 0) hx hb dX3_become_118 (by decide) ?_
  refine lv_iconst (v := 5) hx hb dX3_become_119 (by decide) ?_
  refine k_copyl hx hb (hml.trans hl.1.symm) hown (hts (.methodLink RX3 68 arraycopyName) (List.mem_of_getElem? (i := 12) rfl)) (hts (.native arraycopyName) (List.mem_of_getElem? (i := 13) rfl)) (hts (.static arraycopyName) (List.mem_of_getElem? (i := 14) rfl)) (hts (.initialized "java/lang/System") (List.mem_of_getElem? (i := 15) rfl)) hK hP hD hS 18 3 1 1 rfl rfl rfl rfl (by decide) rfl (by decide) (Nat.le_of_ble_eq_true rfl) dX3_become_120 (fun H locs hP hD hS => ?_)
  have hP : va_P D vwCl (stW q cI cJ (setV (setA (setA (setL (setL (setI (setI (setI (setI (setI (setI (setI (setI S 0 (T.1 0)) 1 (T.1 1)) 2 (T.1 2)) 3 (T.1 3)) 4 (T.1 4)) 5 (T.1 5)) 6 (T.1 6)) 7 (T.1 7)) 0 (T.2.1 0)) 1 (T.2.1 1)) 0 (T.2.2.1 0)) 1 (T.2.2.1 1)) T.2.2.2) ++ (stW r cI cJ T)) H := hP
  have hD : va_D A9 (stW q cI cJ (setV (setA (setA (setL (setL (setI (setI (setI (setI (setI (setI (setI (setI S 0 (T.1 0)) 1 (T.1 1)) 2 (T.1 2)) 3 (T.1 3)) 4 (T.1 4)) 5 (T.1 5)) 6 (T.1 6)) 7 (T.1 7)) 0 (T.2.1 0)) 1 (T.2.1 1)) 0 (T.2.2.1 0)) 1 (T.2.2.1 1)) T.2.2.2) ++ (stW r cI cJ T)) := hD
  refine lv_aload_n hx hb dX3_become_123 rfl (lv_at hl 0 rfl) ?_
  refine va_get (D := D) (ci := 3) (v := .ref (q 4)) (C := RX3) (T := TX3) (N := 15) hx hb hts inX3 hown hK hP 0 rfl rfl 13 (by decide) (hts (.fieldLink RX3 38 "PumpOaths$Station" "pumps" "LPumpOaths$Pumps;") (List.mem_of_getElem? (i := 18) rfl)) (fun _ h9 => h9) rfl dX3_become_124 ?_
  refine lv_aload_n hx hb dX3_become_127 rfl (lv_at hl 1 rfl) ?_
  refine va_get (D := D) (ci := 3) (v := .ref (r 4)) (C := RX3) (T := TX3) (N := 15) hx hb hts inX3 hown hK hP 15 rfl rfl 13 (by decide) (hts (.fieldLink RX3 38 "PumpOaths$Station" "pumps" "LPumpOaths$Pumps;") (List.mem_of_getElem? (i := 18) rfl)) (fun _ h9 => h9) rfl dX3_become_128 ?_
  refine k_callv (a := []) (z := []) (wc := (stW q cI cJ (setV (setA (setA (setL (setL (setI (setI (setI (setI (setI (setI (setI (setI S 0 (T.1 0)) 1 (T.1 1)) 2 (T.1 2)) 3 (T.1 3)) 4 (T.1 4)) 5 (T.1 5)) 6 (T.1 6)) 7 (T.1 7)) 0 (T.2.1 0)) 1 (T.2.1 1)) 0 (T.2.2.1 0)) 1 (T.2.2.1 1)) T.2.2.2) ++ (stW r cI cJ T))) (wc' := (stW q cI cJ (p_become (setV (setA (setA (setL (setL (setI (setI (setI (setI (setI (setI (setI (setI S 0 (T.1 0)) 1 (T.1 1)) 2 (T.1 2)) 3 (T.1 3)) 4 (T.1 4)) 5 (T.1 5)) 6 (T.1 6)) 7 (T.1 7)) 0 (T.2.1 0)) 1 (T.2.1 1)) 0 (T.2.2.1 0)) 1 (T.2.2.1 1)) T.2.2.2) T) ++ (stW r cI cJ T))) (w' := (stW q cI cJ (p_become (setV (setA (setA (setL (setL (setI (setI (setI (setI (setI (setI (setI (setI S 0 (T.1 0)) 1 (T.1 1)) 2 (T.1 2)) 3 (T.1 3)) 4 (T.1 4)) 5 (T.1 5)) 6 (T.1 6)) 7 (T.1 7)) 0 (T.2.1 0)) 1 (T.2.1 1)) 0 (T.2.2.1 0)) 1 (T.2.2.1 1)) T.2.2.2) T) ++ (stW r cI cJ T))) (va_runV (As := [.ref (r 4)]) (rest := []) ⟨hx, hb, hml, hown, hts⟩ (c_X2_become l D q r cI cJ (setV (setA (setA (setL (setL (setI (setI (setI (setI (setI (setI (setI (setI S 0 (T.1 0)) 1 (T.1 1)) 2 (T.1 2)) 3 (T.1 3)) 4 (T.1 4)) 5 (T.1 5)) 6 (T.1 6)) 7 (T.1 7)) 0 (T.2.1 0)) 1 (T.2.1 1)) 0 (T.2.2.1 0)) 1 (T.2.2.1 1)) T.2.2.2) T _) (cwV 1 hts gX3_become_X2_become rfl rfl rfl (by decide +kernel) ⟨Nat.le_of_ble_eq_true rfl, Nat.le_of_ble_eq_true rfl⟩) ⟨kB_blind, va_recv hK hP (ci := 2) (q0 := 4) rfl rfl, k_pre (a := []) (z := []) (k_w0 _) hK hP hD⟩ rfl rfl hl.1 rfl (lv_room (Nat.le_of_ble_eq_true rfl)) dX3_become_131 ⟨Nat.zero_le _, Nat.zero_le _⟩) (k_w0 _) (k_w0 _) (k_ad2 (stW_ad _ _ _ _ _) (stW_ad _ _ _ _ _)) hP hD hS hA (fun H locs hP hD hS => ?_)
  refine lv_aload_n hx hb dX3_become_134 rfl (lv_at hl 0 rfl) ?_
  refine va_get (D := D) (ci := 3) (v := .ref (q 13)) (C := RX3) (T := TX3) (N := 15) hx hb hts inX3 hown hK hP 0 rfl rfl 14 (by decide) (hts (.fieldLink RX3 45 "PumpOaths$Station" "log" "LPumpOaths$BreachLog;") (List.mem_of_getElem? (i := 19) rfl)) (fun _ h9 => h9) rfl dX3_become_135 ?_
  refine lv_aload_n hx hb dX3_become_138 rfl (lv_at hl 1 rfl) ?_
  refine va_get (D := D) (ci := 3) (v := .ref (r 13)) (C := RX3) (T := TX3) (N := 15) hx hb hts inX3 hown hK hP 15 rfl rfl 14 (by decide) (hts (.fieldLink RX3 45 "PumpOaths$Station" "log" "LPumpOaths$BreachLog;") (List.mem_of_getElem? (i := 19) rfl)) (fun _ h9 => h9) rfl dX3_become_139 ?_
  refine k_callv (a := []) (z := []) (wc := (stW q cI cJ (p_become (setV (setA (setA (setL (setL (setI (setI (setI (setI (setI (setI (setI (setI S 0 (T.1 0)) 1 (T.1 1)) 2 (T.1 2)) 3 (T.1 3)) 4 (T.1 4)) 5 (T.1 5)) 6 (T.1 6)) 7 (T.1 7)) 0 (T.2.1 0)) 1 (T.2.1 1)) 0 (T.2.2.1 0)) 1 (T.2.2.1 1)) T.2.2.2) T) ++ (stW r cI cJ T))) (wc' := (stW q cI cJ (b_become (p_become (setV (setA (setA (setL (setL (setI (setI (setI (setI (setI (setI (setI (setI S 0 (T.1 0)) 1 (T.1 1)) 2 (T.1 2)) 3 (T.1 3)) 4 (T.1 4)) 5 (T.1 5)) 6 (T.1 6)) 7 (T.1 7)) 0 (T.2.1 0)) 1 (T.2.1 1)) 0 (T.2.2.1 0)) 1 (T.2.2.1 1)) T.2.2.2) T) T) ++ (stW r cI cJ T))) (w' := (stW q cI cJ (b_become (p_become (setV (setA (setA (setL (setL (setI (setI (setI (setI (setI (setI (setI (setI S 0 (T.1 0)) 1 (T.1 1)) 2 (T.1 2)) 3 (T.1 3)) 4 (T.1 4)) 5 (T.1 5)) 6 (T.1 6)) 7 (T.1 7)) 0 (T.2.1 0)) 1 (T.2.1 1)) 0 (T.2.2.1 0)) 1 (T.2.2.1 1)) T.2.2.2) T) T) ++ (stW r cI cJ T))) (va_runV (As := [.ref (r 13)]) (rest := []) ⟨hx, hb, hml, hown, hts⟩ (c_X0_become l D q r cI cJ (p_become (setV (setA (setA (setL (setL (setI (setI (setI (setI (setI (setI (setI (setI S 0 (T.1 0)) 1 (T.1 1)) 2 (T.1 2)) 3 (T.1 3)) 4 (T.1 4)) 5 (T.1 5)) 6 (T.1 6)) 7 (T.1 7)) 0 (T.2.1 0)) 1 (T.2.1 1)) 0 (T.2.2.1 0)) 1 (T.2.2.1 1)) T.2.2.2) T) T _) (cwV 1 hts gX3_become_X0_become rfl rfl rfl (by decide +kernel) ⟨Nat.le_of_ble_eq_true rfl, Nat.le_of_ble_eq_true rfl⟩) ⟨kB_blind, va_recv hK hP (ci := 0) (q0 := 13) rfl rfl, k_pre (a := []) (z := []) (k_w0 _) hK hP hD⟩ rfl rfl hl.1 rfl (lv_room (Nat.le_of_ble_eq_true rfl)) dX3_become_142 ⟨Nat.zero_le _, Nat.zero_le _⟩) (k_w0 _) (k_w0 _) (k_ad2 (stW_ad _ _ _ _ _) (stW_ad _ _ _ _ _)) hP hD hS hA (fun H locs hP hD hS => ?_)
  exact k_vret hx hb hr hlk hP hS dX3_become_145 (k_P rfl)
