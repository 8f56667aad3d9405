set_option maxHeartbeats 1000000 in
set_option maxRecDepth 100000 in
theorem c_X3_moveWater (l : Launch) (D : va_G) (q : Nat → Nat) (cI cJ : ClassId) (S : SS) (n : Nat) (hn : S.1 8 = nI n) (hn6 : n ≤ 6) : kV l yX3_moveWater wsX3_moveWater ({ frames := 1, cells := 0, slots := 0, locals := 22 } : Room) D [(cI, .int), (cJ, .long)] [.ref (q 0)] (stW q cI cJ S) (stW q cI cJ (s_move S n)) := by
  refine kBody.met (cc := cX3_moveWater) (maxL := 6) (ret := none) (by decide) rfl (Nat.le_of_ble_eq_true rfl) ?_
  intro p9 e9 s9 m9 below meth c9 A9 ls hx hb hr hml hts hown hlk hK hP hD hA hl
  have hown : s9.vm.findClass RX3 = some m9.cls := hown
  have inX2 : ∀ w ∈ wsX20, w ∈ wsX3_moveWater := fun w h => List.mem_cons_of_mem _ (List.mem_append_right _ (h))
  have inX3 : ∀ w ∈ wsX30, w ∈ wsX3_moveWater := fun w h => List.mem_cons_of_mem _ (List.mem_append_left _ (List.mem_append_right _ (h)))
  have hS : va_S A9 s9.heap s9.heap [] := va_S.rf
  have hl : lv_has ls 6 [(0, .ref (q 0))] := hl
  refine lv_aload_n hx hb dX3_moveWater_0 rfl (lv_at hl 0 rfl) ?_
  refine va_get (D := D) (ci := 3) (v := .ref (q 4)) (C := RX3) (T := TX3) (N := 15) hx hb hts inX3 hown hK hP 0 rfl rfl 13 (by decide) (hts (.fieldLink RX3 38 "PumpOaths$Station" "pumps" "LPumpOaths$Pumps;") (List.mem_of_getElem? (i := 1) rfl)) (fun _ h9 => h9) rfl dX3_moveWater_1 ?_
  refine k_calli (a := []) (z := []) (wc := stW q cI cJ S) (wc' := stW q cI cJ (setA S 8 ((p_runR S n).1))) (w' := stW q cI cJ (setA S 8 ((p_runR S n).1))) (va_runV (As := []) (rest := []) ⟨hx, hb, hml, hown, hts⟩ (c_X2_runMinute l D q cI cJ S n hn hn6 _) (cwV 0 hts gX3_moveWater_X2_runMinute rfl rfl rfl (by decide +kernel) ⟨Nat.le_of_ble_eq_true rfl, Nat.le_of_ble_eq_true rfl⟩) ⟨kB_blind, va_recv hK hP (ci := 2) (q0 := 4) rfl rfl, k_pre (a := []) (z := []) (k_w0 _) hK hP hD⟩ rfl rfl hl.1 rfl (lv_room (Nat.le_of_ble_eq_true rfl)) dX3_moveWater_4 ⟨Nat.zero_le _, Nat.zero_le _⟩) (k_w0 _) (k_w0 _) (stW_ad _ _ _ _ _) hP hD hS hA (fun H locs hP hD hS => ?_)
  refine lv_topi (fun x_1 ex_1 => ?_)
  refine lv_istore_n (lv' := [(1, .int x_1), (0, .ref (q 0))]) hx hb dX3_moveWater_7 rfl hl (by decide) rfl (fun ls hl => ?_)
  refine lv_iconst (v := 0) hx hb dX3_moveWater_8 (by decide) ?_
  refine lv_aload_n hx hb dX3_moveWater_9 rfl (lv_at hl 1 rfl) ?_
  refine va_get (D := D) (ci := 3) (v := .int (S.1 1)) (C := RX3) (T := TX3) (N := 15) hx hb hts inX3 hown hK hP 0 rfl rfl 1 (by decide) (hts (.fieldLink RX3 15 "PumpOaths$Station" "level" "I") (List.mem_of_getElem? (i := 2) rfl)) (fun _ h9 => h9) rfl dX3_moveWater_10 ?_
  refine lv_iload_n hx hb dX3_moveWater_13 rfl (lv_at hl 0 rfl) ?_
  refine lv_iadd hx hb dX3_moveWater_14 ?_
  refine lv_aload_n hx hb dX3_moveWater_15 rfl (lv_at hl 1 rfl) ?_
  refine va_get (D := D) (ci := 3) (v := .int (S.1 0)) (C := RX3) (T := TX3) (N := 15) hx hb hts inX3 hown hK hP 0 rfl rfl 0 (by decide) (hts (.fieldLink RX3 11 "PumpOaths$Station" "size" "I") (List.mem_of_getElem? (i := 3) rfl)) (fun _ h9 => h9) rfl dX3_moveWater_16 ?_
  refine lv_isub hx hb dX3_moveWater_19 ?_
  refine va_mmax hx hb (hml.trans hl.1.symm) hown (hts (.methodLink RX3 151 Lib.Math.max.name) (List.mem_of_getElem? (i := 4) rfl)) (hts (.static Lib.Math.max.name) (List.mem_of_getElem? (i := 5) rfl)) (hts (.initialized "java/lang/Math") (List.mem_of_getElem? (i := 6) rfl)) (hts (.code Lib.Math.max.name Lib.Math.max.code 2 (some .int)) (List.mem_of_getElem? (i := 7) rfl)) (Nat.le_of_ble_eq_true rfl) (Nat.le_of_ble_eq_true rfl) (Nat.zero_le _) (Nat.zero_le _) dX3_moveWater_20 ?_
  refine lv_topi (fun x_2 ex_2 => ?_)
  refine lv_istore_n (lv' := [(2, .int x_2), (1, .int x_1), (0, .ref (q 0))]) hx hb dX3_moveWater_23 rfl hl (by decide) rfl (fun ls hl => ?_)
  refine lv_aload_n hx hb dX3_moveWater_24 rfl (lv_at hl 2 rfl) ?_
  refine lv_dup hx hb dX3_moveWater_25 rfl ?_
  refine va_get (D := D) (ci := 3) (v := .int (S.1 1)) (C := RX3) (T := TX3) (N := 15) hx hb hts inX3 hown hK hP 0 rfl rfl 1 (by decide) (hts (.fieldLink RX3 15 "PumpOaths$Station" "level" "I") (List.mem_of_getElem? (i := 2) rfl)) (fun _ h9 => h9) rfl dX3_moveWater_26 ?_
  refine lv_iload_n hx hb dX3_moveWater_29 rfl (lv_at hl 1 rfl) ?_
  refine lv_iload_n hx hb dX3_moveWater_30 rfl (lv_at hl 0 rfl) ?_
  refine lv_isub hx hb dX3_moveWater_31 ?_
  refine lv_iadd hx hb dX3_moveWater_32 ?_
  refine lv_topi (fun x_3 ex_3 => ?_)
  refine va_put (D := D) (ci := 3) (v := .int x_3) (ty := .int) (C := RX3) (T := TX3) (N := 15) hx hb hts inX3 tyX3 tyX3_ok nmX3 hown hK hP hD hS 0 rfl rfl 1 (by decide) (hts (.fieldLink RX3 15 "PumpOaths$Station" "level" "I") (List.mem_of_getElem? (i := 2) rfl)) (fun _ h9 => h9) rfl (by decide +kernel) rfl rfl (Nat.le_of_ble_eq_true rfl) dX3_moveWater_33 (fun H locs hP hD hS => ?_)
  have hP : va_P D vwCl (stW q cI cJ (setI (setA S 8 ((p_runR S n).1)) 1 x_3)) H := hP
  have hD : va_D A9 (stW q cI cJ (setI (setA S 8 ((p_runR S n).1)) 1 x_3)) := hD
  refine lv_aload_n hx hb dX3_moveWater_36 rfl (lv_at hl 2 rfl) ?_
  refine lv_aload_n hx hb dX3_moveWater_37 rfl (lv_at hl 2 rfl) ?_
  refine k_calli (a := []) (z := []) (wc := stW q cI cJ (setI (setA S 8 ((p_runR S n).1)) 1 x_3)) (wc' := stW q cI cJ (setI (setA S 8 ((p_runR S n).1)) 1 x_3)) (w' := stW q cI cJ (setI (setA S 8 ((p_runR S n).1)) 1 x_3)) (va_runV (As := []) (rest := [.ref (q 0)]) ⟨hx, hb, hml, hown, hts⟩ (c_X3_hourNow l D q cI cJ (setI (setA S 8 ((p_runR S n).1)) 1 x_3)  _) (cwV 0 hts gX3_moveWater_X3_hourNow rfl rfl rfl (by decide +kernel) ⟨Nat.le_of_ble_eq_true rfl, Nat.le_of_ble_eq_true rfl⟩) ⟨kB_blind, va_recv hK hP (ci := 3) (q0 := 0) rfl rfl, k_pre (a := []) (z := []) (k_w0 _) hK hP hD⟩ rfl rfl hl.1 rfl (lv_room (Nat.le_of_ble_eq_true rfl)) dX3_moveWater_38 ⟨Nat.zero_le _, Nat.zero_le _⟩) (k_w0 _) (k_w0 _) (stW_ad _ _ _ _ _) hP hD hS hA (fun H locs hP hD hS => ?_)
  rw [show s_hour (setI (setA S 8 ((p_runR S n).1)) 1 x_3) = s_hour S from rfl]
  refine k_calli (a := []) (z := []) (wc := stW q cI cJ (setI (setA S 8 ((p_runR S n).1)) 1 x_3)) (wc' := stW q cI cJ (setI (setA S 8 ((p_runR S n).1)) 1 x_3)) (w' := stW q cI cJ (setI (setA S 8 ((p_runR S n).1)) 1 x_3)) (va_runV (As := [.int (s_hour S)]) (rest := []) ⟨hx, hb, hml, hown, hts⟩ (c_X3_demandAt l D q cI cJ (setI (setA S 8 ((p_runR S n).1)) 1 x_3) (s_hour S) _) (cwV 1 hts gX3_moveWater_X3_demandAt rfl rfl rfl (by decide +kernel) ⟨Nat.le_of_ble_eq_true rfl, Nat.le_of_ble_eq_true rfl⟩) ⟨kB_blind, va_recv hK hP (ci := 3) (q0 := 0) rfl rfl, k_pre (a := []) (z := []) (k_w0 _) hK hP hD⟩ rfl rfl hl.1 rfl (lv_room (Nat.le_of_ble_eq_true rfl)) dX3_moveWater_41 ⟨Nat.zero_le _, Nat.zero_le _⟩) (k_w0 _) (k_w0 _) (stW_ad _ _ _ _ _) hP hD hS hA (fun H locs hP hD hS => ?_)
  rw [show s_dem (setI (setA S 8 ((p_runR S n).1)) 1 x_3) (s_hour S) = s_dem S (s_hour S) from rfl]
  refine lv_topi (fun x_4 ex_4 => ?_)
  refine lv_istore_n (lv' := [(3, .int x_4), (2, .int x_2), (1, .int x_1), (0, .ref (q 0))]) hx hb dX3_moveWater_44 rfl hl (by decide) rfl (fun ls hl => ?_)
  refine lv_iload_n hx hb dX3_moveWater_45 rfl (lv_at hl 0 rfl) ?_
  refine lv_aload_n hx hb dX3_moveWater_46 rfl (lv_at hl 3 rfl) ?_
  refine va_get (D := D) (ci := 3) (v := .int x_3) (C := RX3) (T := TX3) (N := 15) hx hb hts inX3 hown hK hP 0 rfl rfl 1 (by decide) (hts (.fieldLink RX3 15 "PumpOaths$Station" "level" "I") (List.mem_of_getElem? (i := 2) rfl)) (fun _ h9 => h9) rfl dX3_moveWater_47 ?_
  refine va_mmin hx hb (hml.trans hl.1.symm) hown (hts (.methodLink RX3 157 Lib.Math.min.name) (List.mem_of_getElem? (i := 8) rfl)) (hts (.static Lib.Math.min.name) (List.mem_of_getElem? (i := 9) rfl)) (hts (.initialized "java/lang/Math") (List.mem_of_getElem? (i := 6) rfl)) (hts (.code Lib.Math.min.name Lib.Math.min.code 2 (some .int)) (List.mem_of_getElem? (i := 10) rfl)) (Nat.le_of_ble_eq_true rfl) (Nat.le_of_ble_eq_true rfl) (Nat.zero_le _) (Nat.zero_le _) dX3_moveWater_50 ?_
  refine lv_topi (fun x_5 ex_5 => ?_)
  refine lv_istore (lv' := [(4, .int x_5), (3, .int x_4), (2, .int x_2), (1, .int x_1), (0, .ref (q 0))]) hx hb dX3_moveWater_53 hl (by decide) rfl (fun ls hl => ?_)
  refine lv_aload_n hx hb dX3_moveWater_55 rfl (lv_at hl 4 rfl) ?_
  refine lv_dup hx hb dX3_moveWater_56 rfl ?_
  refine va_get (D := D) (ci := 3) (v := .int x_3) (C := RX3) (T := TX3) (N := 15) hx hb hts inX3 hown hK hP 0 rfl rfl 1 (by decide) (hts (.fieldLink RX3 15 "PumpOaths$Station" "level" "I") (List.mem_of_getElem? (i := 2) rfl)) (fun _ h9 => h9) rfl dX3_moveWater_57 ?_
  refine lv_iload hx hb dX3_moveWater_60 (lv_at hl 0 rfl) ?_
  refine lv_isub hx hb dX3_moveWater_62 ?_
  refine lv_topi (fun x_6 ex_6 => ?_)
  refine va_put (D := D) (ci := 3) (v := .int x_6) (ty := .int) (C := RX3) (T := TX3) (N := 15) hx hb hts inX3 tyX3 tyX3_ok nmX3 hown hK hP hD hS 0 rfl rfl 1 (by decide) (hts (.fieldLink RX3 15 "PumpOaths$Station" "level" "I") (List.mem_of_getElem? (i := 2) rfl)) (fun _ h9 => h9) rfl (by decide +kernel) rfl rfl (Nat.le_of_ble_eq_true rfl) dX3_moveWater_63 (fun H locs hP hD hS => ?_)
  have hP : va_P D vwCl (stW q cI cJ (setI (setA S 8 ((p_runR S n).1)) 1 x_6)) H := hP
  have hD : va_D A9 (stW q cI cJ (setI (setA S 8 ((p_runR S n).1)) 1 x_6)) := hD
  refine lv_aload_n hx hb dX3_moveWater_66 rfl (lv_at hl 4 rfl) ?_
  refine va_get (D := D) (ci := 3) (v := .ref (q 1)) (C := RX3) (T := TX3) (N := 15) hx hb hts inX3 hown hK hP 0 rfl rfl 10 (by decide) (hts (.fieldLink RX3 24 "PumpOaths$Station" "settings" "[I") (List.mem_of_getElem? (i := 11) rfl)) (fun _ h9 => h9) rfl dX3_moveWater_67 ?_
  refine lv_iconst (v := 1) hx hb dX3_moveWater_70 (by decide) ?_
  refine va_iald (f := S.2.2.1 0) hx hb hK hP 1 0 rfl rfl (k_in (k := 1) rfl (by decide) (by decide)) dX3_moveWater_71 ?_
  rw [show (1 : Int32).toNatClampNeg = 1 from rfl]
  refine lv_aload_n hx hb dX3_moveWater_72 rfl (lv_at hl 4 rfl) ?_
  refine va_get (D := D) (ci := 3) (v := .int x_6) (C := RX3) (T := TX3) (N := 15) hx hb hts inX3 hown hK hP 0 rfl rfl 1 (by decide) (hts (.fieldLink RX3 15 "PumpOaths$Station" "level" "I") (List.mem_of_getElem? (i := 2) rfl)) (fun _ h9 => h9) rfl dX3_moveWater_73 ?_
  refine va_mmin hx hb (hml.trans hl.1.symm) hown (hts (.methodLink RX3 157 Lib.Math.min.name) (List.mem_of_getElem? (i := 8) rfl)) (hts (.static Lib.Math.min.name) (List.mem_of_getElem? (i := 9) rfl)) (hts (.initialized "java/lang/Math") (List.mem_of_getElem? (i := 6) rfl)) (hts (.code Lib.Math.min.name Lib.Math.min.code 2 (some .int)) (List.mem_of_getElem? (i := 10) rfl)) (Nat.le_of_ble_eq_true rfl) (Nat.le_of_ble_eq_true rfl) (Nat.zero_le _) (Nat.zero_le _) dX3_moveWater_76 ?_
  refine lv_topi (fun x_7 ex_7 => ?_)
  refine lv_istore (lv' := [(5, .int x_7), (4, .int x_5), (3, .int x_4), (2, .int x_2), (1, .int x_1), (0, .ref (q 0))]) hx hb dX3_moveWater_79 hl (by decide) rfl (fun ls hl => ?_)
  refine lv_aload_n hx hb dX3_moveWater_81 rfl (lv_at hl 5 rfl) ?_
  refine lv_dup hx hb dX3_moveWater_82 rfl ?_
  refine va_get (D := D) (ci := 3) (v := .int x_6) (C := RX3) (T := TX3) (N := 15) hx hb hts inX3 hown hK hP 0 rfl rfl 1 (by decide) (hts (.fieldLink RX3 15 "PumpOaths$Station" "level" "I") (List.mem_of_getElem? (i := 2) rfl)) (fun _ h9 => h9) rfl dX3_moveWater_83 ?_
  refine lv_iload hx hb dX3_moveWater_86 (lv_at hl 0 rfl) ?_
  refine lv_isub hx hb dX3_moveWater_88 ?_
  refine lv_topi (fun x_8 ex_8 => ?_)
  refine va_put (D := D) (ci := 3) (v := .int x_8) (ty := .int) (C := RX3) (T := TX3) (N := 15) hx hb hts inX3 tyX3 tyX3_ok nmX3 hown hK hP hD hS 0 rfl rfl 1 (by decide) (hts (.fieldLink RX3 15 "PumpOaths$Station" "level" "I") (List.mem_of_getElem? (i := 2) rfl)) (fun _ h9 => h9) rfl (by decide +kernel) rfl rfl (Nat.le_of_ble_eq_true rfl) dX3_moveWater_89 (fun H locs hP hD hS => ?_)
  have hP : va_P D vwCl (stW q cI cJ (setI (setA S 8 ((p_runR S n).1)) 1 x_8)) H := hP
  have hD : va_D A9 (stW q cI cJ (setI (setA S 8 ((p_runR S n).1)) 1 x_8)) := hD
  refine lv_aload_n hx hb dX3_moveWater_92 rfl (lv_at hl 5 rfl) ?_
  refine va_get (D := D) (ci := 3) (v := .ref (q 3)) (C := RX3) (T := TX3) (N := 15) hx hb hts inX3 hown hK hP 0 rfl rfl 12 (by decide) (hts (.fieldLink RX3 31 "PumpOaths$Station" "waters" "[J") (List.mem_of_getElem? (i := 12) rfl)) (fun _ h9 => h9) rfl dX3_moveWater_93 ?_
  refine lv_iconst (v := 0) hx hb dX3_moveWater_96 (by decide) ?_
  refine lv_dup2_11 hx hb dX3_moveWater_97 rfl rfl ?_
  refine va_lald (f := S.2.2.2) hx hb hK hP 3 1 rfl rfl (k_in (k := 0) rfl (by decide) (by decide)) dX3_moveWater_98 ?_
  rw [show (0 : Int32).toNatClampNeg = 0 from rfl]
  refine lv_iload_n hx hb dX3_moveWater_99 rfl (lv_at hl 4 rfl) ?_
  refine lv_i2l hx hb dX3_moveWater_100 rfl ?_
  refine lv_ladd hx hb dX3_moveWater_101 ?_
  refine lv_topl (fun y_9 ey_9 => ?_)
  refine va_last (f := S.2.2.2) hx hb hK hP hD hS 3 1 rfl rfl (k_in (k := 0) rfl (by decide) (by decide)) dX3_moveWater_102 (fun H locs hP hD hS => ?_)
  rw [show (0 : Int32).toNatClampNeg = 0 from rfl] at hP hD
  have hP : va_P D vwCl (stW q cI cJ (setV (setI (setA S 8 ((p_runR S n).1)) 1 x_8) (vp_updL S.2.2.2 0 y_9))) H := hP
  have hD : va_D A9 (stW q cI cJ (setV (setI (setA S 8 ((p_runR S n).1)) 1 x_8) (vp_updL S.2.2.2 0 y_9))) := hD
  refine lv_aload_n hx hb dX3_moveWater_103 rfl (lv_at hl 5 rfl) ?_
  refine va_get (D := D) (ci := 3) (v := .ref (q 3)) (C := RX3) (T := TX3) (N := 15) hx hb hts inX3 hown hK hP 0 rfl rfl 12 (by decide) (hts (.fieldLink RX3 31 "PumpOaths$Station" "waters" "[J") (List.mem_of_getElem? (i := 12) rfl)) (fun _ h9 => h9) rfl dX3_moveWater_104 ?_
  refine lv_iconst (v := 1) hx hb dX3_moveWater_107 (by decide) ?_
  refine lv_dup2_11 hx hb dX3_moveWater_108 rfl rfl ?_
  refine va_lald (f := vp_updL S.2.2.2 0 y_9) hx hb hK hP 3 1 rfl rfl (k_in (k := 1) rfl (by decide) (by decide)) dX3_moveWater_109 ?_
  rw [show (1 : Int32).toNatClampNeg = 1 from rfl]
  rw [show (vp_updL S.2.2.2 0 y_9) 1 = S.2.2.2 1 from (pk_uLn (by omega)).trans (rfl)]
  refine lv_iload_n hx hb dX3_moveWater_110 rfl (lv_at hl 3 rfl) ?_
  refine lv_i2l hx hb dX3_moveWater_111 rfl ?_
  refine lv_ladd hx hb dX3_moveWater_112 ?_
  refine lv_topl (fun y_10 ey_10 => ?_)
  refine va_last (f := vp_updL S.2.2.2 0 y_9) hx hb hK hP hD hS 3 1 rfl rfl (k_in (k := 1) rfl (by decide) (by decide)) dX3_moveWater_113 (fun H locs hP hD hS => ?_)
  rw [show (1 : Int32).toNatClampNeg = 1 from rfl] at hP hD
  have hP : va_P D vwCl (stW q cI cJ (setV (setI (setA S 8 ((p_runR S n).1)) 1 x_8) (vp_updL (vp_updL S.2.2.2 0 y_9) 1 y_10))) H := hP
  have hD : va_D A9 (stW q cI cJ (setV (setI (setA S 8 ((p_runR S n).1)) 1 x_8) (vp_updL (vp_updL S.2.2.2 0 y_9) 1 y_10))) := hD
  refine lv_aload_n hx hb dX3_moveWater_114 rfl (lv_at hl 5 rfl) ?_
  refine va_get (D := D) (ci := 3) (v := .ref (q 3)) (C := RX3) (T := TX3) (N := 15) hx hb hts inX3 hown hK hP 0 rfl rfl 12 (by decide) (hts (.fieldLink RX3 31 "PumpOaths$Station" "waters" "[J") (List.mem_of_getElem? (i := 12) rfl)) (fun _ h9 => h9) rfl dX3_moveWater_115 ?_
  refine lv_iconst (v := 2) hx hb dX3_moveWater_118 (by decide) ?_
  refine lv_dup2_11 hx hb dX3_moveWater_119 rfl rfl ?_
  refine va_lald (f := vp_updL (vp_updL S.2.2.2 0 y_9) 1 y_10) hx hb hK hP 3 1 rfl rfl (k_in (k := 2) rfl (by decide) (by decide)) dX3_moveWater_120 ?_
  rw [show (2 : Int32).toNatClampNeg = 2 from rfl]
  rw [show (vp_updL (vp_updL S.2.2.2 0 y_9) 1 y_10) 2 = S.2.2.2 2 from (pk_uLn (by omega)).trans ((pk_uLn (by omega)).trans (rfl))]
  refine lv_iload hx hb dX3_moveWater_121 (lv_at hl 1 rfl) ?_
  refine lv_i2l hx hb dX3_moveWater_123 rfl ?_
  refine lv_ladd hx hb dX3_moveWater_124 ?_
  refine lv_topl (fun y_11 ey_11 => ?_)
  refine va_last (f := vp_updL (vp_updL S.2.2.2 0 y_9) 1 y_10) hx hb hK hP hD hS 3 1 rfl rfl (k_in (k := 2) rfl (by decide) (by decide)) dX3_moveWater_125 (fun H locs hP hD hS => ?_)
  rw [show (2 : Int32).toNatClampNeg = 2 from rfl] at hP hD
  have hP : va_P D vwCl (stW q cI cJ (setV (setI (setA S 8 ((p_runR S n).1)) 1 x_8) (vp_updL (vp_updL (vp_updL S.2.2.2 0 y_9) 1 y_10) 2 y_11))) H := hP
  have hD : va_D A9 (stW q cI cJ (setV (setI (setA S 8 ((p_runR S n).1)) 1 x_8) (vp_updL (vp_updL (vp_updL S.2.2.2 0 y_9) 1 y_10) 2 y_11))) := hD
  refine lv_aload_n hx hb dX3_moveWater_126 rfl (lv_at hl 5 rfl) ?_
  refine va_get (D := D) (ci := 3) (v := .ref (q 3)) (C := RX3) (T := TX3) (N := 15) hx hb hts inX3 hown hK hP 0 rfl rfl 12 (by decide) (hts (.fieldLink RX3 31 "PumpOaths$Station" "waters" "[J") (List.mem_of_getElem? (i := 12) rfl)) (fun _ h9 => h9) rfl dX3_moveWater_127 ?_
  refine lv_iconst (v := 3) hx hb dX3_moveWater_130 (by decide) ?_
  refine lv_dup2_11 hx hb dX3_moveWater_131 rfl rfl ?_
  refine va_lald (f := vp_updL (vp_updL (vp_updL S.2.2.2 0 y_9) 1 y_10) 2 y_11) hx hb hK hP 3 1 rfl rfl (k_in (k := 3) rfl (by decide) (by decide)) dX3_moveWater_132 ?_
  rw [show (3 : Int32).toNatClampNeg = 3 from rfl]
  rw [show (vp_updL (vp_updL (vp_updL S.2.2.2 0 y_9) 1 y_10) 2 y_11) 3 = S.2.2.2 3 from (pk_uLn (by omega)).trans ((pk_uLn (by omega)).trans ((pk_uLn (by omega)).trans (rfl)))]
  refine lv_iload_n hx hb dX3_moveWater_133 rfl (lv_at hl 2 rfl) ?_
  refine lv_iload hx hb dX3_moveWater_134 (lv_at hl 1 rfl) ?_
  refine lv_isub hx hb dX3_moveWater_136 ?_
  refine lv_i2l hx hb dX3_moveWater_137 rfl ?_
  refine lv_ladd hx hb dX3_moveWater_138 ?_
  refine lv_topl (fun y_12 ey_12 => ?_)
  refine va_last (f := vp_updL (vp_updL (vp_updL S.2.2.2 0 y_9) 1 y_10) 2 y_11) hx hb hK hP hD hS 3 1 rfl rfl (k_in (k := 3) rfl (by decide) (by decide)) dX3_moveWater_139 (fun H locs hP hD hS => ?_)
  rw [show (3 : Int32).toNatClampNeg = 3 from rfl] at hP hD
  have hP : va_P D vwCl (stW q cI cJ (setV (setI (setA S 8 ((p_runR S n).1)) 1 x_8) (vp_updL (vp_updL (vp_updL (vp_updL S.2.2.2 0 y_9) 1 y_10) 2 y_11) 3 y_12))) H := hP
  have hD : va_D A9 (stW q cI cJ (setV (setI (setA S 8 ((p_runR S n).1)) 1 x_8) (vp_updL (vp_updL (vp_updL (vp_updL S.2.2.2 0 y_9) 1 y_10) 2 y_11) 3 y_12))) := hD
  refine lv_aload_n hx hb dX3_moveWater_140 rfl (lv_at hl 5 rfl) ?_
  refine va_get (D := D) (ci := 3) (v := .ref (q 3)) (C := RX3) (T := TX3) (N := 15) hx hb hts inX3 hown hK hP 0 rfl rfl 12 (by decide) (hts (.fieldLink RX3 31 "PumpOaths$Station" "waters" "[J") (List.mem_of_getElem? (i := 12) rfl)) (fun _ h9 => h9) rfl dX3_moveWater_141 ?_
  refine lv_iconst (v := 4) hx hb dX3_moveWater_144 (by decide) ?_
  refine lv_dup2_11 hx hb dX3_moveWater_145 rfl rfl ?_
  refine va_lald (f := vp_updL (vp_updL (vp_updL (vp_updL S.2.2.2 0 y_9) 1 y_10) 2 y_11) 3 y_12) hx hb hK hP 3 1 rfl rfl (k_in (k := 4) rfl (by decide) (by decide)) dX3_moveWater_146 ?_
  rw [show (4 : Int32).toNatClampNeg = 4 from rfl]
  rw [show (vp_updL (vp_updL (vp_updL (vp_updL S.2.2.2 0 y_9) 1 y_10) 2 y_11) 3 y_12) 4 = S.2.2.2 4 from (pk_uLn (by omega)).trans ((pk_uLn (by omega)).trans ((pk_uLn (by omega)).trans ((pk_uLn (by omega)).trans (rfl))))]
  refine lv_iload hx hb dX3_moveWater_147 (lv_at hl 0 rfl) ?_
  refine lv_i2l hx hb dX3_moveWater_149 rfl ?_
  refine lv_ladd hx hb dX3_moveWater_150 ?_
  refine lv_topl (fun y_13 ey_13 => ?_)
  refine va_last (f := vp_updL (vp_updL (vp_updL (vp_updL S.2.2.2 0 y_9) 1 y_10) 2 y_11) 3 y_12) hx hb hK hP hD hS 3 1 rfl rfl (k_in (k := 4) rfl (by decide) (by decide)) dX3_moveWater_151 (fun H locs hP hD hS => ?_)
  rw [show (4 : Int32).toNatClampNeg = 4 from rfl] at hP hD
  have hP : va_P D vwCl (stW q cI cJ (setV (setI (setA S 8 ((p_runR S n).1)) 1 x_8) (vp_updL (vp_updL (vp_updL (vp_updL (vp_updL S.2.2.2 0 y_9) 1 y_10) 2 y_11) 3 y_12) 4 y_13))) H := hP
  have hD : va_D A9 (stW q cI cJ (setV (setI (setA S 8 ((p_runR S n).1)) 1 x_8) (vp_updL (vp_updL (vp_updL (vp_updL (vp_updL S.2.2.2 0 y_9) 1 y_10) 2 y_11) 3 y_12) 4 y_13))) := hD
  exact k_vret hx hb hr hlk hP hS dX3_moveWater_152 (k_P (by subst ey_13 ey_12 ey_11 ey_10 ey_9 ex_8 ex_7 ex_6 ex_5 ex_4 ex_3 ex_2 ex_1; rfl))
