set_option maxHeartbeats 1000000 in
set_option maxRecDepth 100000 in
theorem c_X2_becomeF (l : Launch) (D : va_G) (q r : Nat → Nat) (cI cJ : ClassId) (S T : SS)  : kV l yX2_become wsX2_become ({ frames := 1, cells := 0, slots := 0, locals := 40 } : Room) D [(cI, .int), (cJ, .long)] [.ref (q 4), .ref (r 4)] (stW r cI cJ T ++ (stW q cI cJ S)) (stW r cI cJ T ++ (stW q cI cJ (p_become S T))) := by
  refine kBody.met (cc := cX2_become) (maxL := 2) (ret := none) (by decide) rfl (Nat.le_of_ble_eq_true rfl) ?_
  intro p9 e9 s9 m9 below meth c9 A9 ls hx hb hr hml hts hown hlk hK hP hD hA hl
  have hown : s9.vm.findClass RX2 = some m9.cls := hown
  have inX2 : ∀ w ∈ wsX20, w ∈ wsX2_become := fun w h => List.mem_cons_of_mem _ (List.mem_append_right _ (h))
  have hS : va_S A9 s9.heap s9.heap [] := va_S.rf
  have hl : lv_has ls 2 [(0, .ref (q 4)), (1, .ref (r 4))] := hl
  refine lv_aload_n hx hb dX2_become_0 rfl (lv_at hl 0 rfl) ?_
  refine lv_aload_n hx hb dX2_become_1 rfl (lv_at hl 1 rfl) ?_
  refine va_get (D := D) (ci := 2) (v := .int (T.1 8)) (C := RX2) (T := TX2) (N := 9) hx hb hts inX2 hown hK hP 4 rfl rfl 0 (by decide) (hts (.fieldLink RX2 36 "PumpOaths$Pumps" "count" "I") (List.mem_of_getElem? (i := 1) rfl)) (fun _ h9 => h9) rfl dX2_become_2 ?_
  refine va_put (D := D) (ci := 2) (v := .int (T.1 8)) (ty := .int) (C := RX2) (T := TX2) (N := 9) hx hb hts inX2 tyX2 tyX2_ok nmX2 hown hK hP hD hS 19 rfl rfl 0 (by decide) (hts (.fieldLink RX2 36 "PumpOaths$Pumps" "count" "I") (List.mem_of_getElem? (i := 1) rfl)) (fun _ h9 => h9) rfl (by decide +kernel) rfl rfl (Nat.le_of_ble_eq_true rfl) dX2_become_5 (fun H locs hP hD hS => ?_)
  have hP : va_P D vwCl (stW r cI cJ T ++ (stW q cI cJ (setI S 8 (T.1 8)))) H := hP
  have hD : va_D A9 (stW r cI cJ T ++ (stW q cI cJ (setI S 8 (T.1 8)))) := hD
  refine lv_aload_n hx hb dX2_become_8 rfl (lv_at hl 1 rfl) ?_
  refine va_get (D := D) (ci := 2) (v := .ref (r 5)) (C := RX2) (T := TX2) (N := 9) hx hb hts inX2 hown hK hP 4 rfl rfl 1 (by decide) (hts (.fieldLink RX2 11 "PumpOaths$Pumps" "capacity" "[I") (List.mem_of_getElem? (i := 2) rfl)) (fun _ h9 => h9) rfl dX2_become_9 ?_
  refine lv_iconst (v := 0) hx hb dX2_become_12 (by decide) ?_
  refine lv_aload_n hx hb dX2_become_13 rfl (lv_at hl 0 rfl) ?_
  refine va_get (D := D) (ci := 2) (v := .ref (q 5)) (C := RX2) (T := TX2) (N := 9) hx hb hts inX2 hown hK hP 19 rfl rfl 1 (by decide) (hts (.fieldLink RX2 11 "PumpOaths$Pumps" "capacity" "[I") (List.mem_of_getElem? (i := 2) rfl)) (fun _ h9 => h9) rfl dX2_become_14 ?_
  refine lv_iconst (v := 0) hx hb dX2_become_17 (by decide) ?_
  refine lv_bipush (v := 6) hx hb dX2_become_18 (by decide) ?_
  refine k_copyi hx hb (hml.trans hl.1.symm) hown (hts (.methodLink RX2 40 arraycopyName) (List.mem_of_getElem? (i := 3) rfl)) (hts (.native arraycopyName) (List.mem_of_getElem? (i := 4) rfl)) (hts (.static arraycopyName) (List.mem_of_getElem? (i := 5) rfl)) (hts (.initialized "java/lang/System") (List.mem_of_getElem? (i := 6) rfl)) hK hP hD hS 5 20 0 0 rfl rfl rfl rfl (by decide) rfl (by decide) (Nat.le_of_ble_eq_true rfl) dX2_become_20 (fun H locs hP hD hS => ?_)
  have hP : va_P D vwCl (stW r cI cJ T ++ (stW q cI cJ (setA (setI S 8 (T.1 8)) 2 (T.2.2.1 2)))) H := hP
  have hD : va_D A9 (stW r cI cJ T ++ (stW q cI cJ (setA (setI S 8 (T.1 8)) 2 (T.2.2.1 2)))) := hD
  refine lv_aload_n hx hb dX2_become_23 rfl (lv_at hl 1 rfl) ?_
  refine va_get (D := D) (ci := 2) (v := .ref (r 6)) (C := RX2) (T := TX2) (N := 9) hx hb hts inX2 hown hK hP 4 rfl rfl 2 (by decide) (hts (.fieldLink RX2 15 "PumpOaths$Pumps" "oath" "[I") (List.mem_of_getElem? (i := 7) rfl)) (fun _ h9 => h9) rfl dX2_become_24 ?_
  refine lv_iconst (v := 0) hx hb dX2_become_27 (by decide) ?_
  refine lv_aload_n hx hb dX2_become_28 rfl (lv_at hl 0 rfl) ?_
  refine va_get (D := D) (ci := 2) (v := .ref (q 6)) (C := RX2) (T := TX2) (N := 9) hx hb hts inX2 hown hK hP 19 rfl rfl 2 (by decide) (hts (.fieldLink RX2 15 "PumpOaths$Pumps" "oath" "[I") (List.mem_of_getElem? (i := 7) rfl)) (fun _ h9 => h9) rfl dX2_become_29 ?_
  refine lv_iconst (v := 0) hx hb dX2_become_32 (by decide) ?_
  refine lv_bipush (v := 6) hx hb dX2_become_33 (by decide) ?_
  refine k_copyi hx hb (hml.trans hl.1.symm) hown (hts (.methodLink RX2 40 arraycopyName) (List.mem_of_getElem? (i := 3) rfl)) (hts (.native arraycopyName) (List.mem_of_getElem? (i := 4) rfl)) (hts (.static arraycopyName) (List.mem_of_getElem? (i := 5) rfl)) (hts (.initialized "java/lang/System") (List.mem_of_getElem? (i := 6) rfl)) hK hP hD hS 6 21 0 0 rfl rfl rfl rfl (by decide) rfl (by decide) (Nat.le_of_ble_eq_true rfl) dX2_become_35 (fun H locs hP hD hS => ?_)
  have hP : va_P D vwCl (stW r cI cJ T ++ (stW q cI cJ (setA (setA (setI S 8 (T.1 8)) 2 (T.2.2.1 2)) 3 (T.2.2.1 3)))) H := hP
  have hD : va_D A9 (stW r cI cJ T ++ (stW q cI cJ (setA (setA (setI S 8 (T.1 8)) 2 (T.2.2.1 2)) 3 (T.2.2.1 3)))) := hD
  refine lv_aload_n hx hb dX2_become_38 rfl (lv_at hl 1 rfl) ?_
  refine va_get (D := D) (ci := 2) (v := .ref (r 7)) (C := RX2) (T := TX2) (N := 9) hx hb hts inX2 hown hK hP 4 rfl rfl 3 (by decide) (hts (.fieldLink RX2 18 "PumpOaths$Pumps" "mode" "[I") (List.mem_of_getElem? (i := 8) rfl)) (fun _ h9 => h9) rfl dX2_become_39 ?_
  refine lv_iconst (v := 0) hx hb dX2_become_42 (by decide) ?_
  refine lv_aload_n hx hb dX2_become_43 rfl (lv_at hl 0 rfl) ?_
  refine va_get (D := D) (ci := 2) (v := .ref (q 7)) (C := RX2) (T := TX2) (N := 9) hx hb hts inX2 hown hK hP 19 rfl rfl 3 (by decide) (hts (.fieldLink RX2 18 "PumpOaths$Pumps" "mode" "[I") (List.mem_of_getElem? (i := 8) rfl)) (fun _ h9 => h9) rfl dX2_become_44 ?_
  refine lv_iconst (v := 0) hx hb dX2_become_47 (by decide) ?_
  refine lv_bipush (v := 6) hx hb dX2_become_48 (by decide) ?_
  refine k_copyi hx hb (hml.trans hl.1.symm) hown (hts (.methodLink RX2 40 arraycopyName) (List.mem_of_getElem? (i := 3) rfl)) (hts (.native arraycopyName) (List.mem_of_getElem? (i := 4) rfl)) (hts (.static arraycopyName) (List.mem_of_getElem? (i := 5) rfl)) (hts (.initialized "java/lang/System") (List.mem_of_getElem? (i := 6) rfl)) hK hP hD hS 7 22 0 0 rfl rfl rfl rfl (by decide) rfl (by decide) (Nat.le_of_ble_eq_true rfl) dX2_become_50 (fun H locs hP hD hS => ?_)
  have hP : va_P D vwCl (stW r cI cJ T ++ (stW q cI cJ (setA (setA (setA (setI S 8 (T.1 8)) 2 (T.2.2.1 2)) 3 (T.2.2.1 3)) 4 (T.2.2.1 4)))) H := hP
  have hD : va_D A9 (stW r cI cJ T ++ (stW q cI cJ (setA (setA (setA (setI S 8 (T.1 8)) 2 (T.2.2.1 2)) 3 (T.2.2.1 3)) 4 (T.2.2.1 4)))) := hD
  refine lv_aload_n hx hb dX2_become_53 rfl (lv_at hl 1 rfl) ?_
  refine va_get (D := D) (ci := 2) (v := .ref (r 8)) (C := RX2) (T := TX2) (N := 9) hx hb hts inX2 hown hK hP 4 rfl rfl 4 (by decide) (hts (.fieldLink RX2 21 "PumpOaths$Pumps" "place" "[I") (List.mem_of_getElem? (i := 9) rfl)) (fun _ h9 => h9) rfl dX2_become_54 ?_
  refine lv_iconst (v := 0) hx hb dX2_become_57 (by decide) ?_
  refine lv_aload_n hx hb dX2_become_58 rfl (lv_at hl 0 rfl) ?_
  refine va_get (D := D) (ci := 2) (v := .ref (q 8)) (C := RX2) (T := TX2) (N := 9) hx hb hts inX2 hown hK hP 19 rfl rfl 4 (by decide) (hts (.fieldLink RX2 21 "PumpOaths$Pumps" "place" "[I") (List.mem_of_getElem? (i := 9) rfl)) (fun _ h9 => h9) rfl dX2_become_59 ?_
  refine lv_iconst (v := 0) hx hb dX2_become_62 (by decide) ?_
  refine lv_bipush (v := 6) hx hb dX2_become_63 (by decide) ?_
  refine k_copyi hx hb (hml.trans hl.1.symm) hown (hts (.methodLink RX2 40 arraycopyName) (List.mem_of_getElem? (i := 3) rfl)) (hts (.native arraycopyName) (List.mem_of_getElem? (i := 4) rfl)) (hts (.static arraycopyName) (List.mem_of_getElem? (i := 5) rfl)) (hts (.initialized "java/lang/System") (List.mem_of_getElem? (i := 6) rfl)) hK hP hD hS 8 23 0 0 rfl rfl rfl rfl (by decide) rfl (by decide) (Nat.le_of_ble_eq_true rfl) dX2_become_65 (fun H locs hP hD hS => ?_)
  have hP : va_P D vwCl (stW r cI cJ T ++ (stW q cI cJ (setA (setA (setA (setA (setI S 8 (T.1 8)) 2 (T.2.2.1 2)) 3 (T.2.2.1 3)) 4 (T.2.2.1 4)) 5 (T.2.2.1 5)))) H := hP
  have hD : va_D A9 (stW r cI cJ T ++ (stW q cI cJ (setA (setA (setA (setA (setI S 8 (T.1 8)) 2 (T.2.2.1 2)) 3 (T.2.2.1 3)) 4 (T.2.2.1 4)) 5 (T.2.2.1 5)))) := hD
  refine lv_aload_n hx hb dX2_become_68 rfl (lv_at hl 1 rfl) ?_
  refine va_get (D := D) (ci := 2) (v := .ref (r 9)) (C := RX2) (T := TX2) (N := 9) hx hb hts inX2 hown hK hP 4 rfl rfl 5 (by decide) (hts (.fieldLink RX2 24 "PumpOaths$Pumps" "hourStarts" "[I") (List.mem_of_getElem? (i := 10) rfl)) (fun _ h9 => h9) rfl dX2_become_69 ?_
  refine lv_iconst (v := 0) hx hb dX2_become_72 (by decide) ?_
  refine lv_aload_n hx hb dX2_become_73 rfl (lv_at hl 0 rfl) ?_
  refine va_get (D := D) (ci := 2) (v := .ref (q 9)) (C := RX2) (T := TX2) (N := 9) hx hb hts inX2 hown hK hP 19 rfl rfl 5 (by decide) (hts (.fieldLink RX2 24 "PumpOaths$Pumps" "hourStarts" "[I") (List.mem_of_getElem? (i := 10) rfl)) (fun _ h9 => h9) rfl dX2_become_74 ?_
  refine lv_iconst (v := 0) hx hb dX2_become_77 (by decide) ?_
  refine lv_bipush (v := 6) hx hb dX2_become_78 (by decide) ?_
  refine k_copyi hx hb (hml.trans hl.1.symm) hown (hts (.methodLink RX2 40 arraycopyName) (List.mem_of_getElem? (i := 3) rfl)) (hts (.native arraycopyName) (List.mem_of_getElem? (i := 4) rfl)) (hts (.static arraycopyName) (List.mem_of_getElem? (i := 5) rfl)) (hts (.initialized "java/lang/System") (List.mem_of_getElem? (i := 6) rfl)) hK hP hD hS 9 24 0 0 rfl rfl rfl rfl (by decide) rfl (by decide) (Nat.le_of_ble_eq_true rfl) dX2_become_80 (fun H locs hP hD hS => ?_)
  have hP : va_P D vwCl (stW r cI cJ T ++ (stW q cI cJ (setA (setA (setA (setA (setA (setI S 8 (T.1 8)) 2 (T.2.2.1 2)) 3 (T.2.2.1 3)) 4 (T.2.2.1 4)) 5 (T.2.2.1 5)) 6 (T.2.2.1 6)))) H := hP
  have hD : va_D A9 (stW r cI cJ T ++ (stW q cI cJ (setA (setA (setA (setA (setA (setI S 8 (T.1 8)) 2 (T.2.2.1 2)) 3 (T.2.2.1 3)) 4 (T.2.2.1 4)) 5 (T.2.2.1 5)) 6 (T.2.2.1 6)))) := hD
  refine lv_aload_n hx hb dX2_become_83 rfl (lv_at hl 1 rfl) ?_
  refine va_get (D := D) (ci := 2) (v := .ref (r 10)) (C := RX2) (T := TX2) (N := 9) hx hb hts inX2 hown hK hP 4 rfl rfl 6 (by decide) (hts (.fieldLink RX2 27 "PumpOaths$Pumps" "starts" "[I") (List.mem_of_getElem? (i := 11) rfl)) (fun _ h9 => h9) rfl dX2_become_84 ?_
  refine lv_iconst (v := 0) hx hb dX2_become_87 (by decide) ?_
  refine lv_aload_n hx hb dX2_become_88 rfl (lv_at hl 0 rfl) ?_
  refine va_get (D := D) (ci := 2) (v := .ref (q 10)) (C := RX2) (T := TX2) (N := 9) hx hb hts inX2 hown hK hP 19 rfl rfl 6 (by decide) (hts (.fieldLink RX2 27 "PumpOaths$Pumps" "starts" "[I") (List.mem_of_getElem? (i := 11) rfl)) (fun _ h9 => h9) rfl dX2_become_89 ?_
  refine lv_iconst (v := 0) hx hb dX2_become_92 (by decide) ?_
  refine lv_bipush (v := 6) hx hb dX2_become_93 (by decide) ?_
  refine k_copyi hx hb (hml.trans hl.1.symm) hown (hts (.methodLink RX2 40 arraycopyName) (List.mem_of_getElem? (i := 3) rfl)) (hts (.native arraycopyName) (List.mem_of_getElem? (i := 4) rfl)) (hts (.static arraycopyName) (List.mem_of_getElem? (i := 5) rfl)) (hts (.initialized "java/lang/System") (List.mem_of_getElem? (i := 6) rfl)) hK hP hD hS 10 25 0 0 rfl rfl rfl rfl (by decide) rfl (by decide) (Nat.le_of_ble_eq_true rfl) dX2_become_95 (fun H locs hP hD hS => ?_)
  have hP : va_P D vwCl (stW r cI cJ T ++ (stW q cI cJ (setA (setA (setA (setA (setA (setA (setI S 8 (T.1 8)) 2 (T.2.2.1 2)) 3 (T.2.2.1 3)) 4 (T.2.2.1 4)) 5 (T.2.2.1 5)) 6 (T.2.2.1 6)) 7 (T.2.2.1 7)))) H := hP
  have hD : va_D A9 (stW r cI cJ T ++ (stW q cI cJ (setA (setA (setA (setA (setA (setA (setI S 8 (T.1 8)) 2 (T.2.2.1 2)) 3 (T.2.2.1 3)) 4 (T.2.2.1 4)) 5 (T.2.2.1 5)) 6 (T.2.2.1 6)) 7 (T.2.2.1 7)))) := hD
  refine lv_aload_n hx hb dX2_become_98 rfl (lv_at hl 1 rfl) ?_
  refine va_get (D := D) (ci := 2) (v := .ref (r 11)) (C := RX2) (T := TX2) (N := 9) hx hb hts inX2 hown hK hP 4 rfl rfl 7 (by decide) (hts (.fieldLink RX2 30 "PumpOaths$Pumps" "minutes" "[I") (List.mem_of_getElem? (i := 12) rfl)) (fun _ h9 => h9) rfl dX2_become_99 ?_
  refine lv_iconst (v := 0) hx hb dX2_become_102 (by decide) ?_
  refine lv_aload_n hx hb dX2_become_103 rfl (lv_at hl 0 rfl) ?_
  refine va_get (D := D) (ci := 2) (v := .ref (q 11)) (C := RX2) (T := TX2) (N := 9) hx hb hts inX2 hown hK hP 19 rfl rfl 7 (by decide) (hts (.fieldLink RX2 30 "PumpOaths$Pumps" "minutes" "[I") (List.mem_of_getElem? (i := 12) rfl)) (fun _ h9 => h9) rfl dX2_become_104 ?_
  refine lv_iconst (v := 0) hx hb dX2_become_107 (by decide) ?_
  refine lv_bipush (v := 6) hx hb dX2_become_108 (by decide) ?_
  refine k_copyi hx hb (hml.trans hl.1.symm) hown (hts (.methodLink RX2 40 arraycopyName) (List.mem_of_getElem? (i := 3) rfl)) (hts (.native arraycopyName) (List.mem_of_getElem? (i := 4) rfl)) (hts (.static arraycopyName) (List.mem_of_getElem? (i := 5) rfl)) (hts (.initialized "java/lang/System") (List.mem_of_getElem? (i := 6) rfl)) hK hP hD hS 11 26 0 0 rfl rfl rfl rfl (by decide) rfl (by decide) (Nat.le_of_ble_eq_true rfl) dX2_become_110 (fun H locs hP hD hS => ?_)
  have hP : va_P D vwCl (stW r cI cJ T ++ (stW q cI cJ (setA (setA (setA (setA (setA (setA (setA (setI S 8 (T.1 8)) 2 (T.2.2.1 2)) 3 (T.2.2.1 3)) 4 (T.2.2.1 4)) 5 (T.2.2.1 5)) 6 (T.2.2.1 6)) 7 (T.2.2.1 7)) 8 (T.2.2.1 8)))) H := hP
  have hD : va_D A9 (stW r cI cJ T ++ (stW q cI cJ (setA (setA (setA (setA (setA (setA (setA (setI S 8 (T.1 8)) 2 (T.2.2.1 2)) 3 (T.2.2.1 3)) 4 (T.2.2.1 4)) 5 (T.2.2.1 5)) 6 (T.2.2.1 6)) 7 (T.2.2.1 7)) 8 (T.2.2.1 8)))) := hD
  refine lv_aload_n hx hb dX2_become_113 rfl (lv_at hl 1 rfl) ?_
  refine va_get (D := D) (ci := 2) (v := .ref (r 12)) (C := RX2) (T := TX2) (N := 9) hx hb hts inX2 hown hK hP 4 rfl rfl 8 (by decide) (hts (.fieldLink RX2 33 "PumpOaths$Pumps" "broken" "[I") (List.mem_of_getElem? (i := 13) rfl)) (fun _ h9 => h9) rfl dX2_become_114 ?_
  refine lv_iconst (v := 0) hx hb dX2_become_117 (by decide) ?_
  refine lv_aload_n hx hb dX2_become_118 rfl (lv_at hl 0 rfl) ?_
  refine va_get (D := D) (ci := 2) (v := .ref (q 12)) (C := RX2) (T := TX2) (N := 9) hx hb hts inX2 hown hK hP 19 rfl rfl 8 (by decide) (hts (.fieldLink RX2 33 "PumpOaths$Pumps" "broken" "[I") (List.mem_of_getElem? (i := 13) rfl)) (fun _ h9 => h9) rfl dX2_become_119 ?_
  refine lv_iconst (v := 0) hx hb dX2_become_122 (by decide) ?_
  refine lv_bipush (v := 6) hx hb dX2_become_123 (by decide) ?_
  refine k_copyi hx hb (hml.trans hl.1.symm) hown (hts (.methodLink RX2 40 arraycopyName) (List.mem_of_getElem? (i := 3) rfl)) (hts (.native arraycopyName) (List.mem_of_getElem? (i := 4) rfl)) (hts (.static arraycopyName) (List.mem_of_getElem? (i := 5) rfl)) (hts (.initialized "java/lang/System") (List.mem_of_getElem? (i := 6) rfl)) hK hP hD hS 12 27 0 0 rfl rfl rfl rfl (by decide) rfl (by decide) (Nat.le_of_ble_eq_true rfl) dX2_become_125 (fun H locs hP hD hS => ?_)
  have hP : va_P D vwCl (stW r cI cJ T ++ (stW q cI cJ (setA (setA (setA (setA (setA (setA (setA (setA (setI S 8 (T.1 8)) 2 (T.2.2.1 2)) 3 (T.2.2.1 3)) 4 (T.2.2.1 4)) 5 (T.2.2.1 5)) 6 (T.2.2.1 6)) 7 (T.2.2.1 7)) 8 (T.2.2.1 8)) 9 (T.2.2.1 9)))) H := hP
  have hD : va_D A9 (stW r cI cJ T ++ (stW q cI cJ (setA (setA (setA (setA (setA (setA (setA (setA (setI S 8 (T.1 8)) 2 (T.2.2.1 2)) 3 (T.2.2.1 3)) 4 (T.2.2.1 4)) 5 (T.2.2.1 5)) 6 (T.2.2.1 6)) 7 (T.2.2.1 7)) 8 (T.2.2.1 8)) 9 (T.2.2.1 9)))) := hD
  exact k_vret hx hb hr hlk hP hS dX2_become_128 (k_P rfl)

set_option maxHeartbeats 1000000 in
set_option maxRecDepth 100000 in
theorem c_X0_becomeF (l : Launch) (D : va_G) (q r : Nat → Nat) (cI cJ : ClassId) (S T : SS)  : kV l yX0_become wsX0_become ({ frames := 1, cells := 0, slots := 0, locals := 40 } : Room) D [(cI, .int), (cJ, .long)] [.ref (q 13), .ref (r 13)] (stW r cI cJ T ++ (stW q cI cJ S)) (stW r cI cJ T ++ (stW q cI cJ (b_become S T))) := by
  refine kBody.met (cc := cX0_become) (maxL := 2) (ret := none) (by decide) rfl (Nat.le_of_ble_eq_true rfl) ?_
  intro p9 e9 s9 m9 below meth c9 A9 ls hx hb hr hml hts hown hlk hK hP hD hA hl
  have hown : s9.vm.findClass RX0 = some m9.cls := hown
  have inX0 : ∀ w ∈ wsX00, w ∈ wsX0_become := fun w h => List.mem_cons_of_mem _ (List.mem_append_right _ (h))
  have hS : va_S A9 s9.heap s9.heap [] := va_S.rf
  have hl : lv_has ls 2 [(0, .ref (q 13)), (1, .ref (r 13))] := hl
  refine lv_aload_n hx hb dX0_become_0 rfl (lv_at hl 0 rfl) ?_
  refine lv_aload_n hx hb dX0_become_1 rfl (lv_at hl 1 rfl) ?_
  refine va_get (D := D) (ci := 0) (v := .int (T.1 9)) (C := RX0) (T := TX0) (N := 2) hx hb hts inX0 hown hK hP 13 rfl rfl 1 (by decide) (hts (.fieldLink RX0 13 "PumpOaths$BreachLog" "count" "I") (List.mem_of_getElem? (i := 1) rfl)) (fun _ h9 => h9) rfl dX0_become_2 ?_
  refine va_put (D := D) (ci := 0) (v := .int (T.1 9)) (ty := .int) (C := RX0) (T := TX0) (N := 2) hx hb hts inX0 tyX0 tyX0_ok nmX0 hown hK hP hD hS 28 rfl rfl 1 (by decide) (hts (.fieldLink RX0 13 "PumpOaths$BreachLog" "count" "I") (List.mem_of_getElem? (i := 1) rfl)) (fun _ h9 => h9) rfl (by decide +kernel) rfl rfl (Nat.le_of_ble_eq_true rfl) dX0_become_5 (fun H locs hP hD hS => ?_)
  have hP : va_P D vwCl (stW r cI cJ T ++ (stW q cI cJ (setI S 9 (T.1 9)))) H := hP
  have hD : va_D A9 (stW r cI cJ T ++ (stW q cI cJ (setI S 9 (T.1 9)))) := hD
  refine lv_aload_n hx hb dX0_become_8 rfl (lv_at hl 1 rfl) ?_
  refine va_get (D := D) (ci := 0) (v := .ref (r 14)) (C := RX0) (T := TX0) (N := 2) hx hb hts inX0 hown hK hP 13 rfl rfl 0 (by decide) (hts (.fieldLink RX0 9 "PumpOaths$BreachLog" "parts" "[I") (List.mem_of_getElem? (i := 2) rfl)) (fun _ h9 => h9) rfl dX0_become_9 ?_
  refine lv_iconst (v := 0) hx hb dX0_become_12 (by decide) ?_
  refine lv_aload_n hx hb dX0_become_13 rfl (lv_at hl 0 rfl) ?_
  refine va_get (D := D) (ci := 0) (v := .ref (q 14)) (C := RX0) (T := TX0) (N := 2) hx hb hts inX0 hown hK hP 28 rfl rfl 0 (by decide) (hts (.fieldLink RX0 9 "PumpOaths$BreachLog" "parts" "[I") (List.mem_of_getElem? (i := 2) rfl)) (fun _ h9 => h9) rfl dX0_become_14 ?_
  refine lv_iconst (v := 0) hx hb dX0_become_17 (by decide) ?_
  refine lv_bipush (v := 36) hx hb dX0_become_18 (by decide) ?_
  refine k_copyi hx hb (hml.trans hl.1.symm) hown (hts (.methodLink RX0 17 arraycopyName) (List.mem_of_getElem? (i := 3) rfl)) (hts (.native arraycopyName) (List.mem_of_getElem? (i := 4) rfl)) (hts (.static arraycopyName) (List.mem_of_getElem? (i := 5) rfl)) (hts (.initialized "java/lang/System") (List.mem_of_getElem? (i := 6) rfl)) hK hP hD hS 14 29 0 0 rfl rfl rfl rfl (by decide) rfl (by decide) (Nat.le_of_ble_eq_true rfl) dX0_become_20 (fun H locs hP hD hS => ?_)
  have hP : va_P D vwCl (stW r cI cJ T ++ (stW q cI cJ (setA (setI S 9 (T.1 9)) 10 (T.2.2.1 10)))) H := hP
  have hD : va_D A9 (stW r cI cJ T ++ (stW q cI cJ (setA (setI S 9 (T.1 9)) 10 (T.2.2.1 10)))) := hD
  exact k_vret hx hb hr hlk hP hS dX0_become_23 (k_P rfl)

set_option maxHeartbeats 1000000 in
set_option maxRecDepth 100000 in
theorem c_X3_becomeF (l : Launch) (D : va_G) (q r : Nat → Nat) (cI cJ : ClassId) (S T : SS)  : kV l yX3_become wsX3_become ({ frames := 2, cells := 0, slots := 0, locals := 61 } : Room) D [(cI, .int), (cJ, .long)] [.ref (q 0), .ref (r 0)] (stW r cI cJ T ++ (stW q cI cJ S)) (stW r cI cJ T ++ (stW q cI cJ T)) := by
  refine kBody.met (cc := cX3_become) (maxL := 2) (ret := none) (by decide) rfl (Nat.le_of_ble_eq_true rfl) ?_
  intro p9 e9 s9 m9 below meth c9 A9 ls hx hb hr hml hts hown hlk hK hP hD hA hl
  have hown : s9.vm.findClass RX3 = some m9.cls := hown
  have inX0 : ∀ w ∈ wsX00, w ∈ wsX3_become := fun w h => List.mem_cons_of_mem _ (List.mem_append_right _ (h))
  have inX2 : ∀ w ∈ wsX20, w ∈ wsX3_become := fun w h => List.mem_cons_of_mem _ (List.mem_append_left _ (List.mem_append_right _ (h)))
  have inX3 : ∀ w ∈ wsX30, w ∈ wsX3_become := fun w h => List.mem_cons_of_mem _ (List.mem_append_left _ (List.mem_append_left _ (List.mem_append_right _ (h))))
  have hS : va_S A9 s9.heap s9.heap [] := va_S.rf
  have hl : lv_has ls 2 [(0, .ref (q 0)), (1, .ref (r 0))] := hl
  refine lv_aload_n hx hb dX3_become_0 rfl (lv_at hl 0 rfl) ?_
  refine lv_aload_n hx hb dX3_become_1 rfl (lv_at hl 1 rfl) ?_
  refine va_get (D := D) (ci := 3) (v := .int (T.1 0)) (C := RX3) (T := TX3) (N := 15) hx hb hts inX3 hown hK hP 0 rfl rfl 0 (by decide) (hts (.fieldLink RX3 11 "PumpOaths$Station" "size" "I") (List.mem_of_getElem? (i := 1) rfl)) (fun _ h9 => h9) rfl dX3_become_2 ?_
  refine va_put (D := D) (ci := 3) (v := .int (T.1 0)) (ty := .int) (C := RX3) (T := TX3) (N := 15) hx hb hts inX3 tyX3 tyX3_ok nmX3 hown hK hP hD hS 15 rfl rfl 0 (by decide) (hts (.fieldLink RX3 11 "PumpOaths$Station" "size" "I") (List.mem_of_getElem? (i := 1) rfl)) (fun _ h9 => h9) rfl (by decide +kernel) rfl rfl (Nat.le_of_ble_eq_true rfl) dX3_become_5 (fun H locs hP hD hS => ?_)
  have hP : va_P D vwCl (stW r cI cJ T ++ (stW q cI cJ (setI S 0 (T.1 0)))) H := hP
  have hD : va_D A9 (stW r cI cJ T ++ (stW q cI cJ (setI S 0 (T.1 0)))) := hD
  refine lv_aload_n hx hb dX3_become_8 rfl (lv_at hl 0 rfl) ?_
  refine lv_aload_n hx hb dX3_become_9 rfl (lv_at hl 1 rfl) ?_
  refine va_get (D := D) (ci := 3) (v := .int (T.1 1)) (C := RX3) (T := TX3) (N := 15) hx hb hts inX3 hown hK hP 0 rfl rfl 1 (by decide) (hts (.fieldLink RX3 15 "PumpOaths$Station" "level" "I") (List.mem_of_getElem? (i := 2) rfl)) (fun _ h9 => h9) rfl dX3_become_10 ?_
  refine va_put (D := D) (ci := 3) (v := .int (T.1 1)) (ty := .int) (C := RX3) (T := TX3) (N := 15) hx hb hts inX3 tyX3 tyX3_ok nmX3 hown hK hP hD hS 15 rfl rfl 1 (by decide) (hts (.fieldLink RX3 15 "PumpOaths$Station" "level" "I") (List.mem_of_getElem? (i := 2) rfl)) (fun _ h9 => h9) rfl (by decide +kernel) rfl rfl (Nat.le_of_ble_eq_true rfl) dX3_become_13 (fun H locs hP hD hS => ?_)
  have hP : va_P D vwCl (stW r cI cJ T ++ (stW q cI cJ (setI (setI S 0 (T.1 0)) 1 (T.1 1)))) H := hP
  have hD : va_D A9 (stW r cI cJ T ++ (stW q cI cJ (setI (setI S 0 (T.1 0)) 1 (T.1 1)))) := hD
  refine lv_aload_n hx hb dX3_become_16 rfl (lv_at hl 0 rfl) ?_
  refine lv_aload_n hx hb dX3_become_17 rfl (lv_at hl 1 rfl) ?_
  refine va_get (D := D) (ci := 3) (v := .int (T.1 2)) (C := RX3) (T := TX3) (N := 15) hx hb hts inX3 hown hK hP 0 rfl rfl 2 (by decide) (hts (.fieldLink RX3 18 "PumpOaths$Station" "low" "I") (List.mem_of_getElem? (i := 3) rfl)) (fun _ h9 => h9) rfl dX3_become_18 ?_
  refine va_put (D := D) (ci := 3) (v := .int (T.1 2)) (ty := .int) (C := RX3) (T := TX3) (N := 15) hx hb hts inX3 tyX3 tyX3_ok nmX3 hown hK hP hD hS 15 rfl rfl 2 (by decide) (hts (.fieldLink RX3 18 "PumpOaths$Station" "low" "I") (List.mem_of_getElem? (i := 3) rfl)) (fun _ h9 => h9) rfl (by decide +kernel) rfl rfl (Nat.le_of_ble_eq_true rfl) dX3_become_21 (fun H locs hP hD hS => ?_)
  have hP : va_P D vwCl (stW r cI cJ T ++ (stW q cI cJ (setI (setI (setI S 0 (T.1 0)) 1 (T.1 1)) 2 (T.1 2)))) H := hP
  have hD : va_D A9 (stW r cI cJ T ++ (stW q cI cJ (setI (setI (setI S 0 (T.1 0)) 1 (T.1 1)) 2 (T.1 2)))) := hD
  refine lv_aload_n hx hb dX3_become_24 rfl (lv_at hl 0 rfl) ?_
  refine lv_aload_n hx hb dX3_become_25 rfl (lv_at hl 1 rfl) ?_
  refine va_get (D := D) (ci := 3) (v := .int (T.1 3)) (C := RX3) (T := TX3) (N := 15) hx hb hts inX3 hown hK hP 0 rfl rfl 3 (by decide) (hts (.fieldLink RX3 21 "PumpOaths$Station" "high" "I") (List.mem_of_getElem? (i := 4) rfl)) (fun _ h9 => h9) rfl dX3_become_26 ?_
  refine va_put (D := D) (ci := 3) (v := .int (T.1 3)) (ty := .int) (C := RX3) (T := TX3) (N := 15) hx hb hts inX3 tyX3 tyX3_ok nmX3 hown hK hP hD hS 15 rfl rfl 3 (by decide) (hts (.fieldLink RX3 21 "PumpOaths$Station" "high" "I") (List.mem_of_getElem? (i := 4) rfl)) (fun _ h9 => h9) rfl (by decide +kernel) rfl rfl (Nat.le_of_ble_eq_true rfl) dX3_become_29 (fun H locs hP hD hS => ?_)
  have hP : va_P D vwCl (stW r cI cJ T ++ (stW q cI cJ (setI (setI (setI (setI S 0 (T.1 0)) 1 (T.1 1)) 2 (T.1 2)) 3 (T.1 3)))) H := hP
  have hD : va_D A9 (stW r cI cJ T ++ (stW q cI cJ (setI (setI (setI (setI S 0 (T.1 0)) 1 (T.1 1)) 2 (T.1 2)) 3 (T.1 3)))) := hD
  refine lv_aload_n hx hb dX3_become_32 rfl (lv_at hl 0 rfl) ?_
  refine lv_aload_n hx hb dX3_become_33 rfl (lv_at hl 1 rfl) ?_
  refine va_get (D := D) (ci := 3) (v := .int (T.1 4)) (C := RX3) (T := TX3) (N := 15) hx hb hts inX3 hown hK hP 0 rfl rfl 4 (by decide) (hts (.fieldLink RX3 49 "PumpOaths$Station" "time" "I") (List.mem_of_getElem? (i := 5) rfl)) (fun _ h9 => h9) rfl dX3_become_34 ?_
  refine va_put (D := D) (ci := 3) (v := .int (T.1 4)) (ty := .int) (C := RX3) (T := TX3) (N := 15) hx hb hts inX3 tyX3 tyX3_ok nmX3 hown hK hP hD hS 15 rfl rfl 4 (by decide) (hts (.fieldLink RX3 49 "PumpOaths$Station" "time" "I") (List.mem_of_getElem? (i := 5) rfl)) (fun _ h9 => h9) rfl (by decide +kernel) rfl rfl (Nat.le_of_ble_eq_true rfl) dX3_become_37 (fun H locs hP hD hS => ?_)
  have hP : va_P D vwCl (stW r cI cJ T ++ (stW q cI cJ (setI (setI (setI (setI (setI S 0 (T.1 0)) 1 (T.1 1)) 2 (T.1 2)) 3 (T.1 3)) 4 (T.1 4)))) H := hP
  have hD : va_D A9 (stW r cI cJ T ++ (stW q cI cJ (setI (setI (setI (setI (setI S 0 (T.1 0)) 1 (T.1 1)) 2 (T.1 2)) 3 (T.1 3)) 4 (T.1 4)))) := hD
  refine lv_aload_n hx hb dX3_become_40 rfl (lv_at hl 0 rfl) ?_
  refine lv_aload_n hx hb dX3_become_41 rfl (lv_at hl 1 rfl) ?_
  refine va_get (D := D) (ci := 3) (v := .int (T.1 5)) (C := RX3) (T := TX3) (N := 15) hx hb hts inX3 hown hK hP 0 rfl rfl 5 (by decide) (hts (.fieldLink RX3 52 "PumpOaths$Station" "brokenOaths" "I") (List.mem_of_getElem? (i := 6) rfl)) (fun _ h9 => h9) rfl dX3_become_42 ?_
  refine va_put (D := D) (ci := 3) (v := .int (T.1 5)) (ty := .int) (C := RX3) (T := TX3) (N := 15) hx hb hts inX3 tyX3 tyX3_ok nmX3 hown hK hP hD hS 15 rfl rfl 5 (by decide) (hts (.fieldLink RX3 52 "PumpOaths$Station" "brokenOaths" "I") (List.mem_of_getElem? (i := 6) rfl)) (fun _ h9 => h9) rfl (by decide +kernel) rfl rfl (Nat.le_of_ble_eq_true rfl) dX3_become_45 (fun H locs hP hD hS => ?_)
  have hP : va_P D vwCl (stW r cI cJ T ++ (stW q cI cJ (setI (setI (setI (setI (setI (setI S 0 (T.1 0)) 1 (T.1 1)) 2 (T.1 2)) 3 (T.1 3)) 4 (T.1 4)) 5 (T.1 5)))) H := hP
  have hD : va_D A9 (stW r cI cJ T ++ (stW q cI cJ (setI (setI (setI (setI (setI (setI S 0 (T.1 0)) 1 (T.1 1)) 2 (T.1 2)) 3 (T.1 3)) 4 (T.1 4)) 5 (T.1 5)))) := hD
  refine lv_aload_n hx hb dX3_become_48 rfl (lv_at hl 0 rfl) ?_
  refine lv_aload_n hx hb dX3_become_49 rfl (lv_at hl 1 rfl) ?_
  refine va_get (D := D) (ci := 3) (v := .int (T.1 6)) (C := RX3) (T := TX3) (N := 15) hx hb hts inX3 hown hK hP 0 rfl rfl 6 (by decide) (hts (.fieldLink RX3 55 "PumpOaths$Station" "minutesBelow" "I") (List.mem_of_getElem? (i := 7) rfl)) (fun _ h9 => h9) rfl dX3_become_50 ?_
  refine va_put (D := D) (ci := 3) (v := .int (T.1 6)) (ty := .int) (C := RX3) (T := TX3) (N := 15) hx hb hts inX3 tyX3 tyX3_ok nmX3 hown hK hP hD hS 15 rfl rfl 6 (by decide) (hts (.fieldLink RX3 55 "PumpOaths$Station" "minutesBelow" "I") (List.mem_of_getElem? (i := 7) rfl)) (fun _ h9 => h9) rfl (by decide +kernel) rfl rfl (Nat.le_of_ble_eq_true rfl) dX3_become_53 (fun H locs hP hD hS => ?_)
  have hP : va_P D vwCl (stW r cI cJ T ++ (stW q cI cJ (setI (setI (setI (setI (setI (setI (setI S 0 (T.1 0)) 1 (T.1 1)) 2 (T.1 2)) 3 (T.1 3)) 4 (T.1 4)) 5 (T.1 5)) 6 (T.1 6)))) H := hP
  have hD : va_D A9 (stW r cI cJ T ++ (stW q cI cJ (setI (setI (setI (setI (setI (setI (setI S 0 (T.1 0)) 1 (T.1 1)) 2 (T.1 2)) 3 (T.1 3)) 4 (T.1 4)) 5 (T.1 5)) 6 (T.1 6)))) := hD
  refine lv_aload_n hx hb dX3_become_56 rfl (lv_at hl 0 rfl) ?_
  refine lv_aload_n hx hb dX3_become_57 rfl (lv_at hl 1 rfl) ?_
  refine va_get (D := D) (ci := 3) (v := .int (T.1 7)) (C := RX3) (T := TX3) (N := 15) hx hb hts inX3 hown hK hP 0 rfl rfl 7 (by decide) (hts (.fieldLink RX3 58 "PumpOaths$Station" "nights" "I") (List.mem_of_getElem? (i := 8) rfl)) (fun _ h9 => h9) rfl dX3_become_58 ?_
  refine va_put (D := D) (ci := 3) (v := .int (T.1 7)) (ty := .int) (C := RX3) (T := TX3) (N := 15) hx hb hts inX3 tyX3 tyX3_ok nmX3 hown hK hP hD hS 15 rfl rfl 7 (by decide) (hts (.fieldLink RX3 58 "PumpOaths$Station" "nights" "I") (List.mem_of_getElem? (i := 8) rfl)) (fun _ h9 => h9) rfl (by decide +kernel) rfl rfl (Nat.le_of_ble_eq_true rfl) dX3_become_61 (fun H locs hP hD hS => ?_)
  have hP : va_P D vwCl (stW r cI cJ T ++ (stW q cI cJ (setI (setI (setI (setI (setI (setI (setI (setI S 0 (T.1 0)) 1 (T.1 1)) 2 (T.1 2)) 3 (T.1 3)) 4 (T.1 4)) 5 (T.1 5)) 6 (T.1 6)) 7 (T.1 7)))) H := hP
  have hD : va_D A9 (stW r cI cJ T ++ (stW q cI cJ (setI (setI (setI (setI (setI (setI (setI (setI S 0 (T.1 0)) 1 (T.1 1)) 2 (T.1 2)) 3 (T.1 3)) 4 (T.1 4)) 5 (T.1 5)) 6 (T.1 6)) 7 (T.1 7)))) := hD
  refine lv_aload_n hx hb dX3_become_64 rfl (lv_at hl 0 rfl) ?_
  refine lv_aload_n hx hb dX3_become_65 rfl (lv_at hl 1 rfl) ?_
  refine va_get (D := D) (ci := 3) (v := .long (T.2.1 0)) (C := RX3) (T := TX3) (N := 15) hx hb hts inX3 hown hK hP 0 rfl rfl 8 (by decide) (hts (.fieldLink RX3 61 "PumpOaths$Station" "balanceAtDusk" "J") (List.mem_of_getElem? (i := 9) rfl)) (fun _ h9 => h9) rfl dX3_become_66 ?_
  refine va_put (D := D) (ci := 3) (v := .long (T.2.1 0)) (ty := .long) (C := RX3) (T := TX3) (N := 15) hx hb hts inX3 tyX3 tyX3_ok nmX3 hown hK hP hD hS 15 rfl rfl 8 (by decide) (hts (.fieldLink RX3 61 "PumpOaths$Station" "balanceAtDusk" "J") (List.mem_of_getElem? (i := 9) rfl)) (fun _ h9 => h9) rfl (by decide +kernel) rfl rfl (Nat.le_of_ble_eq_true rfl) dX3_become_69 (fun H locs hP hD hS => ?_)
  have hP : va_P D vwCl (stW r cI cJ T ++ (stW q cI cJ (setL (setI (setI (setI (setI (setI (setI (setI (setI S 0 (T.1 0)) 1 (T.1 1)) 2 (T.1 2)) 3 (T.1 3)) 4 (T.1 4)) 5 (T.1 5)) 6 (T.1 6)) 7 (T.1 7)) 0 (T.2.1 0)))) H := hP
  have hD : va_D A9 (stW r cI cJ T ++ (stW q cI cJ (setL (setI (setI (setI (setI (setI (setI (setI (setI S 0 (T.1 0)) 1 (T.1 1)) 2 (T.1 2)) 3 (T.1 3)) 4 (T.1 4)) 5 (T.1 5)) 6 (T.1 6)) 7 (T.1 7)) 0 (T.2.1 0)))) := hD
  refine lv_aload_n hx hb dX3_become_72 rfl (lv_at hl 0 rfl) ?_
  refine lv_aload_n hx hb dX3_become_73 rfl (lv_at hl 1 rfl) ?_
  refine va_get (D := D) (ci := 3) (v := .long (T.2.1 1)) (C := RX3) (T := TX3) (N := 15) hx hb hts inX3 hown hK hP 0 rfl rfl 9 (by decide) (hts (.fieldLink RX3 65 "PumpOaths$Station" "measuredLeak" "J") (List.mem_of_getElem? (i := 10) rfl)) (fun _ h9 => h9) rfl dX3_become_74 ?_
  refine va_put (D := D) (ci := 3) (v := .long (T.2.1 1)) (ty := .long) (C := RX3) (T := TX3) (N := 15) hx hb hts inX3 tyX3 tyX3_ok nmX3 hown hK hP hD hS 15 rfl rfl 9 (by decide) (hts (.fieldLink RX3 65 "PumpOaths$Station" "measuredLeak" "J") (List.mem_of_getElem? (i := 10) rfl)) (fun _ h9 => h9) rfl (by decide +kernel) rfl rfl (Nat.le_of_ble_eq_true rfl) dX3_become_77 (fun H locs hP hD hS => ?_)
  have hP : va_P D vwCl (stW r cI cJ T ++ (stW q cI cJ (setL (setL (setI (setI (setI (setI (setI (setI (setI (setI S 0 (T.1 0)) 1 (T.1 1)) 2 (T.1 2)) 3 (T.1 3)) 4 (T.1 4)) 5 (T.1 5)) 6 (T.1 6)) 7 (T.1 7)) 0 (T.2.1 0)) 1 (T.2.1 1)))) H := hP
  have hD : va_D A9 (stW r cI cJ T ++ (stW q cI cJ (setL (setL (setI (setI (setI (setI (setI (setI (setI (setI S 0 (T.1 0)) 1 (T.1 1)) 2 (T.1 2)) 3 (T.1 3)) 4 (T.1 4)) 5 (T.1 5)) 6 (T.1 6)) 7 (T.1 7)) 0 (T.2.1 0)) 1 (T.2.1 1)))) := hD
  refine lv_aload_n hx hb dX3_become_80 rfl (lv_at hl 1 rfl) ?_
  refine va_get (D := D) (ci := 3) (v := .ref (r 1)) (C := RX3) (T := TX3) (N := 15) hx hb hts inX3 hown hK hP 0 rfl rfl 10 (by decide) (hts (.fieldLink RX3 24 "PumpOaths$Station" "settings" "[I") (List.mem_of_getElem? (i := 11) rfl)) (fun _ h9 => h9) rfl dX3_become_81 ?_
  refine lv_iconst (v := 0) hx hb dX3_become_84 (by decide) ?_
  refine lv_aload_n hx hb dX3_become_85 rfl (lv_at hl 0 rfl) ?_
  refine va_get (D := D) (ci := 3) (v := .ref (q 1)) (C := RX3) (T := TX3) (N := 15) hx hb hts inX3 hown hK hP 15 rfl rfl 10 (by decide) (hts (.fieldLink RX3 24 "PumpOaths$Station" "settings" "[I") (List.mem_of_getElem? (i := 11) rfl)) (fun _ h9 => h9) rfl dX3_become_86 ?_
  refine lv_iconst (v := 0) hx hb dX3_become_89 (by decide) ?_
  refine lv_iconst (v := 3) hx hb dX3_become_90 (by decide) ?_
  refine k_copyi hx hb (hml.trans hl.1.symm) hown (hts (.methodLink RX3 68 arraycopyName) (List.mem_of_getElem? (i := 12) rfl)) (hts (.native arraycopyName) (List.mem_of_getElem? (i := 13) rfl)) (hts (.static arraycopyName) (List.mem_of_getElem? (i := 14) rfl)) (hts (.initialized "java/lang/System") (List.mem_of_getElem? (i := 15) rfl)) hK hP hD hS 1 16 0 0 rfl rfl rfl rfl (by decide) rfl (by decide) (Nat.le_of_ble_eq_true rfl) dX3_become_91 (fun H locs hP hD hS => ?_)
  have hP : va_P D vwCl (stW r cI cJ T ++ (stW q cI cJ (setA (setL (setL (setI (setI (setI (setI (setI (setI (setI (setI S 0 (T.1 0)) 1 (T.1 1)) 2 (T.1 2)) 3 (T.1 3)) 4 (T.1 4)) 5 (T.1 5)) 6 (T.1 6)) 7 (T.1 7)) 0 (T.2.1 0)) 1 (T.2.1 1)) 0 (T.2.2.1 0)))) H := hP
  have hD : va_D A9 (stW r cI cJ T ++ (stW q cI cJ (setA (setL (setL (setI (setI (setI (setI (setI (setI (setI (setI S 0 (T.1 0)) 1 (T.1 1)) 2 (T.1 2)) 3 (T.1 3)) 4 (T.1 4)) 5 (T.1 5)) 6 (T.1 6)) 7 (T.1 7)) 0 (T.2.1 0)) 1 (T.2.1 1)) 0 (T.2.2.1 0)))) := hD
  refine lv_aload_n hx hb dX3_become_94 rfl (lv_at hl 1 rfl) ?_
  refine va_get (D := D) (ci := 3) (v := .ref (r 2)) (C := RX3) (T := TX3) (N := 15) hx hb hts inX3 hown hK hP 0 rfl rfl 11 (by decide) (hts (.fieldLink RX3 28 "PumpOaths$Station" "demands" "[I") (List.mem_of_getElem? (i := 16) rfl)) (fun _ h9 => h9) rfl dX3_become_95 ?_
  refine lv_iconst (v := 0) hx hb dX3_become_98 (by decide) ?_
  refine lv_aload_n hx hb dX3_become_99 rfl (lv_at hl 0 rfl) ?_
  refine va_get (D := D) (ci := 3) (v := .ref (q 2)) (C := RX3) (T := TX3) (N := 15) hx hb hts inX3 hown hK hP 15 rfl rfl 11 (by decide) (hts (.fieldLink RX3 28 "PumpOaths$Station" "demands" "[I") (List.mem_of_getElem? (i := 16) rfl)) (fun _ h9 => h9) rfl dX3_become_100 ?_
  refine lv_iconst (v := 0) hx hb dX3_become_103 (by decide) ?_
  refine lv_bipush (v := 24) hx hb dX3_become_104 (by decide) ?_
  refine k_copyi hx hb (hml.trans hl.1.symm) hown (hts (.methodLink RX3 68 arraycopyName) (List.mem_of_getElem? (i := 12) rfl)) (hts (.native arraycopyName) (List.mem_of_getElem? (i := 13) rfl)) (hts (.static arraycopyName) (List.mem_of_getElem? (i := 14) rfl)) (hts (.initialized "java/lang/System") (List.mem_of_getElem? (i := 15) rfl)) hK hP hD hS 2 17 0 0 rfl rfl rfl rfl (by decide) rfl (by decide) (Nat.le_of_ble_eq_true rfl) dX3_become_106 (fun H locs hP hD hS => ?_)
  have hP : va_P D vwCl (stW r cI cJ T ++ (stW q cI cJ (setA (setA (setL (setL (setI (setI (setI (setI (setI (setI (setI (setI S 0 (T.1 0)) 1 (T.1 1)) 2 (T.1 2)) 3 (T.1 3)) 4 (T.1 4)) 5 (T.1 5)) 6 (T.1 6)) 7 (T.1 7)) 0 (T.2.1 0)) 1 (T.2.1 1)) 0 (T.2.2.1 0)) 1 (T.2.2.1 1)))) H := hP
  have hD : va_D A9 (stW r cI cJ T ++ (stW q cI cJ (setA (setA (setL (setL (setI (setI (setI (setI (setI (setI (setI (setI S 0 (T.1 0)) 1 (T.1 1)) 2 (T.1 2)) 3 (T.1 3)) 4 (T.1 4)) 5 (T.1 5)) 6 (T.1 6)) 7 (T.1 7)) 0 (T.2.1 0)) 1 (T.2.1 1)) 0 (T.2.2.1 0)) 1 (T.2.2.1 1)))) := hD
  refine lv_aload_n hx hb dX3_become_109 rfl (lv_at hl 1 rfl) ?_
  refine va_get (D := D) (ci := 3) (v := .ref (r 3)) (C := RX3) (T := TX3) (N := 15) hx hb hts inX3 hown hK hP 0 rfl rfl 12 (by decide) (hts (.fieldLink RX3 31 "PumpOaths$Station" "waters" "[J") (List.mem_of_getElem? (i := 17) rfl)) (fun _ h9 => h9) rfl dX3_become_110 ?_
  refine lv_iconst (v := 0) hx hb dX3_become_113 (by decide) ?_
  refine lv_aload_n hx hb dX3_become_114 rfl (lv_at hl 0 rfl) ?_
  refine va_get (D := D) (ci := 3) (v := .ref (q 3)) (C := RX3) (T := TX3) (N := 15) hx hb hts inX3 hown hK hP 15 rfl rfl 12 (by decide) (hts (.fieldLink RX3 31 "PumpOaths$Station" "waters" "[J") (List.mem_of_getElem? (i := 17) rfl)) (fun _ h9 => h9) rfl dX3_become_115 ?_
  refine lv_iconst (v := 0) hx hb dX3_become_118 (by decide) ?_
  refine lv_iconst (v := 5) hx hb dX3_become_119 (by decide) ?_
  refine k_copyl hx hb (hml.trans hl.1.symm) hown (hts (.methodLink RX3 68 arraycopyName) (List.mem_of_getElem? (i := 12) rfl)) (hts (.native arraycopyName) (List.mem_of_getElem? (i := 13) rfl)) (hts (.static arraycopyName) (List.mem_of_getElem? (i := 14) rfl)) (hts (.initialized "java/lang/System") (List.mem_of_getElem? (i := 15) rfl)) hK hP hD hS 3 18 1 1 rfl rfl rfl rfl (by decide) rfl (by decide) (Nat.le_of_ble_eq_true rfl) dX3_become_120 (fun H locs hP hD hS => ?_)
  have hP : va_P D vwCl (stW r cI cJ T ++ (stW q cI cJ (setV (setA (setA (setL (setL (setI (setI (setI (setI (setI (setI (setI (setI S 0 (T.1 0)) 1 (T.1 1)) 2 (T.1 2)) 3 (T.1 3)) 4 (T.1 4)) 5 (T.1 5)) 6 (T.1 6)) 7 (T.1 7)) 0 (T.2.1 0)) 1 (T.2.1 1)) 0 (T.2.2.1 0)) 1 (T.2.2.1 1)) T.2.2.2))) H := hP
  have hD : va_D A9 (stW r cI cJ T ++ (stW q cI cJ (setV (setA (setA (setL (setL (setI (setI (setI (setI (setI (setI (setI (setI S 0 (T.1 0)) 1 (T.1 1)) 2 (T.1 2)) 3 (T.1 3)) 4 (T.1 4)) 5 (T.1 5)) 6 (T.1 6)) 7 (T.1 7)) 0 (T.2.1 0)) 1 (T.2.1 1)) 0 (T.2.2.1 0)) 1 (T.2.2.1 1)) T.2.2.2))) := hD
  refine lv_aload_n hx hb dX3_become_123 rfl (lv_at hl 0 rfl) ?_
  refine va_get (D := D) (ci := 3) (v := .ref (q 4)) (C := RX3) (T := TX3) (N := 15) hx hb hts inX3 hown hK hP 15 rfl rfl 13 (by decide) (hts (.fieldLink RX3 38 "PumpOaths$Station" "pumps" "LPumpOaths$Pumps;") (List.mem_of_getElem? (i := 18) rfl)) (fun _ h9 => h9) rfl dX3_become_124 ?_
  refine lv_aload_n hx hb dX3_become_127 rfl (lv_at hl 1 rfl) ?_
  refine va_get (D := D) (ci := 3) (v := .ref (r 4)) (C := RX3) (T := TX3) (N := 15) hx hb hts inX3 hown hK hP 0 rfl rfl 13 (by decide) (hts (.fieldLink RX3 38 "PumpOaths$Station" "pumps" "LPumpOaths$Pumps;") (List.mem_of_getElem? (i := 18) rfl)) (fun _ h9 => h9) rfl dX3_become_128 ?_
  refine k_callv (a := []) (z := []) (wc := (stW r cI cJ T ++ (stW q cI cJ (setV (setA (setA (setL (setL (setI (setI (setI (setI (setI (setI (setI (setI S 0 (T.1 0)) 1 (T.1 1)) 2 (T.1 2)) 3 (T.1 3)) 4 (T.1 4)) 5 (T.1 5)) 6 (T.1 6)) 7 (T.1 7)) 0 (T.2.1 0)) 1 (T.2.1 1)) 0 (T.2.2.1 0)) 1 (T.2.2.1 1)) T.2.2.2)))) (wc' := (stW r cI cJ T ++ (stW q cI cJ (p_become (setV (setA (setA (setL (setL (setI (setI (setI (setI (setI (setI (setI (setI S 0 (T.1 0)) 1 (T.1 1)) 2 (T.1 2)) 3 (T.1 3)) 4 (T.1 4)) 5 (T.1 5)) 6 (T.1 6)) 7 (T.1 7)) 0 (T.2.1 0)) 1 (T.2.1 1)) 0 (T.2.2.1 0)) 1 (T.2.2.1 1)) T.2.2.2) T)))) (w' := (stW r cI cJ T ++ (stW q cI cJ (p_become (setV (setA (setA (setL (setL (setI (setI (setI (setI (setI (setI (setI (setI S 0 (T.1 0)) 1 (T.1 1)) 2 (T.1 2)) 3 (T.1 3)) 4 (T.1 4)) 5 (T.1 5)) 6 (T.1 6)) 7 (T.1 7)) 0 (T.2.1 0)) 1 (T.2.1 1)) 0 (T.2.2.1 0)) 1 (T.2.2.1 1)) T.2.2.2) T)))) (va_runV (As := [.ref (r 4)]) (rest := []) ⟨hx, hb, hml, hown, hts⟩ (c_X2_becomeF l D q r cI cJ (setV (setA (setA (setL (setL (setI (setI (setI (setI (setI (setI (setI (setI S 0 (T.1 0)) 1 (T.1 1)) 2 (T.1 2)) 3 (T.1 3)) 4 (T.1 4)) 5 (T.1 5)) 6 (T.1 6)) 7 (T.1 7)) 0 (T.2.1 0)) 1 (T.2.1 1)) 0 (T.2.2.1 0)) 1 (T.2.2.1 1)) T.2.2.2) T _) (cwV 1 hts gX3_become_X2_become rfl rfl rfl (by decide +kernel) ⟨Nat.le_of_ble_eq_true rfl, Nat.le_of_ble_eq_true rfl⟩) ⟨kB_blind, va_recv hK hP (ci := 2) (q0 := 19) rfl rfl, k_pre (a := []) (z := []) (k_w0 _) hK hP hD⟩ rfl rfl hl.1 rfl (lv_room (Nat.le_of_ble_eq_true rfl)) dX3_become_131 ⟨Nat.zero_le _, Nat.zero_le _⟩) (k_w0 _) (k_w0 _) (k_ad2 (stW_ad _ _ _ _ _) (stW_ad _ _ _ _ _)) hP hD hS hA (fun H locs hP hD hS => ?_)
  refine lv_aload_n hx hb dX3_become_134 rfl (lv_at hl 0 rfl) ?_
  refine va_get (D := D) (ci := 3) (v := .ref (q 13)) (C := RX3) (T := TX3) (N := 15) hx hb hts inX3 hown hK hP 15 rfl rfl 14 (by decide) (hts (.fieldLink RX3 45 "PumpOaths$Station" "log" "LPumpOaths$BreachLog;") (List.mem_of_getElem? (i := 19) rfl)) (fun _ h9 => h9) rfl dX3_become_135 ?_
  refine lv_aload_n hx hb dX3_become_138 rfl (lv_at hl 1 rfl) ?_
  refine va_get (D := D) (ci := 3) (v := .ref (r 13)) (C := RX3) (T := TX3) (N := 15) hx hb hts inX3 hown hK hP 0 rfl rfl 14 (by decide) (hts (.fieldLink RX3 45 "PumpOaths$Station" "log" "LPumpOaths$BreachLog;") (List.mem_of_getElem? (i := 19) rfl)) (fun _ h9 => h9) rfl dX3_become_139 ?_
  refine k_callv (a := []) (z := []) (wc := (stW r cI cJ T ++ (stW q cI cJ (p_become (setV (setA (setA (setL (setL (setI (setI (setI (setI (setI (setI (setI (setI S 0 (T.1 0)) 1 (T.1 1)) 2 (T.1 2)) 3 (T.1 3)) 4 (T.1 4)) 5 (T.1 5)) 6 (T.1 6)) 7 (T.1 7)) 0 (T.2.1 0)) 1 (T.2.1 1)) 0 (T.2.2.1 0)) 1 (T.2.2.1 1)) T.2.2.2) T)))) (wc' := (stW r cI cJ T ++ (stW q cI cJ (b_become (p_become (setV (setA (setA (setL (setL (setI (setI (setI (setI (setI (setI (setI (setI S 0 (T.1 0)) 1 (T.1 1)) 2 (T.1 2)) 3 (T.1 3)) 4 (T.1 4)) 5 (T.1 5)) 6 (T.1 6)) 7 (T.1 7)) 0 (T.2.1 0)) 1 (T.2.1 1)) 0 (T.2.2.1 0)) 1 (T.2.2.1 1)) T.2.2.2) T) T)))) (w' := (stW r cI cJ T ++ (stW q cI cJ (b_become (p_become (setV (setA (setA (setL (setL (setI (setI (setI (setI (setI (setI (setI (setI S 0 (T.1 0)) 1 (T.1 1)) 2 (T.1 2)) 3 (T.1 3)) 4 (T.1 4)) 5 (T.1 5)) 6 (T.1 6)) 7 (T.1 7)) 0 (T.2.1 0)) 1 (T.2.1 1)) 0 (T.2.2.1 0)) 1 (T.2.2.1 1)) T.2.2.2) T) T)))) (va_runV (As := [.ref (r 13)]) (rest := []) ⟨hx, hb, hml, hown, hts⟩ (c_X0_becomeF l D q r cI cJ (p_become (setV (setA (setA (setL (setL (setI (setI (setI (setI (setI (setI (setI (setI S 0 (T.1 0)) 1 (T.1 1)) 2 (T.1 2)) 3 (T.1 3)) 4 (T.1 4)) 5 (T.1 5)) 6 (T.1 6)) 7 (T.1 7)) 0 (T.2.1 0)) 1 (T.2.1 1)) 0 (T.2.2.1 0)) 1 (T.2.2.1 1)) T.2.2.2) T) T _) (cwV 1 hts gX3_become_X0_become rfl rfl rfl (by decide +kernel) ⟨Nat.le_of_ble_eq_true rfl, Nat.le_of_ble_eq_true rfl⟩) ⟨kB_blind, va_recv hK hP (ci := 0) (q0 := 28) rfl rfl, k_pre (a := []) (z := []) (k_w0 _) hK hP hD⟩ rfl rfl hl.1 rfl (lv_room (Nat.le_of_ble_eq_true rfl)) dX3_become_142 ⟨Nat.zero_le _, Nat.zero_le _⟩) (k_w0 _) (k_w0 _) (k_ad2 (stW_ad _ _ _ _ _) (stW_ad _ _ _ _ _)) hP hD hS hA (fun H locs hP hD hS => ?_)
  exact k_vret hx hb hr hlk hP hS dX3_become_145 (k_P rfl)
