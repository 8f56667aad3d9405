def o_zero : MS := (fun _ => 0, fun _ _ => 0, fun _ _ => 0)
def o_nwB (k : Nat) (f : Nat → Int64) : Nat → Int64 := vp_updL f (24 + k) 20
def o_nw0 : Nat → Int64 := vp_updL (vp_updL (vp_updL (vp_updL (vp_updL (vp_updL (fun _ => 0) 0 10000) 1 5000) 2 4000) 3 8000) 4 500) 6 1
def o_new : MS := o_setV o_zero 0 (itr o_nwB 24 o_nw0)

set_option maxHeartbeats 1000000 in
set_option maxRecDepth 100000 in
theorem c_X5_init (l : Launch) (D : va_G) (a0 : Nat) (cI cJ : ClassId) : kN l yX5_init wsX5_init ({ frames := 1, cells := 7, slots := 1030, locals := 13 } : Room) 7 1030 D [(cI, .int), (cJ, .long)] [.ref a0] [(a0, .inr (5, [.null, .null, .null, .int 0, .null, .int 0, .int 0, .int 0, .int 0, .int 0, .int 0, .null, .null, .null]))] a0 (fun u : Nat → Nat => moW u cI cJ o_new) := by
  intro sz
  refine kNBody.met (y := yX5_init) (ws := wsX5_init) (av := [.ref a0]) (w := [(a0, .inr (5, [.null, .null, .null, .int 0, .null, .int 0, .int 0, .int 0, .int 0, .int 0, .int 0, .null, .null, .null]))]) (cc := cX5_init) (maxL := 2) (Qc := fun A => va_Qv (fun (u : Nat → Nat) => u 0 = a0) (fun u t => va_P D vwCl ((fun u : Nat → Nat => moW u cI cJ o_new) u) t.heap ∧ va_D A ((fun u : Nat → Nat => moW u cI cJ o_new) u)) A) (by decide) rfl (Nat.le_of_ble_eq_true rfl) ?_ sz
  intro p9 e9 s9 m9 below meth c9 A9 ls hx hb hr hml hts hown hlk hin0 hK hP hD hA hl
  have hown : s9.vm.findClass RX5 = some m9.cls := hown
  have inX5 : ∀ w ∈ wsX50, w ∈ wsX5_init := fun w h => List.mem_cons_of_mem _ (List.mem_append_right _ (h))
  have hS : va_S A9 s9.heap s9.heap [] := va_S.rf
  have hl : lv_has ls 2 [(0, .ref a0)] := hl
  refine lv_aload_n hx hb dX5_init_0 rfl (lv_at hl 0 rfl) ?_
  refine W.objInit hx hb hown (hts (.methodLink RX5 1 objectInit) (List.mem_of_getElem? (i := 1) rfl)) (hts (.instanceMethod objectInit) (List.mem_of_getElem? (i := 2) rfl)) (hts (.code objectInit ⟨#[0xb1]⟩ 1 none) (List.mem_of_getElem? (i := 3) rfl)) rfl (hml.trans hl.1.symm).symm rfl dX5_init_1 (Nat.le_of_ble_eq_true rfl) (Nat.le_of_ble_eq_true rfl) ?_
  refine W.eq (g2 := F0 m9 4 ls []) rfl ?_
  refine lv_aload_n hx hb dX5_init_4 rfl (lv_at hl 0 rfl) ?_
  refine lv_sipush (v := 138) hx hb dX5_init_5 (by decide) ?_
  refine k_newal hx hb (hts (.arrayClass .long) (List.mem_of_getElem? (i := 4) rfl)) hK 1 rfl hP hD hS hA (N := 138) (by decide) rfl (Nat.le_of_ble_eq_true rfl) (Nat.le_of_ble_eq_true rfl) (Nat.le_of_ble_eq_true rfl) dX5_init_8 (fun z1 H hP hD hS => ?_)
  have hP : va_P D vwCl [(a0, .inr (5, [.null, .null, .null, .int 0, .null, .int 0, .int 0, .int 0, .int 0, .int 0, .int 0, .null, .null, .null])), (z1, .inl (cJ, 138, .inr (.inl (fun _ => 0))))] H := hP
  have hD : va_D A9 [(a0, .inr (5, [.null, .null, .null, .int 0, .null, .int 0, .int 0, .int 0, .int 0, .int 0, .int 0, .null, .null, .null])), (z1, .inl (cJ, 138, .inr (.inl (fun _ => 0))))] := hD
  refine W.widen (k := 1) (n := 138) (Nat.le_of_ble_eq_true rfl) (Nat.le_of_ble_eq_true rfl) ?_
  refine va_putF (D := D) (ci := 5) (v := .ref z1) (ty := tyX5 0) (C := RX5) (T := TX5) (N := 14) hx hb hts inX5 tyX5 tyX5_ok nmX5 hown hK hP hD hS 0 rfl rfl 0 (by decide) (hts (.fieldLink RX5 7 "PumpOathsModel" "now" "[J") (List.mem_of_getElem? (i := 5) rfl)) (fun _ h9 => h9) rfl hin0 rfl (by decide +kernel) rfl rfl (Nat.le_of_ble_eq_true rfl) dX5_init_10 (fun H locs hP hD hS => ?_)
  have hP : va_P D vwCl [(a0, .inr (5, [.ref z1, .null, .null, .int 0, .null, .int 0, .int 0, .int 0, .int 0, .int 0, .int 0, .null, .null, .null])), (z1, .inl (cJ, 138, .inr (.inl (fun _ => 0))))] H := hP
  have hD : va_D A9 [(a0, .inr (5, [.ref z1, .null, .null, .int 0, .null, .int 0, .int 0, .int 0, .int 0, .int 0, .int 0, .null, .null, .null])), (z1, .inl (cJ, 138, .inr (.inl (fun _ => 0))))] := hD
  refine lv_aload_n hx hb dX5_init_13 rfl (lv_at hl 0 rfl) ?_
  refine lv_sipush (v := 138) hx hb dX5_init_14 (by decide) ?_
  refine k_newal hx hb (hts (.arrayClass .long) (List.mem_of_getElem? (i := 4) rfl)) hK 1 rfl hP hD hS hA (N := 138) (by decide) rfl (Nat.le_of_ble_eq_true rfl) (Nat.le_of_ble_eq_true rfl) (Nat.le_of_ble_eq_true rfl) dX5_init_17 (fun z2 H hP hD hS => ?_)
  have hP : va_P D vwCl [(a0, .inr (5, [.ref z1, .null, .null, .int 0, .null, .int 0, .int 0, .int 0, .int 0, .int 0, .int 0, .null, .null, .null])), (z1, .inl (cJ, 138, .inr (.inl (fun _ => 0)))), (z2, .inl (cJ, 138, .inr (.inl (fun _ => 0))))] H := hP
  have hD : va_D A9 [(a0, .inr (5, [.ref z1, .null, .null, .int 0, .null, .int 0, .int 0, .int 0, .int 0, .int 0, .int 0, .null, .null, .null])), (z1, .inl (cJ, 138, .inr (.inl (fun _ => 0)))), (z2, .inl (cJ, 138, .inr (.inl (fun _ => 0))))] := hD
  refine W.widen (k := 2) (n := 276) (Nat.le_of_ble_eq_true rfl) (Nat.le_of_ble_eq_true rfl) ?_
  refine va_putF (D := D) (ci := 5) (v := .ref z2) (ty := tyX5 1) (C := RX5) (T := TX5) (N := 14) hx hb hts inX5 tyX5 tyX5_ok nmX5 hown hK hP hD hS 0 rfl rfl 1 (by decide) (hts (.fieldLink RX5 13 "PumpOathsModel" "tried" "[J") (List.mem_of_getElem? (i := 6) rfl)) (fun _ h9 => h9) rfl hin0 rfl (by decide +kernel) rfl rfl (Nat.le_of_ble_eq_true rfl) dX5_init_19 (fun H locs hP hD hS => ?_)
  have hP : va_P D vwCl [(a0, .inr (5, [.ref z1, .ref z2, .null, .int 0, .null, .int 0, .int 0, .int 0, .int 0, .int 0, .int 0, .null, .null, .null])), (z1, .inl (cJ, 138, .inr (.inl (fun _ => 0)))), (z2, .inl (cJ, 138, .inr (.inl (fun _ => 0))))] H := hP
  have hD : va_D A9 [(a0, .inr (5, [.ref z1, .ref z2, .null, .int 0, .null, .int 0, .int 0, .int 0, .int 0, .int 0, .int 0, .null, .null, .null])), (z1, .inl (cJ, 138, .inr (.inl (fun _ => 0)))), (z2, .inl (cJ, 138, .inr (.inl (fun _ => 0))))] := hD
  refine lv_aload_n hx hb dX5_init_22 rfl (lv_at hl 0 rfl) ?_
  refine lv_sipush (v := 552) hx hb dX5_init_23 (by decide) ?_
  refine k_newal hx hb (hts (.arrayClass .long) (List.mem_of_getElem? (i := 4) rfl)) hK 1 rfl hP hD hS hA (N := 552) (by decide) rfl (Nat.le_of_ble_eq_true rfl) (Nat.le_of_ble_eq_true rfl) (Nat.le_of_ble_eq_true rfl) dX5_init_26 (fun z3 H hP hD hS => ?_)
  have hP : va_P D vwCl [(a0, .inr (5, [.ref z1, .ref z2, .null, .int 0, .null, .int 0, .int 0, .int 0, .int 0, .int 0, .int 0, .null, .null, .null])), (z1, .inl (cJ, 138, .inr (.inl (fun _ => 0)))), (z2, .inl (cJ, 138, .inr (.inl (fun _ => 0)))), (z3, .inl (cJ, 552, .inr (.inl (fun _ => 0))))] H := hP
  have hD : va_D A9 [(a0, .inr (5, [.ref z1, .ref z2, .null, .int 0, .null, .int 0, .int 0, .int 0, .int 0, .int 0, .int 0, .null, .null, .null])), (z1, .inl (cJ, 138, .inr (.inl (fun _ => 0)))), (z2, .inl (cJ, 138, .inr (.inl (fun _ => 0)))), (z3, .inl (cJ, 552, .inr (.inl (fun _ => 0))))] := hD
  refine W.widen (k := 3) (n := 828) (Nat.le_of_ble_eq_true rfl) (Nat.le_of_ble_eq_true rfl) ?_
  refine va_putF (D := D) (ci := 5) (v := .ref z3) (ty := tyX5 2) (C := RX5) (T := TX5) (N := 14) hx hb hts inX5 tyX5 tyX5_ok nmX5 hown hK hP hD hS 0 rfl rfl 2 (by decide) (hts (.fieldLink RX5 16 "PumpOathsModel" "saved" "[J") (List.mem_of_getElem? (i := 7) rfl)) (fun _ h9 => h9) rfl hin0 rfl (by decide +kernel) rfl rfl (Nat.le_of_ble_eq_true rfl) dX5_init_28 (fun H locs hP hD hS => ?_)
  have hP : va_P D vwCl [(a0, .inr (5, [.ref z1, .ref z2, .ref z3, .int 0, .null, .int 0, .int 0, .int 0, .int 0, .int 0, .int 0, .null, .null, .null])), (z1, .inl (cJ, 138, .inr (.inl (fun _ => 0)))), (z2, .inl (cJ, 138, .inr (.inl (fun _ => 0)))), (z3, .inl (cJ, 552, .inr (.inl (fun _ => 0))))] H := hP
  have hD : va_D A9 [(a0, .inr (5, [.ref z1, .ref z2, .ref z3, .int 0, .null, .int 0, .int 0, .int 0, .int 0, .int 0, .int 0, .null, .null, .null])), (z1, .inl (cJ, 138, .inr (.inl (fun _ => 0)))), (z2, .inl (cJ, 138, .inr (.inl (fun _ => 0)))), (z3, .inl (cJ, 552, .inr (.inl (fun _ => 0))))] := hD
  refine lv_aload_n hx hb dX5_init_31 rfl (lv_at hl 0 rfl) ?_
  refine lv_bipush (v := 100) hx hb dX5_init_32 (by decide) ?_
  refine k_newai hx hb (hts (.arrayClass .int) (List.mem_of_getElem? (i := 8) rfl)) hK 0 rfl hP hD hS hA (N := 100) (by decide) rfl (Nat.le_of_ble_eq_true rfl) (Nat.le_of_ble_eq_true rfl) (Nat.le_of_ble_eq_true rfl) dX5_init_34 (fun z4 H hP hD hS => ?_)
  have hP : va_P D vwCl [(a0, .inr (5, [.ref z1, .ref z2, .ref z3, .int 0, .null, .int 0, .int 0, .int 0, .int 0, .int 0, .int 0, .null, .null, .null])), (z1, .inl (cJ, 138, .inr (.inl (fun _ => 0)))), (z2, .inl (cJ, 138, .inr (.inl (fun _ => 0)))), (z3, .inl (cJ, 552, .inr (.inl (fun _ => 0)))), (z4, .inl (cI, 100, .inl (fun _ => 0)))] H := hP
  have hD : va_D A9 [(a0, .inr (5, [.ref z1, .ref z2, .ref z3, .int 0, .null, .int 0, .int 0, .int 0, .int 0, .int 0, .int 0, .null, .null, .null])), (z1, .inl (cJ, 138, .inr (.inl (fun _ => 0)))), (z2, .inl (cJ, 138, .inr (.inl (fun _ => 0)))), (z3, .inl (cJ, 552, .inr (.inl (fun _ => 0)))), (z4, .inl (cI, 100, .inl (fun _ => 0)))] := hD
  refine W.widen (k := 4) (n := 928) (Nat.le_of_ble_eq_true rfl) (Nat.le_of_ble_eq_true rfl) ?_
  refine va_putF (D := D) (ci := 5) (v := .ref z4) (ty := tyX5 4) (C := RX5) (T := TX5) (N := 14) hx hb hts inX5 tyX5 tyX5_ok nmX5 hown hK hP hD hS 0 rfl rfl 4 (by decide) (hts (.fieldLink RX5 19 "PumpOathsModel" "text" "[I") (List.mem_of_getElem? (i := 9) rfl)) (fun _ h9 => h9) rfl hin0 rfl (by decide +kernel) rfl rfl (Nat.le_of_ble_eq_true rfl) dX5_init_36 (fun H locs hP hD hS => ?_)
  have hP : va_P D vwCl [(a0, .inr (5, [.ref z1, .ref z2, .ref z3, .int 0, .ref z4, .int 0, .int 0, .int 0, .int 0, .int 0, .int 0, .null, .null, .null])), (z1, .inl (cJ, 138, .inr (.inl (fun _ => 0)))), (z2, .inl (cJ, 138, .inr (.inl (fun _ => 0)))), (z3, .inl (cJ, 552, .inr (.inl (fun _ => 0)))), (z4, .inl (cI, 100, .inl (fun _ => 0)))] H := hP
  have hD : va_D A9 [(a0, .inr (5, [.ref z1, .ref z2, .ref z3, .int 0, .ref z4, .int 0, .int 0, .int 0, .int 0, .int 0, .int 0, .null, .null, .null])), (z1, .inl (cJ, 138, .inr (.inl (fun _ => 0)))), (z2, .inl (cJ, 138, .inr (.inl (fun _ => 0)))), (z3, .inl (cJ, 552, .inr (.inl (fun _ => 0)))), (z4, .inl (cI, 100, .inl (fun _ => 0)))] := hD
  refine lv_aload_n hx hb dX5_init_39 rfl (lv_at hl 0 rfl) ?_
  refine lv_bipush (v := 34) hx hb dX5_init_40 (by decide) ?_
  refine k_newai hx hb (hts (.arrayClass .int) (List.mem_of_getElem? (i := 8) rfl)) hK 0 rfl hP hD hS hA (N := 34) (by decide) rfl (Nat.le_of_ble_eq_true rfl) (Nat.le_of_ble_eq_true rfl) (Nat.le_of_ble_eq_true rfl) dX5_init_42 (fun z5 H hP hD hS => ?_)
  have hP : va_P D vwCl [(a0, .inr (5, [.ref z1, .ref z2, .ref z3, .int 0, .ref z4, .int 0, .int 0, .int 0, .int 0, .int 0, .int 0, .null, .null, .null])), (z1, .inl (cJ, 138, .inr (.inl (fun _ => 0)))), (z2, .inl (cJ, 138, .inr (.inl (fun _ => 0)))), (z3, .inl (cJ, 552, .inr (.inl (fun _ => 0)))), (z4, .inl (cI, 100, .inl (fun _ => 0))), (z5, .inl (cI, 34, .inl (fun _ => 0)))] H := hP
  have hD : va_D A9 [(a0, .inr (5, [.ref z1, .ref z2, .ref z3, .int 0, .ref z4, .int 0, .int 0, .int 0, .int 0, .int 0, .int 0, .null, .null, .null])), (z1, .inl (cJ, 138, .inr (.inl (fun _ => 0)))), (z2, .inl (cJ, 138, .inr (.inl (fun _ => 0)))), (z3, .inl (cJ, 552, .inr (.inl (fun _ => 0)))), (z4, .inl (cI, 100, .inl (fun _ => 0))), (z5, .inl (cI, 34, .inl (fun _ => 0)))] := hD
  refine W.widen (k := 5) (n := 962) (Nat.le_of_ble_eq_true rfl) (Nat.le_of_ble_eq_true rfl) ?_
  refine va_putF (D := D) (ci := 5) (v := .ref z5) (ty := tyX5 11) (C := RX5) (T := TX5) (N := 14) hx hb hts inX5 tyX5 tyX5_ok nmX5 hown hK hP hD hS 0 rfl rfl 11 (by decide) (hts (.fieldLink RX5 23 "PumpOathsModel" "whats" "[I") (List.mem_of_getElem? (i := 10) rfl)) (fun _ h9 => h9) rfl hin0 rfl (by decide +kernel) rfl rfl (Nat.le_of_ble_eq_true rfl) dX5_init_44 (fun H locs hP hD hS => ?_)
  have hP : va_P D vwCl [(a0, .inr (5, [.ref z1, .ref z2, .ref z3, .int 0, .ref z4, .int 0, .int 0, .int 0, .int 0, .int 0, .int 0, .ref z5, .null, .null])), (z1, .inl (cJ, 138, .inr (.inl (fun _ => 0)))), (z2, .inl (cJ, 138, .inr (.inl (fun _ => 0)))), (z3, .inl (cJ, 552, .inr (.inl (fun _ => 0)))), (z4, .inl (cI, 100, .inl (fun _ => 0))), (z5, .inl (cI, 34, .inl (fun _ => 0)))] H := hP
  have hD : va_D A9 [(a0, .inr (5, [.ref z1, .ref z2, .ref z3, .int 0, .ref z4, .int 0, .int 0, .int 0, .int 0, .int 0, .int 0, .ref z5, .null, .null])), (z1, .inl (cJ, 138, .inr (.inl (fun _ => 0)))), (z2, .inl (cJ, 138, .inr (.inl (fun _ => 0)))), (z3, .inl (cJ, 552, .inr (.inl (fun _ => 0)))), (z4, .inl (cI, 100, .inl (fun _ => 0))), (z5, .inl (cI, 34, .inl (fun _ => 0)))] := hD
  refine lv_aload_n hx hb dX5_init_47 rfl (lv_at hl 0 rfl) ?_
  refine lv_bipush (v := 34) hx hb dX5_init_48 (by decide) ?_
  refine k_newai hx hb (hts (.arrayClass .int) (List.mem_of_getElem? (i := 8) rfl)) hK 0 rfl hP hD hS hA (N := 34) (by decide) rfl (Nat.le_of_ble_eq_true rfl) (Nat.le_of_ble_eq_true rfl) (Nat.le_of_ble_eq_true rfl) dX5_init_50 (fun z6 H hP hD hS => ?_)
  have hP : va_P D vwCl [(a0, .inr (5, [.ref z1, .ref z2, .ref z3, .int 0, .ref z4, .int 0, .int 0, .int 0, .int 0, .int 0, .int 0, .ref z5, .null, .null])), (z1, .inl (cJ, 138, .inr (.inl (fun _ => 0)))), (z2, .inl (cJ, 138, .inr (.inl (fun _ => 0)))), (z3, .inl (cJ, 552, .inr (.inl (fun _ => 0)))), (z4, .inl (cI, 100, .inl (fun _ => 0))), (z5, .inl (cI, 34, .inl (fun _ => 0))), (z6, .inl (cI, 34, .inl (fun _ => 0)))] H := hP
  have hD : va_D A9 [(a0, .inr (5, [.ref z1, .ref z2, .ref z3, .int 0, .ref z4, .int 0, .int 0, .int 0, .int 0, .int 0, .int 0, .ref z5, .null, .null])), (z1, .inl (cJ, 138, .inr (.inl (fun _ => 0)))), (z2, .inl (cJ, 138, .inr (.inl (fun _ => 0)))), (z3, .inl (cJ, 552, .inr (.inl (fun _ => 0)))), (z4, .inl (cI, 100, .inl (fun _ => 0))), (z5, .inl (cI, 34, .inl (fun _ => 0))), (z6, .inl (cI, 34, .inl (fun _ => 0)))] := hD
  refine W.widen (k := 6) (n := 996) (Nat.le_of_ble_eq_true rfl) (Nat.le_of_ble_eq_true rfl) ?_
  refine va_putF (D := D) (ci := 5) (v := .ref z6) (ty := tyX5 12) (C := RX5) (T := TX5) (N := 14) hx hb hts inX5 tyX5 tyX5_ok nmX5 hown hK hP hD hS 0 rfl rfl 12 (by decide) (hts (.fieldLink RX5 26 "PumpOathsModel" "firsts" "[I") (List.mem_of_getElem? (i := 11) rfl)) (fun _ h9 => h9) rfl hin0 rfl (by decide +kernel) rfl rfl (Nat.le_of_ble_eq_true rfl) dX5_init_52 (fun H locs hP hD hS => ?_)
  have hP : va_P D vwCl [(a0, .inr (5, [.ref z1, .ref z2, .ref z3, .int 0, .ref z4, .int 0, .int 0, .int 0, .int 0, .int 0, .int 0, .ref z5, .ref z6, .null])), (z1, .inl (cJ, 138, .inr (.inl (fun _ => 0)))), (z2, .inl (cJ, 138, .inr (.inl (fun _ => 0)))), (z3, .inl (cJ, 552, .inr (.inl (fun _ => 0)))), (z4, .inl (cI, 100, .inl (fun _ => 0))), (z5, .inl (cI, 34, .inl (fun _ => 0))), (z6, .inl (cI, 34, .inl (fun _ => 0)))] H := hP
  have hD : va_D A9 [(a0, .inr (5, [.ref z1, .ref z2, .ref z3, .int 0, .ref z4, .int 0, .int 0, .int 0, .int 0, .int 0, .int 0, .ref z5, .ref z6, .null])), (z1, .inl (cJ, 138, .inr (.inl (fun _ => 0)))), (z2, .inl (cJ, 138, .inr (.inl (fun _ => 0)))), (z3, .inl (cJ, 552, .inr (.inl (fun _ => 0)))), (z4, .inl (cI, 100, .inl (fun _ => 0))), (z5, .inl (cI, 34, .inl (fun _ => 0))), (z6, .inl (cI, 34, .inl (fun _ => 0)))] := hD
  refine lv_aload_n hx hb dX5_init_55 rfl (lv_at hl 0 rfl) ?_
  refine lv_bipush (v := 34) hx hb dX5_init_56 (by decide) ?_
  refine k_newai hx hb (hts (.arrayClass .int) (List.mem_of_getElem? (i := 8) rfl)) hK 0 rfl hP hD hS hA (N := 34) (by decide) rfl (Nat.le_of_ble_eq_true rfl) (Nat.le_of_ble_eq_true rfl) (Nat.le_of_ble_eq_true rfl) dX5_init_58 (fun z7 H hP hD hS => ?_)
  have hP : va_P D vwCl [(a0, .inr (5, [.ref z1, .ref z2, .ref z3, .int 0, .ref z4, .int 0, .int 0, .int 0, .int 0, .int 0, .int 0, .ref z5, .ref z6, .null])), (z1, .inl (cJ, 138, .inr (.inl (fun _ => 0)))), (z2, .inl (cJ, 138, .inr (.inl (fun _ => 0)))), (z3, .inl (cJ, 552, .inr (.inl (fun _ => 0)))), (z4, .inl (cI, 100, .inl (fun _ => 0))), (z5, .inl (cI, 34, .inl (fun _ => 0))), (z6, .inl (cI, 34, .inl (fun _ => 0))), (z7, .inl (cI, 34, .inl (fun _ => 0)))] H := hP
  have hD : va_D A9 [(a0, .inr (5, [.ref z1, .ref z2, .ref z3, .int 0, .ref z4, .int 0, .int 0, .int 0, .int 0, .int 0, .int 0, .ref z5, .ref z6, .null])), (z1, .inl (cJ, 138, .inr (.inl (fun _ => 0)))), (z2, .inl (cJ, 138, .inr (.inl (fun _ => 0)))), (z3, .inl (cJ, 552, .inr (.inl (fun _ => 0)))), (z4, .inl (cI, 100, .inl (fun _ => 0))), (z5, .inl (cI, 34, .inl (fun _ => 0))), (z6, .inl (cI, 34, .inl (fun _ => 0))), (z7, .inl (cI, 34, .inl (fun _ => 0)))] := hD
  refine W.widen (k := 7) (n := 1030) (Nat.le_of_ble_eq_true rfl) (Nat.le_of_ble_eq_true rfl) ?_
  refine va_putF (D := D) (ci := 5) (v := .ref z7) (ty := tyX5 13) (C := RX5) (T := TX5) (N := 14) hx hb hts inX5 tyX5 tyX5_ok nmX5 hown hK hP hD hS 0 rfl rfl 13 (by decide) (hts (.fieldLink RX5 29 "PumpOathsModel" "seconds" "[I") (List.mem_of_getElem? (i := 12) rfl)) (fun _ h9 => h9) rfl hin0 rfl (by decide +kernel) rfl rfl (Nat.le_of_ble_eq_true rfl) dX5_init_60 (fun H locs hP hD hS => ?_)
  have hP : va_P D vwCl [(a0, .inr (5, [.ref z1, .ref z2, .ref z3, .int 0, .ref z4, .int 0, .int 0, .int 0, .int 0, .int 0, .int 0, .ref z5, .ref z6, .ref z7])), (z1, .inl (cJ, 138, .inr (.inl (fun _ => 0)))), (z2, .inl (cJ, 138, .inr (.inl (fun _ => 0)))), (z3, .inl (cJ, 552, .inr (.inl (fun _ => 0)))), (z4, .inl (cI, 100, .inl (fun _ => 0))), (z5, .inl (cI, 34, .inl (fun _ => 0))), (z6, .inl (cI, 34, .inl (fun _ => 0))), (z7, .inl (cI, 34, .inl (fun _ => 0)))] H := hP
  have hD : va_D A9 [(a0, .inr (5, [.ref z1, .ref z2, .ref z3, .int 0, .ref z4, .int 0, .int 0, .int 0, .int 0, .int 0, .int 0, .ref z5, .ref z6, .ref z7])), (z1, .inl (cJ, 138, .inr (.inl (fun _ => 0)))), (z2, .inl (cJ, 138, .inr (.inl (fun _ => 0)))), (z3, .inl (cJ, 552, .inr (.inl (fun _ => 0)))), (z4, .inl (cI, 100, .inl (fun _ => 0))), (z5, .inl (cI, 34, .inl (fun _ => 0))), (z6, .inl (cI, 34, .inl (fun _ => 0))), (z7, .inl (cI, 34, .inl (fun _ => 0)))] := hD
  obtain ⟨u, hu⟩ : ∃ u : Nat → Nat, u = fun i => [a0, z1, z2, z3, z4, z5, z6, z7].getD i 0 := ⟨_, rfl⟩
  have hP : va_P D vwCl (moW u cI cJ o_zero) H := by rw [hu]; exact hP
  have hD : va_D A9 (moW u cI cJ o_zero) := by rw [hu]; exact hD
  have hl : lv_has ls 2 [(0, .ref (u 0))] := by rw [hu]; exact hl
  refine lv_aload_n hx hb dX5_init_63 rfl (lv_at hl 0 rfl) ?_
  refine va_get (D := D) (ci := 5) (v := .ref (u 1)) (C := RX5) (T := TX5) (N := 14) hx hb hts inX5 hown hK hP 0 rfl rfl 0 (by decide) (hts (.fieldLink RX5 7 "PumpOathsModel" "now" "[J") (List.mem_of_getElem? (i := 5) rfl)) (fun _ h9 => h9) rfl dX5_init_64 ?_
  refine lv_iconst (v := 0) hx hb dX5_init_67 (by decide) ?_
  refine lv_ldc2 (v := 10000) hx hb hown (hts (.constantLong RX5 32 (10000)) (List.mem_of_getElem? (i := 13) rfl)) dX5_init_68 ?_
  refine va_last (f := o_zero.2.1 0) hx hb hK hP hD hS 1 1 rfl rfl (k_in (k := 0) rfl (by decide) (by decide)) dX5_init_71 (fun H locs hP hD hS => ?_)
  rw [show (0 : Int32).toNatClampNeg = 0 from rfl] at hP hD
  have hP : va_P D vwCl (moW u cI cJ (o_setV o_zero 0 (vp_updL (o_zero.2.1 0) 0 10000))) H := hP
  have hD : va_D A9 (moW u cI cJ (o_setV o_zero 0 (vp_updL (o_zero.2.1 0) 0 10000))) := hD
  refine lv_aload_n hx hb dX5_init_72 rfl (lv_at hl 0 rfl) ?_
  refine va_get (D := D) (ci := 5) (v := .ref (u 1)) (C := RX5) (T := TX5) (N := 14) hx hb hts inX5 hown hK hP 0 rfl rfl 0 (by decide) (hts (.fieldLink RX5 7 "PumpOathsModel" "now" "[J") (List.mem_of_getElem? (i := 5) rfl)) (fun _ h9 => h9) rfl dX5_init_73 ?_
  refine lv_iconst (v := 1) hx hb dX5_init_76 (by decide) ?_
  refine lv_ldc2 (v := 5000) hx hb hown (hts (.constantLong RX5 34 (5000)) (List.mem_of_getElem? (i := 14) rfl)) dX5_init_77 ?_
  refine va_last (f := vp_updL (o_zero.2.1 0) 0 10000) hx hb hK hP hD hS 1 1 rfl rfl (k_in (k := 1) rfl (by decide) (by decide)) dX5_init_80 (fun H locs hP hD hS => ?_)
  rw [show (1 : Int32).toNatClampNeg = 1 from rfl] at hP hD
  have hP : va_P D vwCl (moW u cI cJ (o_setV o_zero 0 (vp_updL (vp_updL (o_zero.2.1 0) 0 10000) 1 5000))) H := hP
  have hD : va_D A9 (moW u cI cJ (o_setV o_zero 0 (vp_updL (vp_updL (o_zero.2.1 0) 0 10000) 1 5000))) := hD
  refine lv_aload_n hx hb dX5_init_81 rfl (lv_at hl 0 rfl) ?_
  refine va_get (D := D) (ci := 5) (v := .ref (u 1)) (C := RX5) (T := TX5) (N := 14) hx hb hts inX5 hown hK hP 0 rfl rfl 0 (by decide) (hts (.fieldLink RX5 7 "PumpOathsModel" "now" "[J") (List.mem_of_getElem? (i := 5) rfl)) (fun _ h9 => h9) rfl dX5_init_82 ?_
  refine lv_iconst (v := 2) hx hb dX5_init_85 (by decide) ?_
  refine lv_ldc2 (v := 4000) hx hb hown (hts (.constantLong RX5 36 (4000)) (List.mem_of_getElem? (i := 15) rfl)) dX5_init_86 ?_
  refine va_last (f := vp_updL (vp_updL (o_zero.2.1 0) 0 10000) 1 5000) hx hb hK hP hD hS 1 1 rfl rfl (k_in (k := 2) rfl (by decide) (by decide)) dX5_init_89 (fun H locs hP hD hS => ?_)
  rw [show (2 : Int32).toNatClampNeg = 2 from rfl] at hP hD
  have hP : va_P D vwCl (moW u cI cJ (o_setV o_zero 0 (vp_updL (vp_updL (vp_updL (o_zero.2.1 0) 0 10000) 1 5000) 2 4000))) H := hP
  have hD : va_D A9 (moW u cI cJ (o_setV o_zero 0 (vp_updL (vp_updL (vp_updL (o_zero.2.1 0) 0 10000) 1 5000) 2 4000))) := hD
  refine lv_aload_n hx hb dX5_init_90 rfl (lv_at hl 0 rfl) ?_
  refine va_get (D := D) (ci := 5) (v := .ref (u 1)) (C := RX5) (T := TX5) (N := 14) hx hb hts inX5 hown hK hP 0 rfl rfl 0 (by decide) (hts (.fieldLink RX5 7 "PumpOathsModel" "now" "[J") (List.mem_of_getElem? (i := 5) rfl)) (fun _ h9 => h9) rfl dX5_init_91 ?_
  refine lv_iconst (v := 3) hx hb dX5_init_94 (by decide) ?_
  refine lv_ldc2 (v := 8000) hx hb hown (hts (.constantLong RX5 38 (8000)) (List.mem_of_getElem? (i := 16) rfl)) dX5_init_95 ?_
  refine va_last (f := vp_updL (vp_updL (vp_updL (o_zero.2.1 0) 0 10000) 1 5000) 2 4000) hx hb hK hP hD hS 1 1 rfl rfl (k_in (k := 3) rfl (by decide) (by decide)) dX5_init_98 (fun H locs hP hD hS => ?_)
  rw [show (3 : Int32).toNatClampNeg = 3 from rfl] at hP hD
  have hP : va_P D vwCl (moW u cI cJ (o_setV o_zero 0 (vp_updL (vp_updL (vp_updL (vp_updL (o_zero.2.1 0) 0 10000) 1 5000) 2 4000) 3 8000))) H := hP
  have hD : va_D A9 (moW u cI cJ (o_setV o_zero 0 (vp_updL (vp_updL (vp_updL (vp_updL (o_zero.2.1 0) 0 10000) 1 5000) 2 4000) 3 8000))) := hD
  refine lv_aload_n hx hb dX5_init_99 rfl (lv_at hl 0 rfl) ?_
  refine va_get (D := D) (ci := 5) (v := .ref (u 1)) (C := RX5) (T := TX5) (N := 14) hx hb hts inX5 hown hK hP 0 rfl rfl 0 (by decide) (hts (.fieldLink RX5 7 "PumpOathsModel" "now" "[J") (List.mem_of_getElem? (i := 5) rfl)) (fun _ h9 => h9) rfl dX5_init_100 ?_
  refine lv_iconst (v := 4) hx hb dX5_init_103 (by decide) ?_
  refine lv_ldc2 (v := 500) hx hb hown (hts (.constantLong RX5 40 (500)) (List.mem_of_getElem? (i := 17) rfl)) dX5_init_104 ?_
  refine va_last (f := vp_updL (vp_updL (vp_updL (vp_updL (o_zero.2.1 0) 0 10000) 1 5000) 2 4000) 3 8000) hx hb hK hP hD hS 1 1 rfl rfl (k_in (k := 4) rfl (by decide) (by decide)) dX5_init_107 (fun H locs hP hD hS => ?_)
  rw [show (4 : Int32).toNatClampNeg = 4 from rfl] at hP hD
  have hP : va_P D vwCl (moW u cI cJ (o_setV o_zero 0 (vp_updL (vp_updL (vp_updL (vp_updL (vp_updL (o_zero.2.1 0) 0 10000) 1 5000) 2 4000) 3 8000) 4 500))) H := hP
  have hD : va_D A9 (moW u cI cJ (o_setV o_zero 0 (vp_updL (vp_updL (vp_updL (vp_updL (vp_updL (o_zero.2.1 0) 0 10000) 1 5000) 2 4000) 3 8000) 4 500))) := hD
  refine lv_aload_n hx hb dX5_init_108 rfl (lv_at hl 0 rfl) ?_
  refine va_get (D := D) (ci := 5) (v := .ref (u 1)) (C := RX5) (T := TX5) (N := 14) hx hb hts inX5 hown hK hP 0 rfl rfl 0 (by decide) (hts (.fieldLink RX5 7 "PumpOathsModel" "now" "[J") (List.mem_of_getElem? (i := 5) rfl)) (fun _ h9 => h9) rfl dX5_init_109 ?_
  refine lv_bipush (v := 6) hx hb dX5_init_112 (by decide) ?_
  refine lv_lconst (v := 1) hx hb dX5_init_114 (by decide) ?_
  refine va_last (f := vp_updL (vp_updL (vp_updL (vp_updL (vp_updL (o_zero.2.1 0) 0 10000) 1 5000) 2 4000) 3 8000) 4 500) hx hb hK hP hD hS 1 1 rfl rfl (k_in (k := 6) rfl (by decide) (by decide)) dX5_init_115 (fun H locs hP hD hS => ?_)
  rw [show (6 : Int32).toNatClampNeg = 6 from rfl] at hP hD
  have hP : va_P D vwCl (moW u cI cJ (o_setV o_zero 0 (vp_updL (vp_updL (vp_updL (vp_updL (vp_updL (vp_updL (o_zero.2.1 0) 0 10000) 1 5000) 2 4000) 3 8000) 4 500) 6 1))) H := hP
  have hD : va_D A9 (moW u cI cJ (o_setV o_zero 0 (vp_updL (vp_updL (vp_updL (vp_updL (vp_updL (vp_updL (o_zero.2.1 0) 0 10000) 1 5000) 2 4000) 3 8000) 4 500) 6 1))) := hD
  refine lv_iconst (v := 0) hx hb dX5_init_116 (by decide) ?_
  refine lv_istore_n (lv' := [(1, .int 0), (0, .ref (u 0))]) hx hb dX5_init_117 rfl hl (by decide) rfl (fun ls hl => ?_)
  have L_118_0 : ∀ (d : Nat) (k : Nat) (f : Nat → Int64), 24 < k + d → k ≤ 24 → ∀  (e118 : itr o_nwB k o_nw0 = f) (H : Heap) (locs : List Loc) (ls : Array Slot), va_P D vwCl (moW u cI cJ (o_setV o_zero 0 f)) H → va_D A9 (moW u cI cJ (o_setV o_zero 0 f)) → va_S A9 s9.heap H locs → lv_has ls 2 [(0, .ref (u 0)), (1, .int (nI k))] → W p9 l e9 ({ frames := 1, cells := 7, slots := 1030, locals := 13 } : Room) s9 m9 (List.toArray [.ref a0]) below meth c9 H locs 7 1030 (MQ below (va_Qv (fun (u : Nat → Nat) => u 0 = a0) (fun u t => va_P D vwCl ((fun u : Nat → Nat => moW u cI cJ o_new) u) t.heap ∧ va_D A9 ((fun u : Nat → Nat => moW u cI cJ o_new) u)) A9) (List.toArray [.ref a0]) s9 7 1030 A9) (F0 m9 118 ls []) := by
    intro d
    induction d with
    | zero =>
      intro k f hf
      intro hkn; exact absurd hf (by omega)
    | succ d ih_118 =>
      intro k f hf_118 hkn_118 e118 H locs ls hP hD hS hl
      refine lv_iload_n hx hb dX5_init_118 rfl (lv_at hl 1 rfl) ?_
      refine lv_bipush (v := 24) hx hb dX5_init_119 (by decide) ?_
      refine lv_icmp_ge (tgt := 142) hx hb dX5_init_121 (by decide) (fun c_121_1 => ?_) (fun c_121_1 => ?_)
      · have c_121_1 : 24 ≤ (nI k) := c_121_1
        have hke_118 : k = 24 := k_exitN c_121_1 rfl hkn_118 (by decide)
        have eW : moW u cI cJ (o_setV o_zero 0 f) = (fun u : Nat → Nat => moW u cI cJ o_new) u := by exact congrArg (fun T9 => moW u cI cJ T9) (show o_setV o_zero 0 f = o_new from by rw [o_new, ← e118, hke_118])
        rw [eW] at hP hD
        exact k_nret (W' := (fun u : Nat → Nat => moW u cI cJ o_new)) (u9 := u) hx hb hr hlk dX5_init_142 (by rw [hu]; rfl) hP hD hS
      · have c_121_1 : ¬ 24 ≤ (nI k) := c_121_1
        have hkl_118 : k < 24 := k_bodyN c_121_1 rfl hkn_118 (by decide)
        refine lv_aload_n hx hb dX5_init_124 rfl (lv_at hl 0 rfl) ?_
        refine va_get (D := D) (ci := 5) (v := .ref (u 1)) (C := RX5) (T := TX5) (N := 14) hx hb hts inX5 hown hK hP 0 rfl rfl 0 (by decide) (hts (.fieldLink RX5 7 "PumpOathsModel" "now" "[J") (List.mem_of_getElem? (i := 5) rfl)) (fun _ h9 => h9) rfl dX5_init_125 ?_
        refine lv_bipush (v := 24) hx hb dX5_init_128 (by decide) ?_
        refine lv_iload_n hx hb dX5_init_130 rfl (lv_at hl 1 rfl) ?_
        refine lv_iadd hx hb dX5_init_131 ?_
        refine lv_ldc2 (v := 20) hx hb hown (hts (.constantLong RX5 42 (20)) (List.mem_of_getElem? (i := 18) rfl)) dX5_init_132 ?_
        refine va_last (f := f) hx hb hK hP hD hS 1 1 rfl rfl (k_in (k := 24 + k) (show 24 + nI k = nI (24 + k) from by rw [show (24 : Int32) = nI 24 from rfl, nI_add]) (by omega) (by decide)) dX5_init_135 (fun H locs hP hD hS => ?_)
        rw [show (24 + (nI k) : Int32).toNatClampNeg = 24 + k from k_cl (show 24 + nI k = nI (24 + k) from by rw [show (24 : Int32) = nI 24 from rfl, nI_add]) (by omega)] at hP hD
        have hP : va_P D vwCl (moW u cI cJ (o_setV o_zero 0 (vp_updL f (24 + k) 20))) H := hP
        have hD : va_D A9 (moW u cI cJ (o_setV o_zero 0 (vp_updL f (24 + k) 20))) := hD
        refine lv_iinc (v := (nI k) + 1) (lv' := [(1, .int ((nI k) + 1)), (0, .ref (u 0))]) hx hb dX5_init_136 hl (k := 1) rfl rfl (by decide) rfl (fun ls hl => ?_)
        refine lv_goto (tgt := 118) hx hb dX5_init_139 (by decide) ?_
        rw [show ((nI k) + 1) = (nI (k + 1)) from nI_1 _] at hl
        exact ih_118 (k + 1) (vp_updL f (24 + k) 20) (by omega) (by omega) (by rw [itr_s, e118]; simp [o_nwB, c_121_1]) _ _ _ hP hD hS (lv_sub hl [1, 0] rfl)
  exact L_118_0 (24 + 1) 0 (vp_updL (vp_updL (vp_updL (vp_updL (vp_updL (vp_updL (o_zero.2.1 0) 0 10000) 1 5000) 2 4000) 3 8000) 4 500) 6 1) (by omega) (by omega) (rfl) _ _ _ hP hD hS (lv_sub hl [1, 0] rfl)
