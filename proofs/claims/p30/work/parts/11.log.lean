/-! THE LOG -/
theorem k_in0 {x b : Int32} {N : Nat} (hb : b.toInt = N) (h1 : ¬ x < 0) (h2 : ¬ b ≤ x) : vp_in x N := by
  refine vp_in_iff.mpr ⟨?_, ?_⟩
  · have := Int32.not_lt.mp h1
    simpa using Int32.le_iff_toInt_le.mp this
  · have := Int32.lt_iff_toInt_lt.mp (Int32.not_le.mp h2)
    rw [hb] at this
    exact this
def b_row (S : SS) (a b c : Int32) : Nat → Int32 := upd (upd (upd (va_cpy (S.2.2.1 10) (S.2.2.1 10) 0 3 33) 0 a) 1 b) 2 c
def b_put (S : SS) (a b c : Int32) : SS := if 12 ≤ S.1 9 then setA S 10 (b_row S a b c) else setI (setA S 10 (b_row S a b c)) 9 (S.1 9 + 1)
def b_part (S : SS) (a b : Int32) : Int32 := if ¬ a * 3 + b < 0 ∧ ¬ 36 ≤ a * 3 + b then S.2.2.1 10 (a * 3 + b).toNatClampNeg else 0
def b_digB (S : SS) (k : Nat) (h : Int64) : Int64 := 31 * h + (S.2.2.1 10 k).toInt64
def b_dig (S : SS) (m : Nat) (h : Int64) : Int64 := itr (b_digB S) (3 * m) h
def b_become (S T : SS) : SS := setA (setI S 9 (T.1 9)) 10 (T.2.2.1 10)

set_option maxHeartbeats 1000000 in
set_option maxRecDepth 100000 in
theorem c_X0_become (l : Launch) (D : va_G) (q r : Nat → Nat) (cI cJ : ClassId) (S T : SS)  : kV l yX0_become wsX0_become ({ frames := 1, cells := 0, slots := 0, locals := 40 } : Room) D [(cI, .int), (cJ, .long)] [.ref (q 13), .ref (r 13)] (stW q cI cJ S ++ (stW r cI cJ T)) (stW q cI cJ (b_become S T) ++ (stW r cI cJ T)) := by
  refine kBody.met (cc := cX0_become) (maxL := 2) (ret := none) (by decide) rfl (Nat.le_of_ble_eq_true rfl) ?_
  intro p9 e9 s9 m9 below meth c9 A9 ls hx hb hr hml hts hown hlk hK hP hD hA hl
  have hown : s9.vm.findClass RX0 = some m9.cls := hown
  have inX0 : ∀ w ∈ wsX00, w ∈ wsX0_become := fun w h => List.mem_cons_of_mem _ (List.mem_append_right _ (h))
  have hS : va_S A9 s9.heap s9.heap [] := va_S.rf
  have hl : lv_has ls 2 [(0, .ref (q 13)), (1, .ref (r 13))] := hl
  refine lv_aload_n hx hb dX0_become_0 rfl (lv_at hl 0 rfl) ?_
  refine lv_aload_n hx hb dX0_become_1 rfl (lv_at hl 1 rfl) ?_
  refine va_get (D := D) (ci := 0) (v := .int (T.1 9)) (C := RX0) (T := TX0) (N := 2) hx hb hts inX0 hown hK hP 28 rfl rfl 1 (by decide) (hts (.fieldLink RX0 13 "PumpOaths$BreachLog" "count" "I") (List.mem_of_getElem? (i := 1) rfl)) (fun _ h9 => h9) rfl dX0_become_2 ?_
  refine va_put (D := D) (ci := 0) (v := .int (T.1 9)) (ty := .int) (C := RX0) (T := TX0) (N := 2) hx hb hts inX0 tyX0 tyX0_ok nmX0 hown hK hP hD hS 13 rfl rfl 1 (by decide) (hts (.fieldLink RX0 13 "PumpOaths$BreachLog" "count" "I") (List.mem_of_getElem? (i := 1) rfl)) (fun _ h9 => h9) rfl (by decide +kernel) rfl rfl (Nat.le_of_ble_eq_true rfl) dX0_become_5 (fun H locs hP hD hS => ?_)
  have hP : va_P D vwCl (stW q cI cJ (setI S 9 (T.1 9)) ++ (stW r cI cJ T)) H := hP
  have hD : va_D A9 (stW q cI cJ (setI S 9 (T.1 9)) ++ (stW r cI cJ T)) := hD
  refine lv_aload_n hx hb dX0_become_8 rfl (lv_at hl 1 rfl) ?_
  refine va_get (D := D) (ci := 0) (v := .ref (r 14)) (C := RX0) (T := TX0) (N := 2) hx hb hts inX0 hown hK hP 28 rfl rfl 0 (by decide) (hts (.fieldLink RX0 9 "PumpOaths$BreachLog" "parts" "[I") (List.mem_of_getElem? (i := 2) rfl)) (fun _ h9 => h9) rfl dX0_become_9 ?_
  refine lv_iconst (v := 0) hx hb dX0_become_12 (by decide) ?_
  refine lv_aload_n hx hb dX0_become_13 rfl (lv_at hl 0 rfl) ?_
  refine va_get (D := D) (ci := 0) (v := .ref (q 14)) (C := RX0) (T := TX0) (N := 2) hx hb hts inX0 hown hK hP 13 rfl rfl 0 (by decide) (hts (.fieldLink RX0 9 "PumpOaths$BreachLog" "parts" "[I") (List.mem_of_getElem? (i := 2) rfl)) (fun _ h9 => h9) rfl dX0_become_14 ?_
  refine lv_iconst (v := 0) hx hb dX0_become_17 (by decide) ?_
  refine lv_bipush (v := 36) hx hb dX0_become_18 (by decide) ?_
  refine k_copyi hx hb (hml.trans hl.1.symm) hown (hts (.methodLink RX0 17 arraycopyName) (List.mem_of_getElem? (i := 3) rfl)) (hts (.native arraycopyName) (List.mem_of_getElem? (i := 4) rfl)) (hts (.static arraycopyName) (List.mem_of_getElem? (i := 5) rfl)) (hts (.initialized "java/lang/System") (List.mem_of_getElem? (i := 6) rfl)) hK hP hD hS 29 14 0 0 rfl rfl rfl rfl (by decide) rfl (by decide) (Nat.le_of_ble_eq_true rfl) dX0_become_20 (fun H locs hP hD hS => ?_)
  have hP : va_P D vwCl (stW q cI cJ (setA (setI S 9 (T.1 9)) 10 (T.2.2.1 10)) ++ (stW r cI cJ T)) H := hP
  have hD : va_D A9 (stW q cI cJ (setA (setI S 9 (T.1 9)) 10 (T.2.2.1 10)) ++ (stW r cI cJ T)) := hD
  exact k_vret hx hb hr hlk hP hS dX0_become_23 (k_P rfl)

set_option maxHeartbeats 1000000 in
set_option maxRecDepth 100000 in
theorem c_X0_put (l : Launch) (D : va_G) (q : Nat → Nat) (cI cJ : ClassId) (S : SS) (a b d : Int32)  : kV l yX0_put wsX0_put ({ frames := 1, cells := 0, slots := 0, locals := 40 } : Room) D [(cI, .int), (cJ, .long)] [.ref (q 13), .int a, .int b, .int d] (stW q cI cJ S) (stW q cI cJ (b_put S a b d)) := by
  refine kBody.met (cc := cX0_put) (maxL := 4) (ret := none) (by decide) rfl (Nat.le_of_ble_eq_true rfl) ?_
  intro p9 e9 s9 m9 below meth c9 A9 ls hx hb hr hml hts hown hlk hK hP hD hA hl
  have hown : s9.vm.findClass RX0 = some m9.cls := hown
  have inX0 : ∀ w ∈ wsX00, w ∈ wsX0_put := fun w h => List.mem_cons_of_mem _ (List.mem_append_right _ (h))
  have hS : va_S A9 s9.heap s9.heap [] := va_S.rf
  have hl : lv_has ls 4 [(0, .ref (q 13)), (1, .int a), (2, .int b), (3, .int d)] := hl
  refine lv_aload_n hx hb dX0_put_0 rfl (lv_at hl 0 rfl) ?_
  refine va_get (D := D) (ci := 0) (v := .ref (q 14)) (C := RX0) (T := TX0) (N := 2) hx hb hts inX0 hown hK hP 13 rfl rfl 0 (by decide) (hts (.fieldLink RX0 9 "PumpOaths$BreachLog" "parts" "[I") (List.mem_of_getElem? (i := 1) rfl)) (fun _ h9 => h9) rfl dX0_put_1 ?_
  refine lv_iconst (v := 0) hx hb dX0_put_4 (by decide) ?_
  refine lv_aload_n hx hb dX0_put_5 rfl (lv_at hl 0 rfl) ?_
  refine va_get (D := D) (ci := 0) (v := .ref (q 14)) (C := RX0) (T := TX0) (N := 2) hx hb hts inX0 hown hK hP 13 rfl rfl 0 (by decide) (hts (.fieldLink RX0 9 "PumpOaths$BreachLog" "parts" "[I") (List.mem_of_getElem? (i := 1) rfl)) (fun _ h9 => h9) rfl dX0_put_6 ?_
  refine lv_iconst (v := 3) hx hb dX0_put_9 (by decide) ?_
  refine lv_bipush (v := 33) hx hb dX0_put_10 (by decide) ?_
  refine va_copyi hx hb (hml.trans hl.1.symm) hown (hts (.methodLink RX0 17 arraycopyName) (List.mem_of_getElem? (i := 2) rfl)) (hts (.native arraycopyName) (List.mem_of_getElem? (i := 3) rfl)) (hts (.static arraycopyName) (List.mem_of_getElem? (i := 4) rfl)) (hts (.initialized "java/lang/System") (List.mem_of_getElem? (i := 5) rfl)) hK hP hD hS 14 14 0 0 rfl rfl rfl rfl rfl (by decide) (by decide) (by decide) (by decide) (by decide) (fun _ _ => rfl) (by decide) (Nat.le_of_ble_eq_true rfl) dX0_put_12 (fun H locs hP hD hS => ?_)
  have hP : va_P D vwCl (stW q cI cJ (setA S 10 (va_cpy (S.2.2.1 10) (S.2.2.1 10) 0 3 33))) H := hP
  have hD : va_D A9 (stW q cI cJ (setA S 10 (va_cpy (S.2.2.1 10) (S.2.2.1 10) 0 3 33))) := hD
  refine lv_aload_n hx hb dX0_put_15 rfl (lv_at hl 0 rfl) ?_
  refine va_get (D := D) (ci := 0) (v := .ref (q 14)) (C := RX0) (T := TX0) (N := 2) hx hb hts inX0 hown hK hP 13 rfl rfl 0 (by decide) (hts (.fieldLink RX0 9 "PumpOaths$BreachLog" "parts" "[I") (List.mem_of_getElem? (i := 1) rfl)) (fun _ h9 => h9) rfl dX0_put_16 ?_
  refine lv_iconst (v := 0) hx hb dX0_put_19 (by decide) ?_
  refine lv_iload_n hx hb dX0_put_20 rfl (lv_at hl 1 rfl) ?_
  refine va_iast (f := va_cpy (S.2.2.1 10) (S.2.2.1 10) 0 3 33) hx hb hK hP hD hS 14 0 rfl rfl (k_in (k := 0) rfl (by decide) (by decide)) dX0_put_21 (fun H locs hP hD hS => ?_)
  rw [show (0 : Int32).toNatClampNeg = 0 from rfl] at hP hD
  have hP : va_P D vwCl (stW q cI cJ (setA S 10 (upd (va_cpy (S.2.2.1 10) (S.2.2.1 10) 0 3 33) 0 a))) H := hP
  have hD : va_D A9 (stW q cI cJ (setA S 10 (upd (va_cpy (S.2.2.1 10) (S.2.2.1 10) 0 3 33) 0 a))) := hD
  refine lv_aload_n hx hb dX0_put_22 rfl (lv_at hl 0 rfl) ?_
  refine va_get (D := D) (ci := 0) (v := .ref (q 14)) (C := RX0) (T := TX0) (N := 2) hx hb hts inX0 hown hK hP 13 rfl rfl 0 (by decide) (hts (.fieldLink RX0 9 "PumpOaths$BreachLog" "parts" "[I") (List.mem_of_getElem? (i := 1) rfl)) (fun _ h9 => h9) rfl dX0_put_23 ?_
  refine lv_iconst (v := 1) hx hb dX0_put_26 (by decide) ?_
  refine lv_iload_n hx hb dX0_put_27 rfl (lv_at hl 2 rfl) ?_
  refine va_iast (f := upd (va_cpy (S.2.2.1 10) (S.2.2.1 10) 0 3 33) 0 a) hx hb hK hP hD hS 14 0 rfl rfl (k_in (k := 1) rfl (by decide) (by decide)) dX0_put_28 (fun H locs hP hD hS => ?_)
  rw [show (1 : Int32).toNatClampNeg = 1 from rfl] at hP hD
  have hP : va_P D vwCl (stW q cI cJ (setA S 10 (upd (upd (va_cpy (S.2.2.1 10) (S.2.2.1 10) 0 3 33) 0 a) 1 b))) H := hP
  have hD : va_D A9 (stW q cI cJ (setA S 10 (upd (upd (va_cpy (S.2.2.1 10) (S.2.2.1 10) 0 3 33) 0 a) 1 b))) := hD
  refine lv_aload_n hx hb dX0_put_29 rfl (lv_at hl 0 rfl) ?_
  refine va_get (D := D) (ci := 0) (v := .ref (q 14)) (C := RX0) (T := TX0) (N := 2) hx hb hts inX0 hown hK hP 13 rfl rfl 0 (by decide) (hts (.fieldLink RX0 9 "PumpOaths$BreachLog" "parts" "[I") (List.mem_of_getElem? (i := 1) rfl)) (fun _ h9 => h9) rfl dX0_put_30 ?_
  refine lv_iconst (v := 2) hx hb dX0_put_33 (by decide) ?_
  refine lv_iload_n hx hb dX0_put_34 rfl (lv_at hl 3 rfl) ?_
  refine va_iast (f := upd (upd (va_cpy (S.2.2.1 10) (S.2.2.1 10) 0 3 33) 0 a) 1 b) hx hb hK hP hD hS 14 0 rfl rfl (k_in (k := 2) rfl (by decide) (by decide)) dX0_put_35 (fun H locs hP hD hS => ?_)
  rw [show (2 : Int32).toNatClampNeg = 2 from rfl] at hP hD
  have hP : va_P D vwCl (stW q cI cJ (setA S 10 (upd (upd (upd (va_cpy (S.2.2.1 10) (S.2.2.1 10) 0 3 33) 0 a) 1 b) 2 d))) H := hP
  have hD : va_D A9 (stW q cI cJ (setA S 10 (upd (upd (upd (va_cpy (S.2.2.1 10) (S.2.2.1 10) 0 3 33) 0 a) 1 b) 2 d))) := hD
  refine lv_aload_n hx hb dX0_put_36 rfl (lv_at hl 0 rfl) ?_
  refine va_get (D := D) (ci := 0) (v := .int (S.1 9)) (C := RX0) (T := TX0) (N := 2) hx hb hts inX0 hown hK hP 13 rfl rfl 1 (by decide) (hts (.fieldLink RX0 13 "PumpOaths$BreachLog" "count" "I") (List.mem_of_getElem? (i := 6) rfl)) (fun _ h9 => h9) rfl dX0_put_37 ?_
  refine lv_bipush (v := 12) hx hb dX0_put_40 (by decide) ?_
  refine lv_icmp_ge (tgt := 55) hx hb dX0_put_42 (by decide) (fun c_42_0 => ?_) (fun c_42_0 => ?_)
  · have c_42_0 : 12 ≤ (S.1 9) := c_42_0
    exact k_vret hx hb hr hlk hP hS dX0_put_55 (k_P (by simp [b_put, b_row, c_42_0]))
  · have c_42_0 : ¬ 12 ≤ (S.1 9) := c_42_0
    refine lv_aload_n hx hb dX0_put_45 rfl (lv_at hl 0 rfl) ?_
    refine lv_dup hx hb dX0_put_46 rfl ?_
    refine va_get (D := D) (ci := 0) (v := .int (S.1 9)) (C := RX0) (T := TX0) (N := 2) hx hb hts inX0 hown hK hP 13 rfl rfl 1 (by decide) (hts (.fieldLink RX0 13 "PumpOaths$BreachLog" "count" "I") (List.mem_of_getElem? (i := 6) rfl)) (fun _ h9 => h9) rfl dX0_put_47 ?_
    refine lv_iconst (v := 1) hx hb dX0_put_50 (by decide) ?_
    refine lv_iadd hx hb dX0_put_51 ?_
    refine va_put (D := D) (ci := 0) (v := .int ((S.1 9) + 1)) (ty := .int) (C := RX0) (T := TX0) (N := 2) hx hb hts inX0 tyX0 tyX0_ok nmX0 hown hK hP hD hS 13 rfl rfl 1 (by decide) (hts (.fieldLink RX0 13 "PumpOaths$BreachLog" "count" "I") (List.mem_of_getElem? (i := 6) rfl)) (fun _ h9 => h9) rfl (by decide +kernel) rfl rfl (Nat.le_of_ble_eq_true rfl) dX0_put_52 (fun H locs hP hD hS => ?_)
    have hP : va_P D vwCl (stW q cI cJ (setI (setA S 10 (upd (upd (upd (va_cpy (S.2.2.1 10) (S.2.2.1 10) 0 3 33) 0 a) 1 b) 2 d)) 9 ((S.1 9) + 1))) H := hP
    have hD : va_D A9 (stW q cI cJ (setI (setA S 10 (upd (upd (upd (va_cpy (S.2.2.1 10) (S.2.2.1 10) 0 3 33) 0 a) 1 b) 2 d)) 9 ((S.1 9) + 1))) := hD
    exact k_vret hx hb hr hlk hP hS dX0_put_55 (k_P (by simp [b_put, b_row, c_42_0]))

set_option maxHeartbeats 1000000 in
set_option maxRecDepth 100000 in
theorem c_X0_part (l : Launch) (D : va_G) (q : Nat → Nat) (cI cJ : ClassId) (S : SS) (a b : Int32)  : kI l yX0_part wsX0_part ({ frames := 0, cells := 0, slots := 0, locals := 0 } : Room) D [(cI, .int), (cJ, .long)] [.ref (q 13), .int a, .int b] (stW q cI cJ S) (b_part S a b) (stW q cI cJ S) := by
  refine kBody.met (cc := cX0_part) (maxL := 4) (ret := (some .int)) (by decide) rfl (Nat.le_of_ble_eq_true rfl) ?_
  intro p9 e9 s9 m9 below meth c9 A9 ls hx hb hr hml hts hown hlk hK hP hD hA hl
  have hown : s9.vm.findClass RX0 = some m9.cls := hown
  have inX0 : ∀ w ∈ wsX00, w ∈ wsX0_part := fun w h => List.mem_cons_of_mem _ (List.mem_append_right _ (h))
  have hS : va_S A9 s9.heap s9.heap [] := va_S.rf
  have hl : lv_has ls 4 [(0, .ref (q 13)), (1, .int a), (2, .int b)] := hl
  refine lv_iload_n hx hb dX0_part_0 rfl (lv_at hl 1 rfl) ?_
  refine lv_iconst (v := 3) hx hb dX0_part_1 (by decide) ?_
  refine lv_imul hx hb dX0_part_2 ?_
  refine lv_iload_n hx hb dX0_part_3 rfl (lv_at hl 2 rfl) ?_
  refine lv_iadd hx hb dX0_part_4 ?_
  refine lv_istore_n (lv' := [(3, .int ((a * 3) + b)), (0, .ref (q 13)), (1, .int a), (2, .int b)]) hx hb dX0_part_5 rfl hl (by decide) rfl (fun ls hl => ?_)
  refine lv_iload_n hx hb dX0_part_6 rfl (lv_at hl 0 rfl) ?_
  refine lv_if_lt (tgt := 28) hx hb dX0_part_7 (by decide) (fun c_7_0 => ?_) (fun c_7_0 => ?_)
  · have c_7_0 : ((a * 3) + b) < 0 := c_7_0
    refine lv_iconst (v := 0) hx hb dX0_part_28 (by decide) ?_
    exact k_iret hx hb hr hlk hP hS dX0_part_29 rfl (by simp [b_part, c_7_0]) (fun h => h)
  · have c_7_0 : ¬ ((a * 3) + b) < 0 := c_7_0
    refine lv_iload_n hx hb dX0_part_10 rfl (lv_at hl 0 rfl) ?_
    refine lv_aload_n hx hb dX0_part_11 rfl (lv_at hl 1 rfl) ?_
    refine va_get (D := D) (ci := 0) (v := .ref (q 14)) (C := RX0) (T := TX0) (N := 2) hx hb hts inX0 hown hK hP 13 rfl rfl 0 (by decide) (hts (.fieldLink RX0 9 "PumpOaths$BreachLog" "parts" "[I") (List.mem_of_getElem? (i := 1) rfl)) (fun _ h9 => h9) rfl dX0_part_12 ?_
    refine va_alen hx hb hK hP 14 0 rfl rfl (v := 36) rfl dX0_part_15 ?_
    refine lv_icmp_ge (tgt := 28) hx hb dX0_part_16 (by decide) (fun c_16_1 => ?_) (fun c_16_1 => ?_)
    · have c_16_1 : 36 ≤ ((a * 3) + b) := c_16_1
      refine lv_iconst (v := 0) hx hb dX0_part_28 (by decide) ?_
      exact k_iret hx hb hr hlk hP hS dX0_part_29 rfl (by simp [b_part, c_7_0, c_16_1]) (fun h => h)
    · have c_16_1 : ¬ 36 ≤ ((a * 3) + b) := c_16_1
      have hin := k_in0 (N := 36) rfl c_7_0 c_16_1
      refine lv_aload_n hx hb dX0_part_19 rfl (lv_at hl 1 rfl) ?_
      refine va_get (D := D) (ci := 0) (v := .ref (q 14)) (C := RX0) (T := TX0) (N := 2) hx hb hts inX0 hown hK hP 13 rfl rfl 0 (by decide) (hts (.fieldLink RX0 9 "PumpOaths$BreachLog" "parts" "[I") (List.mem_of_getElem? (i := 1) rfl)) (fun _ h9 => h9) rfl dX0_part_20 ?_
      refine lv_iload_n hx hb dX0_part_23 rfl (lv_at hl 0 rfl) ?_
      refine va_iald (f := S.2.2.1 10) hx hb hK hP 14 0 rfl rfl (hin) dX0_part_24 ?_
      refine lv_goto (tgt := 29) hx hb dX0_part_25 (by decide) ?_
      exact k_iret hx hb hr hlk hP hS dX0_part_29 rfl (by simp [b_part, c_7_0, c_16_1]) (fun h => h)

set_option maxHeartbeats 1000000 in
set_option maxRecDepth 100000 in
theorem c_X0_digestOnto (l : Launch) (D : va_G) (q : Nat → Nat) (cI cJ : ClassId) (S : SS) (h : Int64) (mm : Nat) (hm : S.1 9 = nI mm) (hm12 : mm ≤ 12) : kL l yX0_digestOnto wsX0_digestOnto ({ frames := 0, cells := 0, slots := 0, locals := 0 } : Room) D [(cI, .int), (cJ, .long)] [.ref (q 13), .long h] (stW q cI cJ S) (b_dig S mm h) (stW q cI cJ S) := by
  refine kBody.met (cc := cX0_digestOnto) (maxL := 6) (ret := (some .long)) (by decide) rfl (Nat.le_of_ble_eq_true rfl) ?_
  intro p9 e9 s9 m9 below meth c9 A9 ls hx hb hr hml hts hown hlk hK hP hD hA hl
  have hown : s9.vm.findClass RX0 = some m9.cls := hown
  have inX0 : ∀ w ∈ wsX00, w ∈ wsX0_digestOnto := fun w h => List.mem_cons_of_mem _ (List.mem_append_right _ (h))
  have hS : va_S A9 s9.heap s9.heap [] := va_S.rf
  have hl : lv_has ls 6 [(0, .ref (q 13)), (1, .long h)] := hl
  refine lv_lload_n hx hb dX0_digestOnto_0 rfl (lv_at hl 1 rfl) ?_
  refine lv_lstore_n (lv' := [(3, .long h), (0, .ref (q 13)), (1, .long h)]) hx hb dX0_digestOnto_1 rfl hl (by decide) rfl (fun ls hl => ?_)
  refine lv_iconst (v := 0) hx hb dX0_digestOnto_2 (by decide) ?_
  refine lv_istore (lv' := [(5, .int 0), (3, .long h), (0, .ref (q 13)), (1, .long h)]) hx hb dX0_digestOnto_3 hl (by decide) rfl (fun ls hl => ?_)
  have L_5_0 : ∀ (d : Nat) (k : Nat) (x : Int64), 3 * mm < k + d → k ≤ 3 * mm → ∀  (e5 : itr (b_digB S) k h = x) (H : Heap) (locs : List Loc) (ls : Array Slot), va_P D vwCl (stW q cI cJ S) H → va_D A9 (stW q cI cJ S) → va_S A9 s9.heap H locs → lv_has ls 6 [(0, .ref (q 13)), (1, .long h), (3, .long x), (5, .int (nI k))] → W p9 l e9 ({ frames := 0, cells := 0, slots := 0, locals := 0 } : Room) s9 m9 (List.toArray [.ref (q 13), .long h]) below meth c9 H locs 0 0 (MQ below (va_Ql (fun r (_ : Unit) => r = (b_dig S mm h)) (fun _ t9 => va_P D vwCl (stW q cI cJ S) t9.heap) A9) (List.toArray [.ref (q 13), .long h]) s9 0 0 A9) (F0 m9 5 ls []) := by
    intro d
    induction d with
    | zero =>
      intro k x hf
      intro hkn; exact absurd hf (by omega)
    | succ d ih_5 =>
      intro k x hf_5 hkn_5 e5 H locs ls hP hD hS hl
      refine lv_iload hx hb dX0_digestOnto_5 (lv_at hl 3 rfl) ?_
      refine lv_aload_n hx hb dX0_digestOnto_7 rfl (lv_at hl 0 rfl) ?_
      refine va_get (D := D) (ci := 0) (v := .int (S.1 9)) (C := RX0) (T := TX0) (N := 2) hx hb hts inX0 hown hK hP 13 rfl rfl 1 (by decide) (hts (.fieldLink RX0 13 "PumpOaths$BreachLog" "count" "I") (List.mem_of_getElem? (i := 1) rfl)) (fun _ h9 => h9) rfl dX0_digestOnto_8 ?_
      refine lv_iconst (v := 3) hx hb dX0_digestOnto_11 (by decide) ?_
      refine lv_imul hx hb dX0_digestOnto_12 ?_
      refine lv_icmp_ge (tgt := 47) hx hb dX0_digestOnto_13 (by decide) (fun c_13_1 => ?_) (fun c_13_1 => ?_)
      · have c_13_1 : ((S.1 9) * 3) ≤ (nI k) := c_13_1
        have hke_5 : 3 * mm = k := (k_exitN c_13_1 (show S.1 9 * 3 = nI (3 * mm) by rw [hm, show (3 : Int32) = nI 3 from rfl, pk_mul, Nat.mul_comm]) hkn_5 (by omega)).symm
        subst hke_5
        refine lv_lload_n hx hb dX0_digestOnto_47 rfl (lv_at hl 2 rfl) ?_
        exact k_lret hx hb hr hlk hP hS dX0_digestOnto_48 (by rw [b_dig, e5]) (fun h => h)
      · have c_13_1 : ¬ ((S.1 9) * 3) ≤ (nI k) := c_13_1
        have hkl_5 : k < 3 * mm := k_bodyN c_13_1 (show S.1 9 * 3 = nI (3 * mm) by rw [hm, show (3 : Int32) = nI 3 from rfl, pk_mul, Nat.mul_comm]) hkn_5 (by omega)
        refine lv_iload hx hb dX0_digestOnto_16 (lv_at hl 3 rfl) ?_
        refine lv_aload_n hx hb dX0_digestOnto_18 rfl (lv_at hl 0 rfl) ?_
        refine va_get (D := D) (ci := 0) (v := .ref (q 14)) (C := RX0) (T := TX0) (N := 2) hx hb hts inX0 hown hK hP 13 rfl rfl 0 (by decide) (hts (.fieldLink RX0 9 "PumpOaths$BreachLog" "parts" "[I") (List.mem_of_getElem? (i := 2) rfl)) (fun _ h9 => h9) rfl dX0_digestOnto_19 ?_
        refine va_alen hx hb hK hP 14 0 rfl rfl (v := 36) rfl dX0_digestOnto_22 ?_
        refine lv_icmp_ge (tgt := 47) hx hb dX0_digestOnto_23 (by decide) (fun c_23_2 => ?_) (fun c_23_2 => ?_)
        · have c_23_2 : 36 ≤ (nI k) := c_23_2
          exact absurd (show nI 36 ≤ nI k from c_23_2) (nI_ge (by omega) (by decide)) -- done
        · have c_23_2 : ¬ 36 ≤ (nI k) := c_23_2
          refine lv_ldc2 (v := 31) hx hb hown (hts (.constantLong RX0 23 (31)) (List.mem_of_getElem? (i := 3) rfl)) dX0_digestOnto_26 ?_
          refine lv_lload_n hx hb dX0_digestOnto_29 rfl (lv_at hl 2 rfl) ?_
          refine lv_lmul hx hb dX0_digestOnto_30 ?_
          refine lv_aload_n hx hb dX0_digestOnto_31 rfl (lv_at hl 0 rfl) ?_
          refine va_get (D := D) (ci := 0) (v := .ref (q 14)) (C := RX0) (T := TX0) (N := 2) hx hb hts inX0 hown hK hP 13 rfl rfl 0 (by decide) (hts (.fieldLink RX0 9 "PumpOaths$BreachLog" "parts" "[I") (List.mem_of_getElem? (i := 2) rfl)) (fun _ h9 => h9) rfl dX0_digestOnto_32 ?_
          refine lv_iload hx hb dX0_digestOnto_35 (lv_at hl 3 rfl) ?_
          refine va_iald (f := S.2.2.1 10) hx hb hK hP 14 0 rfl rfl (k_in (k := k) rfl (by omega) (by decide)) dX0_digestOnto_37 ?_
          rw [show (nI k : Int32).toNatClampNeg = k from nI_clamp (by omega)]
          refine lv_i2l hx hb dX0_digestOnto_38 rfl ?_
          refine lv_ladd hx hb dX0_digestOnto_39 ?_
          refine lv_lstore_n (lv' := [(3, .long ((31 * x) + (((S.2.2.1 10) k).toInt64))), (0, .ref (q 13)), (1, .long h), (5, .int (nI k))]) hx hb dX0_digestOnto_40 rfl hl (by decide) rfl (fun ls hl => ?_)
          refine lv_iinc (v := (nI k) + 1) (lv' := [(5, .int ((nI k) + 1)), (3, .long ((31 * x) + (((S.2.2.1 10) k).toInt64))), (0, .ref (q 13)), (1, .long h)]) hx hb dX0_digestOnto_41 hl (k := 3) rfl rfl (by decide) rfl (fun ls hl => ?_)
          refine lv_goto (tgt := 5) hx hb dX0_digestOnto_44 (by decide) ?_
          rw [show ((nI k) + 1) = (nI (k + 1)) from nI_1 _] at hl
          exact ih_5 (k + 1) ((31 * x) + (((S.2.2.1 10) k).toInt64)) (by omega) (by omega) (by rw [itr_s, e5]; simp [b_digB, c_13_1, c_23_2]) _ _ _ hP hD hS (lv_sub hl [2, 3, 1, 0] rfl)
  exact L_5_0 (3 * mm + 1) 0 h (by omega) (by omega) (rfl) _ _ _ hP hD hS (lv_sub hl [2, 3, 1, 0] rfl)
