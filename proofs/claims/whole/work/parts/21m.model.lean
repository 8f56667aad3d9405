/-! THE MODEL'S READER -/
def tB (M : MS) (b : Nat) : Prop := ∃ a, a < b ∧ M.1 3 = nI a
theorem tB_le {M : MS} {a b : Nat} (h : tB M a) (hab : a ≤ b) : tB M b := by
  obtain ⟨x, h1, h2⟩ := h
  exact ⟨x, by omega, h2⟩
theorem tB_1 {M N : MS} {b : Nat} (h : tB M b) (e : N.1 3 = M.1 3 ∨ N.1 3 = M.1 3 + 1) : tB N (b + 1) := by
  obtain ⟨x, h1, h2⟩ := h
  rcases e with e | e
  · exact ⟨x, by omega, by rw [e, h2]⟩
  · exact ⟨x + 1, by omega, by rw [e, h2, nI_1]⟩
theorem nI_m1 {n : Nat} (h : n < 2 ^ 31) : ¬ nI n = -1 := by
  intro e
  have := nI_toInt h
  rw [e] at this
  have h2 : (-1 : Int32).toInt = -1 := by decide
  omega
def o_dig (M : MS) : Bool := m_in (o_look M).toInt64 48 57
def o_fail (M : MS) (x : Int32) : MS := o_setI M 4 (if M.1 4 = -1 then x else M.1 4)
def o_rnB (d fr : Int32) (_ : Nat) (M : MS) : MS := if M.1 4 = -1 ∧ o_dig M = true then (if M.1 3 - fr = d then o_fail M (M.1 3) else o_setI (o_setI M 5 (10 * M.1 5 + o_look M - 48)) 3 (M.1 3 + 1)) else M
def o_numL (M : MS) (dd : Nat) : MS := itr (o_rnB (nI dd) (M.1 3)) (dd + 1) (o_setI M 5 0)
def o_num2 (M U : MS) (lo hi : Int32) : MS := if U.1 4 = -1 then (if U.1 3 = M.1 3 then o_fail U (U.1 3) else if m_in (U.1 5).toInt64 lo.toInt64 hi.toInt64 = true then U else o_fail U (M.1 3)) else U
def o_num (M : MS) (dd : Nat) (lo hi : Int32) : MS := o_num2 M (o_numL M dd) lo hi

theorem c_X5_look9 (l : Launch) (D : va_G) (q : Nat → Nat) (cI cJ : ClassId) (M : MS) (le : Nat) (hle : M.1 1 = nI le) (hle1 : le ≤ 100) (hav : tB M 1000) : kI l yX5_look wsX5_look ({ frames := 0, cells := 0, slots := 0, locals := 0 } : Room) D [(cI, .int), (cJ, .long)] [.ref (q 0)] (moW q cI cJ M) (o_look M) (moW q cI cJ M) := by
  obtain ⟨a, h1, h2⟩ := hav
  exact c_X5_look l D q cI cJ M le hle hle1 a h2 h1

set_option maxHeartbeats 1000000 in
set_option maxRecDepth 100000 in
theorem c_X5_isDigit (l : Launch) (D : va_G) (q : Nat → Nat) (cI cJ : ClassId) (M : MS) (le : Nat) (hle : M.1 1 = nI le) (hle1 : le ≤ 100) (hav : tB M 1000) : kI l yX5_isDigit wsX5_isDigit ({ frames := 1, cells := 0, slots := 0, locals := 25 } : Room) D [(cI, .int), (cJ, .long)] [.ref (q 0)] (moW q cI cJ M) (bi (o_dig M)) (moW q cI cJ M) := by
  refine kBody.met (cc := cX5_isDigit) (maxL := 1) (ret := (some .boolean)) (by decide) rfl (Nat.le_of_ble_eq_true rfl) ?_
  intro p9 e9 s9 m9 below meth c9 A9 ls hx hb hr hml hts hown hlk hK hP hD hA hl
  have hown : s9.vm.findClass RX5 = some m9.cls := hown
  have inX5 : ∀ w ∈ wsX50, w ∈ wsX5_isDigit := fun w h => List.mem_cons_of_mem _ (List.mem_append_right _ (h))
  have hS : va_S A9 s9.heap s9.heap [] := va_S.rf
  have hl : lv_has ls 1 [(0, .ref (q 0))] := hl
  refine lv_aload_n hx hb dX5_isDigit_0 rfl (lv_at hl 0 rfl) ?_
  refine k_calli (a := []) (z := []) (wc := moW q cI cJ M) (wc' := moW q cI cJ M) (w' := moW q cI cJ M) (va_runV (As := []) (rest := []) ⟨hx, hb, hml, hown, hts⟩ (c_X5_look9 l D q cI cJ M le hle hle1 (hav) _) (cwV 0 hts gX5_isDigit_X5_look rfl rfl rfl (by decide +kernel) ⟨Nat.le_of_ble_eq_true rfl, Nat.le_of_ble_eq_true rfl⟩) ⟨kB_blind, va_recv hK hP (ci := 5) (q0 := 0) rfl rfl, k_pre (a := []) (z := []) (k_w0 _) hK hP hD⟩ rfl rfl hl.1 rfl (lv_room (Nat.le_of_ble_eq_true rfl)) dX5_isDigit_1 ⟨Nat.zero_le _, Nat.zero_le _⟩) (k_w0 _) (k_w0 _) (moW_ad _ _ _ _ _) hP hD hS hA (fun H locs hP hD hS => ?_)
  refine lv_i2l hx hb dX5_isDigit_4 rfl ?_
  refine lv_ldc2 (v := 48) hx hb hown (hts (.constantLong RX5 176 (48)) (List.mem_of_getElem? (i := 1) rfl)) dX5_isDigit_5 ?_
  refine lv_ldc2 (v := 57) hx hb hown (hts (.constantLong RX5 178 (57)) (List.mem_of_getElem? (i := 2) rfl)) dX5_isDigit_8 ?_
  refine k_calli (a := []) (z := moW q cI cJ M) (wc := []) (wc' := []) (w' := moW q cI cJ M) (va_runS (As := [.long ((o_look M).toInt64), .long 48, .long 57]) (rest := []) ⟨hx, hb, hml, hown, hts⟩ (c_X5_in l D cI cJ ((o_look M).toInt64) 48 57 _) (cwS 3 hts gX5_isDigit_X5_in rfl rfl rfl (by decide +kernel) ⟨Nat.le_of_ble_eq_true rfl, Nat.le_of_ble_eq_true rfl⟩) ⟨kB_blind, k_pre (a := []) (z := moW q cI cJ M) rfl hK hP hD⟩ rfl rfl hl.1 rfl (lv_room (Nat.le_of_ble_eq_true rfl)) dX5_isDigit_11 ⟨Nat.zero_le _, Nat.zero_le _⟩) rfl rfl rfl hP hD hS hA (fun H locs hP hD hS => ?_)
  exact k_iret hx hb hr hlk hP hS dX5_isDigit_14 (bi_nar _) rfl (fun h => h)

set_option maxHeartbeats 1000000 in
set_option maxRecDepth 100000 in
theorem c_X5_fails (l : Launch) (D : va_G) (q : Nat → Nat) (cI cJ : ClassId) (M : MS) (x : Int32)  : kV l yX5_fails wsX5_fails ({ frames := 0, cells := 0, slots := 0, locals := 0 } : Room) D [(cI, .int), (cJ, .long)] [.ref (q 0), .int x] (moW q cI cJ M) (moW q cI cJ (o_fail M x)) := by
  refine kBody.met (cc := cX5_fails) (maxL := 2) (ret := none) (by decide) rfl (Nat.le_of_ble_eq_true rfl) ?_
  intro p9 e9 s9 m9 below meth c9 A9 ls hx hb hr hml hts hown hlk hK hP hD hA hl
  have hown : s9.vm.findClass RX5 = some m9.cls := hown
  have inX5 : ∀ w ∈ wsX50, w ∈ wsX5_fails := fun w h => List.mem_cons_of_mem _ (List.mem_append_right _ (h))
  have hS : va_S A9 s9.heap s9.heap [] := va_S.rf
  have hl : lv_has ls 2 [(0, .ref (q 0)), (1, .int x)] := hl
  refine lv_aload_n hx hb dX5_fails_0 rfl (lv_at hl 0 rfl) ?_
  refine lv_aload_n hx hb dX5_fails_1 rfl (lv_at hl 0 rfl) ?_
  refine va_get (D := D) (ci := 5) (v := .int (M.1 4)) (C := RX5) (T := TX5) (N := 14) hx hb hts inX5 hown hK hP 0 rfl rfl 8 (by decide) (hts (.fieldLink RX5 180 "PumpOathsModel" "wrong" "I") (List.mem_of_getElem? (i := 1) rfl)) (fun _ h9 => h9) rfl dX5_fails_2 ?_
  refine lv_iconst (v := (-1)) hx hb dX5_fails_5 (by decide) ?_
  refine lv_icmp_ne (tgt := 13) hx hb dX5_fails_6 (by decide) (fun c_6_0 => ?_) (fun c_6_0 => ?_)
  · have c_6_0 : ¬ (M.1 4) = (-1) := c_6_0
    refine lv_aload_n hx hb dX5_fails_13 rfl (lv_at hl 0 rfl) ?_
    refine va_get (D := D) (ci := 5) (v := .int (M.1 4)) (C := RX5) (T := TX5) (N := 14) hx hb hts inX5 hown hK hP 0 rfl rfl 8 (by decide) (hts (.fieldLink RX5 180 "PumpOathsModel" "wrong" "I") (List.mem_of_getElem? (i := 1) rfl)) (fun _ h9 => h9) rfl dX5_fails_14 ?_
    refine va_put (D := D) (ci := 5) (v := .int (M.1 4)) (ty := .int) (C := RX5) (T := TX5) (N := 14) hx hb hts inX5 tyX5 tyX5_ok nmX5 hown hK hP hD hS 0 rfl rfl 8 (by decide) (hts (.fieldLink RX5 180 "PumpOathsModel" "wrong" "I") (List.mem_of_getElem? (i := 1) rfl)) (fun _ h9 => h9) rfl (by decide +kernel) rfl rfl (Nat.le_of_ble_eq_true rfl) dX5_fails_17 (fun H locs hP hD hS => ?_)
    have hP : va_P D vwCl (moW q cI cJ (o_setI M 4 (M.1 4))) H := hP
    have hD : va_D A9 (moW q cI cJ (o_setI M 4 (M.1 4))) := hD
    exact k_vret hx hb hr hlk hP hS dX5_fails_20 (k_P (congrArg (fun T9 => moW q cI cJ T9) (by rw [o_fail]; first | rw [if_pos c_6_0] | rw [if_neg c_6_0])))
  · have c_6_0 : (M.1 4) = (-1) := c_6_0
    refine lv_iload_n hx hb dX5_fails_9 rfl (lv_at hl 1 rfl) ?_
    refine lv_goto (tgt := 17) hx hb dX5_fails_10 (by decide) ?_
    refine va_put (D := D) (ci := 5) (v := .int x) (ty := .int) (C := RX5) (T := TX5) (N := 14) hx hb hts inX5 tyX5 tyX5_ok nmX5 hown hK hP hD hS 0 rfl rfl 8 (by decide) (hts (.fieldLink RX5 180 "PumpOathsModel" "wrong" "I") (List.mem_of_getElem? (i := 1) rfl)) (fun _ h9 => h9) rfl (by decide +kernel) rfl rfl (Nat.le_of_ble_eq_true rfl) dX5_fails_17 (fun H locs hP hD hS => ?_)
    have hP : va_P D vwCl (moW q cI cJ (o_setI M 4 x)) H := hP
    have hD : va_D A9 (moW q cI cJ (o_setI M 4 x)) := hD
    exact k_vret hx hb hr hlk hP hS dX5_fails_20 (k_P (congrArg (fun T9 => moW q cI cJ T9) (by rw [o_fail]; first | rw [if_pos c_6_0] | rw [if_neg c_6_0])))

def A_X5_sign_s0 (M : MS) (x : Int32) : MS := (if (M.1 4) = (-1) then (if (o_look M) = x then o_setI M 3 ((M.1 3) + 1) else (o_fail M (M.1 3))) else M)
set_option maxHeartbeats 1000000 in
set_option maxRecDepth 100000 in
theorem c_X5_sign (l : Launch) (D : va_G) (q : Nat → Nat) (cI cJ : ClassId) (M : MS) (x : Int32) (le : Nat) (hle : M.1 1 = nI le) (hle1 : le ≤ 100) (hav : tB M 999) : kV l yX5_sign wsX5_sign ({ frames := 1, cells := 0, slots := 0, locals := 21 } : Room) D [(cI, .int), (cJ, .long)] [.ref (q 0), .int x] (moW q cI cJ M) (moW q cI cJ (A_X5_sign_s0 M x)) := by
  refine kBody.met (cc := cX5_sign) (maxL := 2) (ret := none) (by decide) rfl (Nat.le_of_ble_eq_true rfl) ?_
  intro p9 e9 s9 m9 below meth c9 A9 ls hx hb hr hml hts hown hlk hK hP hD hA hl
  have hown : s9.vm.findClass RX5 = some m9.cls := hown
  have inX5 : ∀ w ∈ wsX50, w ∈ wsX5_sign := fun w h => List.mem_cons_of_mem _ (List.mem_append_right _ (h))
  have hS : va_S A9 s9.heap s9.heap [] := va_S.rf
  have hl : lv_has ls 2 [(0, .ref (q 0)), (1, .int x)] := hl
  refine lv_aload_n hx hb dX5_sign_0 rfl (lv_at hl 0 rfl) ?_
  refine va_get (D := D) (ci := 5) (v := .int (M.1 4)) (C := RX5) (T := TX5) (N := 14) hx hb hts inX5 hown hK hP 0 rfl rfl 8 (by decide) (hts (.fieldLink RX5 180 "PumpOathsModel" "wrong" "I") (List.mem_of_getElem? (i := 1) rfl)) (fun _ h9 => h9) rfl dX5_sign_1 ?_
  refine lv_iconst (v := (-1)) hx hb dX5_sign_4 (by decide) ?_
  refine lv_icmp_eq (tgt := 9) hx hb dX5_sign_5 (by decide) (fun c_5_0 => ?_) (fun c_5_0 => ?_)
  · have c_5_0 : (M.1 4) = (-1) := c_5_0
    refine lv_aload_n hx hb dX5_sign_9 rfl (lv_at hl 0 rfl) ?_
    refine k_calli (a := []) (z := []) (wc := moW q cI cJ M) (wc' := moW q cI cJ M) (w' := moW q cI cJ M) (va_runV (As := []) (rest := []) ⟨hx, hb, hml, hown, hts⟩ (c_X5_look9 l D q cI cJ M le hle hle1 (tB_le hav (by decide)) _) (cwV 0 hts gX5_sign_X5_look rfl rfl rfl (by decide +kernel) ⟨Nat.le_of_ble_eq_true rfl, Nat.le_of_ble_eq_true rfl⟩) ⟨kB_blind, va_recv hK hP (ci := 5) (q0 := 0) rfl rfl, k_pre (a := []) (z := []) (k_w0 _) hK hP hD⟩ rfl rfl hl.1 rfl (lv_room (Nat.le_of_ble_eq_true rfl)) dX5_sign_10 ⟨Nat.zero_le _, Nat.zero_le _⟩) (k_w0 _) (k_w0 _) (moW_ad _ _ _ _ _) hP hD hS hA (fun H locs hP hD hS => ?_)
    refine lv_iload_n hx hb dX5_sign_13 rfl (lv_at hl 1 rfl) ?_
    refine lv_icmp_ne (tgt := 30) hx hb dX5_sign_14 (by decide) (fun c_14_1 => ?_) (fun c_14_1 => ?_)
    · have c_14_1 : ¬ (o_look M) = x := c_14_1
      refine lv_aload_n hx hb dX5_sign_30 rfl (lv_at hl 0 rfl) ?_
      refine lv_aload_n hx hb dX5_sign_31 rfl (lv_at hl 0 rfl) ?_
      refine va_get (D := D) (ci := 5) (v := .int (M.1 3)) (C := RX5) (T := TX5) (N := 14) hx hb hts inX5 hown hK hP 0 rfl rfl 7 (by decide) (hts (.fieldLink RX5 170 "PumpOathsModel" "at" "I") (List.mem_of_getElem? (i := 2) rfl)) (fun _ h9 => h9) rfl dX5_sign_32 ?_
      refine k_callv (a := []) (z := []) (wc := moW q cI cJ M) (wc' := moW q cI cJ (o_fail M (M.1 3))) (w' := moW q cI cJ (o_fail M (M.1 3))) (va_runV (As := [.int (M.1 3)]) (rest := []) ⟨hx, hb, hml, hown, hts⟩ (c_X5_fails l D q cI cJ M (M.1 3) _) (cwV 1 hts gX5_sign_X5_fails rfl rfl rfl (by decide +kernel) ⟨Nat.le_of_ble_eq_true rfl, Nat.le_of_ble_eq_true rfl⟩) ⟨kB_blind, va_recv hK hP (ci := 5) (q0 := 0) rfl rfl, k_pre (a := []) (z := []) (k_w0 _) hK hP hD⟩ rfl rfl hl.1 rfl (lv_room (Nat.le_of_ble_eq_true rfl)) dX5_sign_35 ⟨Nat.zero_le _, Nat.zero_le _⟩) (k_w0 _) (k_w0 _) (moW_ad _ _ _ _ _) hP hD hS hA (fun H locs hP hD hS => ?_)
      obtain ⟨T_3, hT_3⟩ : ∃ T9, T9 = o_fail M (M.1 3) := ⟨_, rfl⟩
      rw [← hT_3] at hP hD
      exact k_vret hx hb hr hlk hP hS dX5_sign_38 (k_P (congrArg (fun T9 => moW q cI cJ T9) (show T_3 = (A_X5_sign_s0 M x) from by rw [hT_3, A_X5_sign_s0, if_pos c_5_0, if_neg c_14_1])))
    · have c_14_1 : (o_look M) = x := c_14_1
      refine lv_aload_n hx hb dX5_sign_17 rfl (lv_at hl 0 rfl) ?_
      refine lv_dup hx hb dX5_sign_18 rfl ?_
      refine va_get (D := D) (ci := 5) (v := .int (M.1 3)) (C := RX5) (T := TX5) (N := 14) hx hb hts inX5 hown hK hP 0 rfl rfl 7 (by decide) (hts (.fieldLink RX5 170 "PumpOathsModel" "at" "I") (List.mem_of_getElem? (i := 2) rfl)) (fun _ h9 => h9) rfl dX5_sign_19 ?_
      refine lv_iconst (v := 1) hx hb dX5_sign_22 (by decide) ?_
      refine lv_iadd hx hb dX5_sign_23 ?_
      refine va_put (D := D) (ci := 5) (v := .int ((M.1 3) + 1)) (ty := .int) (C := RX5) (T := TX5) (N := 14) hx hb hts inX5 tyX5 tyX5_ok nmX5 hown hK hP hD hS 0 rfl rfl 7 (by decide) (hts (.fieldLink RX5 170 "PumpOathsModel" "at" "I") (List.mem_of_getElem? (i := 2) rfl)) (fun _ h9 => h9) rfl (by decide +kernel) rfl rfl (Nat.le_of_ble_eq_true rfl) dX5_sign_24 (fun H locs hP hD hS => ?_)
      have hP : va_P D vwCl (moW q cI cJ (o_setI M 3 ((M.1 3) + 1))) H := hP
      have hD : va_D A9 (moW q cI cJ (o_setI M 3 ((M.1 3) + 1))) := hD
      refine lv_goto (tgt := 38) hx hb dX5_sign_27 (by decide) ?_
      exact k_vret hx hb hr hlk hP hS dX5_sign_38 (k_P (congrArg (fun T9 => moW q cI cJ T9) (show (o_setI M 3 ((M.1 3) + 1)) = (A_X5_sign_s0 M x) from by rw [A_X5_sign_s0, if_pos c_5_0, if_pos c_14_1])))
  · have c_5_0 : ¬ (M.1 4) = (-1) := c_5_0
    exact k_vret hx hb hr hlk hP hS dX5_sign_8 (k_P (congrArg (fun T9 => moW q cI cJ T9) (show M = (A_X5_sign_s0 M x) from by rw [A_X5_sign_s0, if_neg c_5_0])))

def A_X5_digit_s0 (M : MS) (x : Int32) : MS := (if (M.1 4) = (-1) then (if (o_dig M) = true then (if x < ((o_look M) - 48) then (o_fail (o_setI M 5 0) (M.1 3)) else o_setI (o_setI M 5 ((o_look M) - 48)) 3 ((M.1 3) + 1)) else (o_fail (o_setI M 5 0) (M.1 3))) else (o_fail (o_setI M 5 0) (M.1 3)))
set_option maxHeartbeats 1000000 in
set_option maxRecDepth 100000 in
theorem c_X5_digit (l : Launch) (D : va_G) (q : Nat → Nat) (cI cJ : ClassId) (M : MS) (x : Int32) (le : Nat) (hle : M.1 1 = nI le) (hle1 : le ≤ 100) (hav : tB M 999) : kV l yX5_digit wsX5_digit ({ frames := 2, cells := 0, slots := 0, locals := 45 } : Room) D [(cI, .int), (cJ, .long)] [.ref (q 0), .int x] (moW q cI cJ M) (moW q cI cJ (A_X5_digit_s0 M x)) := by
  refine kBody.met (cc := cX5_digit) (maxL := 2) (ret := none) (by decide) rfl (Nat.le_of_ble_eq_true rfl) ?_
  intro p9 e9 s9 m9 below meth c9 A9 ls hx hb hr hml hts hown hlk hK hP hD hA hl
  have hown : s9.vm.findClass RX5 = some m9.cls := hown
  have inX5 : ∀ w ∈ wsX50, w ∈ wsX5_digit := fun w h => List.mem_cons_of_mem _ (List.mem_append_right _ (h))
  have hS : va_S A9 s9.heap s9.heap [] := va_S.rf
  have hl : lv_has ls 2 [(0, .ref (q 0)), (1, .int x)] := hl
  refine lv_aload_n hx hb dX5_digit_0 rfl (lv_at hl 0 rfl) ?_
  refine lv_iconst (v := 0) hx hb dX5_digit_1 (by decide) ?_
  refine va_put (D := D) (ci := 5) (v := .int 0) (ty := .int) (C := RX5) (T := TX5) (N := 14) hx hb hts inX5 tyX5 tyX5_ok nmX5 hown hK hP hD hS 0 rfl rfl 9 (by decide) (hts (.fieldLink RX5 186 "PumpOathsModel" "number" "I") (List.mem_of_getElem? (i := 1) rfl)) (fun _ h9 => h9) rfl (by decide +kernel) rfl rfl (Nat.le_of_ble_eq_true rfl) dX5_digit_2 (fun H locs hP hD hS => ?_)
  have hP : va_P D vwCl (moW q cI cJ (o_setI M 5 0)) H := hP
  have hD : va_D A9 (moW q cI cJ (o_setI M 5 0)) := hD
  refine lv_aload_n hx hb dX5_digit_5 rfl (lv_at hl 0 rfl) ?_
  refine va_get (D := D) (ci := 5) (v := .int (M.1 4)) (C := RX5) (T := TX5) (N := 14) hx hb hts inX5 hown hK hP 0 rfl rfl 8 (by decide) (hts (.fieldLink RX5 180 "PumpOathsModel" "wrong" "I") (List.mem_of_getElem? (i := 2) rfl)) (fun _ h9 => h9) rfl dX5_digit_6 ?_
  refine lv_iconst (v := (-1)) hx hb dX5_digit_9 (by decide) ?_
  refine lv_icmp_ne (tgt := 55) hx hb dX5_digit_10 (by decide) (fun c_10_0 => ?_) (fun c_10_0 => ?_)
  · have c_10_0 : ¬ (M.1 4) = (-1) := c_10_0
    refine lv_aload_n hx hb dX5_digit_55 rfl (lv_at hl 0 rfl) ?_
    refine lv_aload_n hx hb dX5_digit_56 rfl (lv_at hl 0 rfl) ?_
    refine va_get (D := D) (ci := 5) (v := .int (M.1 3)) (C := RX5) (T := TX5) (N := 14) hx hb hts inX5 hown hK hP 0 rfl rfl 7 (by decide) (hts (.fieldLink RX5 170 "PumpOathsModel" "at" "I") (List.mem_of_getElem? (i := 3) rfl)) (fun _ h9 => h9) rfl dX5_digit_57 ?_
    refine k_callv (a := []) (z := []) (wc := moW q cI cJ (o_setI M 5 0)) (wc' := moW q cI cJ (o_fail (o_setI M 5 0) (M.1 3))) (w' := moW q cI cJ (o_fail (o_setI M 5 0) (M.1 3))) (va_runV (As := [.int (M.1 3)]) (rest := []) ⟨hx, hb, hml, hown, hts⟩ (c_X5_fails l D q cI cJ (o_setI M 5 0) (M.1 3) _) (cwV 1 hts gX5_digit_X5_fails rfl rfl rfl (by decide +kernel) ⟨Nat.le_of_ble_eq_true rfl, Nat.le_of_ble_eq_true rfl⟩) ⟨kB_blind, va_recv hK hP (ci := 5) (q0 := 0) rfl rfl, k_pre (a := []) (z := []) (k_w0 _) hK hP hD⟩ rfl rfl hl.1 rfl (lv_room (Nat.le_of_ble_eq_true rfl)) dX5_digit_60 ⟨Nat.zero_le _, Nat.zero_le _⟩) (k_w0 _) (k_w0 _) (moW_ad _ _ _ _ _) hP hD hS hA (fun H locs hP hD hS => ?_)
    obtain ⟨T_2, hT_2⟩ : ∃ T9, T9 = o_fail (o_setI M 5 0) (M.1 3) := ⟨_, rfl⟩
    rw [← hT_2] at hP hD
    exact k_vret hx hb hr hlk hP hS dX5_digit_63 (k_P (congrArg (fun T9 => moW q cI cJ T9) (show T_2 = (A_X5_digit_s0 M x) from by rw [hT_2, A_X5_digit_s0, if_neg c_10_0])))
  · have c_10_0 : (M.1 4) = (-1) := c_10_0
    refine lv_aload_n hx hb dX5_digit_13 rfl (lv_at hl 0 rfl) ?_
    refine k_calli (a := []) (z := []) (wc := moW q cI cJ (o_setI M 5 0)) (wc' := moW q cI cJ (o_setI M 5 0)) (w' := moW q cI cJ (o_setI M 5 0)) (va_runV (As := []) (rest := []) ⟨hx, hb, hml, hown, hts⟩ (c_X5_isDigit l D q cI cJ (o_setI M 5 0) le hle hle1 (tB_le hav (by decide)) _) (cwV 0 hts gX5_digit_X5_isDigit rfl rfl rfl (by decide +kernel) ⟨Nat.le_of_ble_eq_true rfl, Nat.le_of_ble_eq_true rfl⟩) ⟨kB_blind, va_recv hK hP (ci := 5) (q0 := 0) rfl rfl, k_pre (a := []) (z := []) (k_w0 _) hK hP hD⟩ rfl rfl hl.1 rfl (lv_room (Nat.le_of_ble_eq_true rfl)) dX5_digit_14 ⟨Nat.zero_le _, Nat.zero_le _⟩) (k_w0 _) (k_w0 _) (moW_ad _ _ _ _ _) hP hD hS hA (fun H locs hP hD hS => ?_)
    rw [show bi (o_dig (o_setI M 5 0)) = bi (o_dig M) from rfl]
    refine lv_if_eq (tgt := 55) hx hb dX5_digit_17 (by decide) (fun c_17_2 => ?_) (fun c_17_2 => ?_)
    · have c_17_2 : (o_dig M) = false := bi_0.mp c_17_2
      refine lv_aload_n hx hb dX5_digit_55 rfl (lv_at hl 0 rfl) ?_
      refine lv_aload_n hx hb dX5_digit_56 rfl (lv_at hl 0 rfl) ?_
      refine va_get (D := D) (ci := 5) (v := .int (M.1 3)) (C := RX5) (T := TX5) (N := 14) hx hb hts inX5 hown hK hP 0 rfl rfl 7 (by decide) (hts (.fieldLink RX5 170 "PumpOathsModel" "at" "I") (List.mem_of_getElem? (i := 3) rfl)) (fun _ h9 => h9) rfl dX5_digit_57 ?_
      refine k_callv (a := []) (z := []) (wc := moW q cI cJ (o_setI M 5 0)) (wc' := moW q cI cJ (o_fail (o_setI M 5 0) (M.1 3))) (w' := moW q cI cJ (o_fail (o_setI M 5 0) (M.1 3))) (va_runV (As := [.int (M.1 3)]) (rest := []) ⟨hx, hb, hml, hown, hts⟩ (c_X5_fails l D q cI cJ (o_setI M 5 0) (M.1 3) _) (cwV 1 hts gX5_digit_X5_fails rfl rfl rfl (by decide +kernel) ⟨Nat.le_of_ble_eq_true rfl, Nat.le_of_ble_eq_true rfl⟩) ⟨kB_blind, va_recv hK hP (ci := 5) (q0 := 0) rfl rfl, k_pre (a := []) (z := []) (k_w0 _) hK hP hD⟩ rfl rfl hl.1 rfl (lv_room (Nat.le_of_ble_eq_true rfl)) dX5_digit_60 ⟨Nat.zero_le _, Nat.zero_le _⟩) (k_w0 _) (k_w0 _) (moW_ad _ _ _ _ _) hP hD hS hA (fun H locs hP hD hS => ?_)
      obtain ⟨T_4, hT_4⟩ : ∃ T9, T9 = o_fail (o_setI M 5 0) (M.1 3) := ⟨_, rfl⟩
      rw [← hT_4] at hP hD
      exact k_vret hx hb hr hlk hP hS dX5_digit_63 (k_P (congrArg (fun T9 => moW q cI cJ T9) (show T_4 = (A_X5_digit_s0 M x) from by rw [hT_4, A_X5_digit_s0, if_pos c_10_0, if_neg (bi_nt c_17_2)])))
    · have c_17_2 : (o_dig M) = true := bi_n.mp c_17_2
      refine lv_aload_n hx hb dX5_digit_20 rfl (lv_at hl 0 rfl) ?_
      refine k_calli (a := []) (z := []) (wc := moW q cI cJ (o_setI M 5 0)) (wc' := moW q cI cJ (o_setI M 5 0)) (w' := moW q cI cJ (o_setI M 5 0)) (va_runV (As := []) (rest := []) ⟨hx, hb, hml, hown, hts⟩ (c_X5_look9 l D q cI cJ (o_setI M 5 0) le hle hle1 (tB_le hav (by decide)) _) (cwV 0 hts gX5_digit_X5_look rfl rfl rfl (by decide +kernel) ⟨Nat.le_of_ble_eq_true rfl, Nat.le_of_ble_eq_true rfl⟩) ⟨kB_blind, va_recv hK hP (ci := 5) (q0 := 0) rfl rfl, k_pre (a := []) (z := []) (k_w0 _) hK hP hD⟩ rfl rfl hl.1 rfl (lv_room (Nat.le_of_ble_eq_true rfl)) dX5_digit_21 ⟨Nat.zero_le _, Nat.zero_le _⟩) (k_w0 _) (k_w0 _) (moW_ad _ _ _ _ _) hP hD hS hA (fun H locs hP hD hS => ?_)
      rw [show o_look (o_setI M 5 0) = o_look M from rfl]
      refine lv_bipush (v := 48) hx hb dX5_digit_24 (by decide) ?_
      refine lv_isub hx hb dX5_digit_26 ?_
      refine lv_iload_n hx hb dX5_digit_27 rfl (lv_at hl 1 rfl) ?_
      refine lv_icmp_gt (tgt := 55) hx hb dX5_digit_28 (by decide) (fun c_28_4 => ?_) (fun c_28_4 => ?_)
      · have c_28_4 : x < ((o_look M) - 48) := c_28_4
        refine lv_aload_n hx hb dX5_digit_55 rfl (lv_at hl 0 rfl) ?_
        refine lv_aload_n hx hb dX5_digit_56 rfl (lv_at hl 0 rfl) ?_
        refine va_get (D := D) (ci := 5) (v := .int (M.1 3)) (C := RX5) (T := TX5) (N := 14) hx hb hts inX5 hown hK hP 0 rfl rfl 7 (by decide) (hts (.fieldLink RX5 170 "PumpOathsModel" "at" "I") (List.mem_of_getElem? (i := 3) rfl)) (fun _ h9 => h9) rfl dX5_digit_57 ?_
        refine k_callv (a := []) (z := []) (wc := moW q cI cJ (o_setI M 5 0)) (wc' := moW q cI cJ (o_fail (o_setI M 5 0) (M.1 3))) (w' := moW q cI cJ (o_fail (o_setI M 5 0) (M.1 3))) (va_runV (As := [.int (M.1 3)]) (rest := []) ⟨hx, hb, hml, hown, hts⟩ (c_X5_fails l D q cI cJ (o_setI M 5 0) (M.1 3) _) (cwV 1 hts gX5_digit_X5_fails rfl rfl rfl (by decide +kernel) ⟨Nat.le_of_ble_eq_true rfl, Nat.le_of_ble_eq_true rfl⟩) ⟨kB_blind, va_recv hK hP (ci := 5) (q0 := 0) rfl rfl, k_pre (a := []) (z := []) (k_w0 _) hK hP hD⟩ rfl rfl hl.1 rfl (lv_room (Nat.le_of_ble_eq_true rfl)) dX5_digit_60 ⟨Nat.zero_le _, Nat.zero_le _⟩) (k_w0 _) (k_w0 _) (moW_ad _ _ _ _ _) hP hD hS hA (fun H locs hP hD hS => ?_)
        obtain ⟨T_6, hT_6⟩ : ∃ T9, T9 = o_fail (o_setI M 5 0) (M.1 3) := ⟨_, rfl⟩
        rw [← hT_6] at hP hD
        exact k_vret hx hb hr hlk hP hS dX5_digit_63 (k_P (congrArg (fun T9 => moW q cI cJ T9) (show T_6 = (A_X5_digit_s0 M x) from by rw [hT_6, A_X5_digit_s0, if_pos c_10_0, if_pos c_17_2, if_pos c_28_4])))
      · have c_28_4 : ¬ x < ((o_look M) - 48) := c_28_4
        refine lv_aload_n hx hb dX5_digit_31 rfl (lv_at hl 0 rfl) ?_
        refine lv_aload_n hx hb dX5_digit_32 rfl (lv_at hl 0 rfl) ?_
        refine k_calli (a := []) (z := []) (wc := moW q cI cJ (o_setI M 5 0)) (wc' := moW q cI cJ (o_setI M 5 0)) (w' := moW q cI cJ (o_setI M 5 0)) (va_runV (As := []) (rest := [.ref (q 0)]) ⟨hx, hb, hml, hown, hts⟩ (c_X5_look9 l D q cI cJ (o_setI M 5 0) le hle hle1 (tB_le hav (by decide)) _) (cwV 0 hts gX5_digit_X5_look rfl rfl rfl (by decide +kernel) ⟨Nat.le_of_ble_eq_true rfl, Nat.le_of_ble_eq_true rfl⟩) ⟨kB_blind, va_recv hK hP (ci := 5) (q0 := 0) rfl rfl, k_pre (a := []) (z := []) (k_w0 _) hK hP hD⟩ rfl rfl hl.1 rfl (lv_room (Nat.le_of_ble_eq_true rfl)) dX5_digit_33 ⟨Nat.zero_le _, Nat.zero_le _⟩) (k_w0 _) (k_w0 _) (moW_ad _ _ _ _ _) hP hD hS hA (fun H locs hP hD hS => ?_)
        rw [show o_look (o_setI M 5 0) = o_look M from rfl]
        refine lv_bipush (v := 48) hx hb dX5_digit_36 (by decide) ?_
        refine lv_isub hx hb dX5_digit_38 ?_
        refine va_put (D := D) (ci := 5) (v := .int ((o_look M) - 48)) (ty := .int) (C := RX5) (T := TX5) (N := 14) hx hb hts inX5 tyX5 tyX5_ok nmX5 hown hK hP hD hS 0 rfl rfl 9 (by decide) (hts (.fieldLink RX5 186 "PumpOathsModel" "number" "I") (List.mem_of_getElem? (i := 1) rfl)) (fun _ h9 => h9) rfl (by decide +kernel) rfl rfl (Nat.le_of_ble_eq_true rfl) dX5_digit_39 (fun H locs hP hD hS => ?_)
        have hP : va_P D vwCl (moW q cI cJ (o_setI M 5 ((o_look M) - 48))) H := hP
        have hD : va_D A9 (moW q cI cJ (o_setI M 5 ((o_look M) - 48))) := hD
        refine lv_aload_n hx hb dX5_digit_42 rfl (lv_at hl 0 rfl) ?_
        refine lv_dup hx hb dX5_digit_43 rfl ?_
        refine va_get (D := D) (ci := 5) (v := .int (M.1 3)) (C := RX5) (T := TX5) (N := 14) hx hb hts inX5 hown hK hP 0 rfl rfl 7 (by decide) (hts (.fieldLink RX5 170 "PumpOathsModel" "at" "I") (List.mem_of_getElem? (i := 3) rfl)) (fun _ h9 => h9) rfl dX5_digit_44 ?_
        refine lv_iconst (v := 1) hx hb dX5_digit_47 (by decide) ?_
        refine lv_iadd hx hb dX5_digit_48 ?_
        refine va_put (D := D) (ci := 5) (v := .int ((M.1 3) + 1)) (ty := .int) (C := RX5) (T := TX5) (N := 14) hx hb hts inX5 tyX5 tyX5_ok nmX5 hown hK hP hD hS 0 rfl rfl 7 (by decide) (hts (.fieldLink RX5 170 "PumpOathsModel" "at" "I") (List.mem_of_getElem? (i := 3) rfl)) (fun _ h9 => h9) rfl (by decide +kernel) rfl rfl (Nat.le_of_ble_eq_true rfl) dX5_digit_49 (fun H locs hP hD hS => ?_)
        have hP : va_P D vwCl (moW q cI cJ (o_setI (o_setI M 5 ((o_look M) - 48)) 3 ((M.1 3) + 1))) H := hP
        have hD : va_D A9 (moW q cI cJ (o_setI (o_setI M 5 ((o_look M) - 48)) 3 ((M.1 3) + 1))) := hD
        refine lv_goto (tgt := 63) hx hb dX5_digit_52 (by decide) ?_
        exact k_vret hx hb hr hlk hP hS dX5_digit_63 (k_P (congrArg (fun T9 => moW q cI cJ T9) (show (o_setI (o_setI M 5 ((o_look M) - 48)) 3 ((M.1 3) + 1)) = (A_X5_digit_s0 M x) from by rw [A_X5_digit_s0, if_pos c_10_0, if_pos c_17_2, if_neg c_28_4])))
