/-! THE TEXT: numbers 0 length 1 orders 2 at 3 error; rows 0 bytes 1 parts -/
abbrev TS : Type := (Nat → Int32) × (Nat → Nat → Int32)
def t_setI (T : TS) (k : Nat) (v : Int32) : TS := (upd T.1 k v, T.2)
def t_setA (T : TS) (j : Nat) (f : Nat → Int32) : TS := (T.1, fun i => if i = j then f else T.2 i)
abbrev txW (q : Nat → Nat) (cI : ClassId) (T : TS) : va_W :=
  [(q 0, .inr (1, [.ref (q 1), .ref (q 2), .int (T.1 0), .int (T.1 1), .int (T.1 2), .int (T.1 3)])), (q 1, .inl (cI, 100, .inl (T.2 0))), (q 2, .inl (cI, 102, .inl (T.2 1)))]
theorem txW_ad (q : Nat → Nat) (cI : ClassId) (S T : TS) : (txW q cI S).map Prod.fst = (txW q cI T).map Prod.fst := rfl
def t_peek (T : TS) : Int32 := if ¬ T.1 2 < 0 ∧ ¬ T.1 0 ≤ T.1 2 ∧ ¬ 100 ≤ T.1 2 then T.2 0 (T.1 2).toNatClampNeg else -1
def t_dig (T : TS) : Bool := decide (¬ t_peek T < 48 ∧ ¬ 57 < t_peek T)
def t_fail (T : TS) (w : Int32) : TS := if T.1 3 = -1 then t_setI T 3 w else T
def t_exp1 (T : TS) (c : Int32) : TS := if t_peek T = c then T else t_fail T (T.1 2)
def t_exp (T : TS) (c : Int32) : TS := t_setI (t_exp1 T c) 2 ((t_exp1 T c).1 2 + 1)
def t_pump1 (T : TS) : TS := if ¬ t_peek T - 48 < 0 ∧ t_peek T - 48 < 6 then T else t_fail T (T.1 2)
def t_pump (T : TS) : TS := t_setI (t_pump1 T) 2 ((t_pump1 T).1 2 + 1)
def t_dgt1 (T : TS) : TS := if t_dig T = true then T else t_fail T (T.1 2)
def t_dgtR (T : TS) : Int32 := t_peek (t_dgt1 T) - 48
def t_dgt (T : TS) : TS := t_setI (t_dgt1 T) 2 ((t_dgt1 T).1 2 + 1)
def t_hourR (T : TS) : Int32 := 10 * t_dgtR T + t_dgtR (t_dgt T)
def t_hour (T : TS) : TS := if t_hourR T < 24 then t_dgt (t_dgt T) else t_fail (t_dgt (t_dgt T)) (T.1 2)
def t_numB (k : Nat) (g : TS × Int32) : TS × Int32 := if t_dig g.1 = true then (t_setI g.1 2 (g.1.1 2 + 1), 10 * g.2 + t_peek g.1 - 48) else g
def t_numL (T : TS) (d : Nat) : TS × Int32 := itr t_numB d (T, 0)
def t_numR (T : TS) (d : Nat) : Int32 := (t_numL T d).2
def t_num2 (T T1 : TS) : TS := if T1.1 2 = T.1 2 ∨ t_dig T1 = true then t_fail T1 (T1.1 2) else T1
def t_num3 (T T2 : TS) (x lo hi : Int32) : TS := if x < lo ∨ ¬ x ≤ hi then t_fail T2 (T.1 2) else T2
def t_num (T : TS) (d : Nat) (lo hi : Int32) : TS := t_num3 T (t_num2 T (t_numL T d).1) (t_numR T d) lo hi
theorem itr_stop {σ : Type} {f : Nat → σ → σ} {s t : σ} {k : Nat} (h : itr f k s = t) (hf : ∀ j, f j t = t) : ∀ n, k ≤ n → itr f n s = t := by
  intro n
  induction n with
  | zero => intro hk; have : k = 0 := by omega
            subst this; exact h
  | succ n ih =>
    intro hk
    rcases Nat.lt_or_ge n k with q | q
    · have : k = n + 1 := by omega
      subst this; exact h
    · rw [itr_s, ih q, hf]
def t_keep (T : TS) (o : Nat) (a b c : Int32) : TS := t_setA T 1 (upd (upd (upd (T.2 1) (3 * o) a) (3 * o + 1) b) (3 * o + 2) c)
theorem k_t3 (o c : Nat) : nI o * 3 + nI c = nI (3 * o + c) := by rw [show (3 : Int32) = nI 3 from rfl, pk_mul, nI_add, Nat.mul_comm]
theorem k_t30 (o : Nat) : nI o * 3 = nI (3 * o) := by rw [show (3 : Int32) = nI 3 from rfl, pk_mul, Nat.mul_comm]
def t_at1 (T : TS) : TS := t_setI T 2 (T.1 2 + 1)
/-- what an order's letter reads: subject, number, the text behind it -/
def t_body (T : TS) (l : Int32) : Int32 × Int32 × TS :=
  if l = 100 then (t_hourR T, t_numR (t_exp (t_hour T) 61) 4, t_num (t_exp (t_hour T) 61) 4 0 1000)
  else if l = 109 then (-1, t_numR T 3, t_num T 3 1 720)
  else if l = 111 then (t_peek T - 48, t_numR (t_exp (t_pump T) 61) 2, t_num (t_exp (t_pump T) 61) 2 1 12)
  else if l = 120 then (t_peek T - 48, -1, t_pump T)
  else if l = 121 then (t_peek T - 48, -1, t_pump T)
  else (-1, -1, t_fail T (T.1 2 - 1))
def t_order (T : TS) (o : Nat) : TS := t_keep (t_exp (t_body (t_at1 T) (t_peek T)).2.2 59) o (t_peek T) (t_body (t_at1 T) (t_peek T)).1 (t_body (t_at1 T) (t_peek T)).2.1
def t_ordB (k : Nat) (T : TS) : TS := if ¬ T.1 0 ≤ T.1 2 ∧ T.1 3 = -1 then t_setI (t_order T k) 1 ((t_order T k).1 1 + 1) else T
def t_ord0 (T : TS) : TS := t_setI (t_setI (t_setI T 2 0) 3 (-1)) 1 0
def t_read (T : TS) : TS := itr t_ordB 34 (t_ord0 T)
def t_add (T : TS) (v : Int32) : TS := if ¬ T.1 0 < 0 ∧ ¬ 100 ≤ T.1 0 then t_setI (t_setA T 0 (upd (T.2 0) (T.1 0).toNatClampNeg v)) 0 (T.1 0 + 1) else T
def t_part (T : TS) (a b : Int32) : Int32 := if ¬ a * 3 + b < 0 ∧ ¬ 102 ≤ a * 3 + b then T.2 1 (a * 3 + b).toNatClampNeg else 0
theorem k_look5 {x : Int32} {d : Int} {o1 o2 o3 o4 o5 : Int} (h1 : ¬ x = 100) (h2 : ¬ x = 109) (h3 : ¬ x = 111) (h4 : ¬ x = 120) (h5 : ¬ x = 121) : Op.lookupswitch.offset [(100, o1), (109, o2), (111, o3), (120, o4), (121, o5)] d x.toInt = d := by
  have a1 := k_ne h1 (n := 100) rfl
  have a2 := k_ne h2 (n := 109) rfl
  have a3 := k_ne h3 (n := 111) rfl
  have a4 := k_ne h4 (n := 120) rfl
  have a5 := k_ne h5 (n := 121) rfl
  simp [Op.lookupswitch.offset, a1, a2, a3, a4, a5, Ne.symm a1, Ne.symm a2, Ne.symm a3, Ne.symm a4, Ne.symm a5]

set_option maxHeartbeats 1000000 in
set_option maxRecDepth 100000 in
theorem c_X1_peek (l : Launch) (D : va_G) (q : Nat → Nat) (cI cJ : ClassId) (T : TS)  : kI l yX1_peek wsX1_peek ({ frames := 0, cells := 0, slots := 0, locals := 0 } : Room) D [(cI, .int), (cJ, .long)] [.ref (q 0)] (txW q cI T) (t_peek T) (txW q cI T) := by
  refine kBody.met (cc := cX1_peek) (maxL := 1) (ret := (some .int)) (by decide) rfl (Nat.le_of_ble_eq_true rfl) ?_
  intro p9 e9 s9 m9 below meth c9 A9 ls hx hb hr hml hts hown hlk hK hP hD hA hl
  have hown : s9.vm.findClass RX1 = some m9.cls := hown
  have inX1 : ∀ w ∈ wsX10, w ∈ wsX1_peek := fun w h => List.mem_cons_of_mem _ (List.mem_append_right _ (h))
  have hS : va_S A9 s9.heap s9.heap [] := va_S.rf
  have hl : lv_has ls 1 [(0, .ref (q 0))] := hl
  refine lv_aload_n hx hb dX1_peek_0 rfl (lv_at hl 0 rfl) ?_
  refine va_get (D := D) (ci := 1) (v := .int (T.1 2)) (C := RX1) (T := TX1) (N := 6) hx hb hts inX1 hown hK hP 0 rfl rfl 4 (by decide) (hts (.fieldLink RX1 22 "PumpOaths$OrderText" "at" "I") (List.mem_of_getElem? (i := 1) rfl)) (fun _ h9 => h9) rfl dX1_peek_1 ?_
  refine lv_if_lt (tgt := 42) hx hb dX1_peek_4 (by decide) (fun c_4_0 => ?_) (fun c_4_0 => ?_)
  · have c_4_0 : (T.1 2) < 0 := c_4_0
    refine lv_iconst (v := (-1)) hx hb dX1_peek_42 (by decide) ?_
    exact k_iret hx hb hr hlk hP hS dX1_peek_43 rfl (by simp [t_peek, c_4_0]) (fun h => h)
  · have c_4_0 : ¬ (T.1 2) < 0 := c_4_0
    refine lv_aload_n hx hb dX1_peek_7 rfl (lv_at hl 0 rfl) ?_
    refine va_get (D := D) (ci := 1) (v := .int (T.1 2)) (C := RX1) (T := TX1) (N := 6) hx hb hts inX1 hown hK hP 0 rfl rfl 4 (by decide) (hts (.fieldLink RX1 22 "PumpOaths$OrderText" "at" "I") (List.mem_of_getElem? (i := 1) rfl)) (fun _ h9 => h9) rfl dX1_peek_8 ?_
    refine lv_aload_n hx hb dX1_peek_11 rfl (lv_at hl 0 rfl) ?_
    refine va_get (D := D) (ci := 1) (v := .int (T.1 0)) (C := RX1) (T := TX1) (N := 6) hx hb hts inX1 hown hK hP 0 rfl rfl 2 (by decide) (hts (.fieldLink RX1 18 "PumpOaths$OrderText" "length" "I") (List.mem_of_getElem? (i := 2) rfl)) (fun _ h9 => h9) rfl dX1_peek_12 ?_
    refine lv_icmp_ge (tgt := 42) hx hb dX1_peek_15 (by decide) (fun c_15_1 => ?_) (fun c_15_1 => ?_)
    · have c_15_1 : (T.1 0) ≤ (T.1 2) := c_15_1
      refine lv_iconst (v := (-1)) hx hb dX1_peek_42 (by decide) ?_
      exact k_iret hx hb hr hlk hP hS dX1_peek_43 rfl (by simp [t_peek, c_4_0, c_15_1]) (fun h => h)
    · have c_15_1 : ¬ (T.1 0) ≤ (T.1 2) := c_15_1
      refine lv_aload_n hx hb dX1_peek_18 rfl (lv_at hl 0 rfl) ?_
      refine va_get (D := D) (ci := 1) (v := .int (T.1 2)) (C := RX1) (T := TX1) (N := 6) hx hb hts inX1 hown hK hP 0 rfl rfl 4 (by decide) (hts (.fieldLink RX1 22 "PumpOaths$OrderText" "at" "I") (List.mem_of_getElem? (i := 1) rfl)) (fun _ h9 => h9) rfl dX1_peek_19 ?_
      refine lv_aload_n hx hb dX1_peek_22 rfl (lv_at hl 0 rfl) ?_
      refine va_get (D := D) (ci := 1) (v := .ref (q 1)) (C := RX1) (T := TX1) (N := 6) hx hb hts inX1 hown hK hP 0 rfl rfl 0 (by decide) (hts (.fieldLink RX1 11 "PumpOaths$OrderText" "bytes" "[I") (List.mem_of_getElem? (i := 3) rfl)) (fun _ h9 => h9) rfl dX1_peek_23 ?_
      refine va_alen hx hb hK hP 1 0 rfl rfl (v := 100) rfl dX1_peek_26 ?_
      refine lv_icmp_ge (tgt := 42) hx hb dX1_peek_27 (by decide) (fun c_27_2 => ?_) (fun c_27_2 => ?_)
      · have c_27_2 : 100 ≤ (T.1 2) := c_27_2
        refine lv_iconst (v := (-1)) hx hb dX1_peek_42 (by decide) ?_
        exact k_iret hx hb hr hlk hP hS dX1_peek_43 rfl (by simp [t_peek, c_4_0, c_15_1, c_27_2]) (fun h => h)
      · have c_27_2 : ¬ 100 ≤ (T.1 2) := c_27_2
        have hin := k_in0 (N := 100) rfl c_4_0 c_27_2
        refine lv_aload_n hx hb dX1_peek_30 rfl (lv_at hl 0 rfl) ?_
        refine va_get (D := D) (ci := 1) (v := .ref (q 1)) (C := RX1) (T := TX1) (N := 6) hx hb hts inX1 hown hK hP 0 rfl rfl 0 (by decide) (hts (.fieldLink RX1 11 "PumpOaths$OrderText" "bytes" "[I") (List.mem_of_getElem? (i := 3) rfl)) (fun _ h9 => h9) rfl dX1_peek_31 ?_
        refine lv_aload_n hx hb dX1_peek_34 rfl (lv_at hl 0 rfl) ?_
        refine va_get (D := D) (ci := 1) (v := .int (T.1 2)) (C := RX1) (T := TX1) (N := 6) hx hb hts inX1 hown hK hP 0 rfl rfl 4 (by decide) (hts (.fieldLink RX1 22 "PumpOaths$OrderText" "at" "I") (List.mem_of_getElem? (i := 1) rfl)) (fun _ h9 => h9) rfl dX1_peek_35 ?_
        refine va_iald (f := T.2 0) hx hb hK hP 1 0 rfl rfl (hin) dX1_peek_38 ?_
        refine lv_goto (tgt := 43) hx hb dX1_peek_39 (by decide) ?_
        exact k_iret hx hb hr hlk hP hS dX1_peek_43 rfl (by simp [t_peek, c_4_0, c_15_1, c_27_2]) (fun h => h)

set_option maxHeartbeats 1000000 in
set_option maxRecDepth 100000 in
theorem c_X1_isAtDigit (l : Launch) (D : va_G) (q : Nat → Nat) (cI cJ : ClassId) (T : TS)  : kI l yX1_isAtDigit wsX1_isAtDigit ({ frames := 1, cells := 0, slots := 0, locals := 20 } : Room) D [(cI, .int), (cJ, .long)] [.ref (q 0)] (txW q cI T) (bi (t_dig T)) (txW q cI T) := by
  refine kBody.met (cc := cX1_isAtDigit) (maxL := 2) (ret := (some .boolean)) (by decide) rfl (Nat.le_of_ble_eq_true rfl) ?_
  intro p9 e9 s9 m9 below meth c9 A9 ls hx hb hr hml hts hown hlk hK hP hD hA hl
  have hown : s9.vm.findClass RX1 = some m9.cls := hown
  have inX1 : ∀ w ∈ wsX10, w ∈ wsX1_isAtDigit := fun w h => List.mem_cons_of_mem _ (List.mem_append_right _ (h))
  have hS : va_S A9 s9.heap s9.heap [] := va_S.rf
  have hl : lv_has ls 2 [(0, .ref (q 0))] := hl
  refine lv_aload_n hx hb dX1_isAtDigit_0 rfl (lv_at hl 0 rfl) ?_
  refine k_calli (a := []) (z := []) (wc := txW q cI T) (wc' := txW q cI T) (w' := txW q cI T) (va_runV (As := []) (rest := []) ⟨hx, hb, hml, hown, hts⟩ (c_X1_peek l D q cI cJ T  _) (cwV 0 hts gX1_isAtDigit_X1_peek rfl rfl rfl (by decide +kernel) ⟨Nat.le_of_ble_eq_true rfl, Nat.le_of_ble_eq_true rfl⟩) ⟨kB_blind, va_recv hK hP (ci := 1) (q0 := 0) rfl rfl, k_pre (a := []) (z := []) (k_w0 _) hK hP hD⟩ rfl rfl hl.1 rfl (lv_room (Nat.le_of_ble_eq_true rfl)) dX1_isAtDigit_1 ⟨Nat.zero_le _, Nat.zero_le _⟩) (k_w0 _) (k_w0 _) (txW_ad _ _ _ _) hP hD hS hA (fun H locs hP hD hS => ?_)
  refine lv_istore_n (lv' := [(1, .int (t_peek T)), (0, .ref (q 0))]) hx hb dX1_isAtDigit_4 rfl hl (by decide) rfl (fun ls hl => ?_)
  refine lv_iload_n hx hb dX1_isAtDigit_5 rfl (lv_at hl 0 rfl) ?_
  refine lv_bipush (v := 48) hx hb dX1_isAtDigit_6 (by decide) ?_
  refine lv_icmp_lt (tgt := 21) hx hb dX1_isAtDigit_8 (by decide) (fun c_8_0 => ?_) (fun c_8_0 => ?_)
  · have c_8_0 : (t_peek T) < 48 := c_8_0
    refine lv_iconst (v := 0) hx hb dX1_isAtDigit_21 (by decide) ?_
    exact k_iret hx hb hr hlk hP hS dX1_isAtDigit_22 rfl (by simp [t_dig, bi, c_8_0]) (fun h => h)
  · have c_8_0 : ¬ (t_peek T) < 48 := c_8_0
    refine lv_iload_n hx hb dX1_isAtDigit_11 rfl (lv_at hl 0 rfl) ?_
    refine lv_bipush (v := 57) hx hb dX1_isAtDigit_12 (by decide) ?_
    refine lv_icmp_gt (tgt := 21) hx hb dX1_isAtDigit_14 (by decide) (fun c_14_1 => ?_) (fun c_14_1 => ?_)
    · have c_14_1 : 57 < (t_peek T) := c_14_1
      refine lv_iconst (v := 0) hx hb dX1_isAtDigit_21 (by decide) ?_
      exact k_iret hx hb hr hlk hP hS dX1_isAtDigit_22 rfl (by simp [t_dig, bi, c_8_0, c_14_1]) (fun h => h)
    · have c_14_1 : ¬ 57 < (t_peek T) := c_14_1
      refine lv_iconst (v := 1) hx hb dX1_isAtDigit_17 (by decide) ?_
      refine lv_goto (tgt := 22) hx hb dX1_isAtDigit_18 (by decide) ?_
      exact k_iret hx hb hr hlk hP hS dX1_isAtDigit_22 rfl (by simp [t_dig, bi, c_8_0, c_14_1]) (fun h => h)

set_option maxHeartbeats 1000000 in
set_option maxRecDepth 100000 in
theorem c_X1_fail (l : Launch) (D : va_G) (q : Nat → Nat) (cI cJ : ClassId) (T : TS) (w : Int32)  : kV l yX1_fail wsX1_fail ({ frames := 0, cells := 0, slots := 0, locals := 0 } : Room) D [(cI, .int), (cJ, .long)] [.ref (q 0), .int w] (txW q cI T) (txW q cI (t_fail T w)) := by
  refine kBody.met (cc := cX1_fail) (maxL := 2) (ret := none) (by decide) rfl (Nat.le_of_ble_eq_true rfl) ?_
  intro p9 e9 s9 m9 below meth c9 A9 ls hx hb hr hml hts hown hlk hK hP hD hA hl
  have hown : s9.vm.findClass RX1 = some m9.cls := hown
  have inX1 : ∀ w ∈ wsX10, w ∈ wsX1_fail := fun w h => List.mem_cons_of_mem _ (List.mem_append_right _ (h))
  have hS : va_S A9 s9.heap s9.heap [] := va_S.rf
  have hl : lv_has ls 2 [(0, .ref (q 0)), (1, .int w)] := hl
  refine lv_aload_n hx hb dX1_fail_0 rfl (lv_at hl 0 rfl) ?_
  refine va_get (D := D) (ci := 1) (v := .int (T.1 3)) (C := RX1) (T := TX1) (N := 6) hx hb hts inX1 hown hK hP 0 rfl rfl 5 (by decide) (hts (.fieldLink RX1 25 "PumpOaths$OrderText" "error" "I") (List.mem_of_getElem? (i := 1) rfl)) (fun _ h9 => h9) rfl dX1_fail_1 ?_
  refine lv_iconst (v := (-1)) hx hb dX1_fail_4 (by decide) ?_
  refine lv_icmp_ne (tgt := 13) hx hb dX1_fail_5 (by decide) (fun c_5_0 => ?_) (fun c_5_0 => ?_)
  · have c_5_0 : ¬ (T.1 3) = (-1) := c_5_0
    exact k_vret hx hb hr hlk hP hS dX1_fail_13 (k_P (by simp [t_fail, c_5_0]))
  · have c_5_0 : (T.1 3) = (-1) := c_5_0
    refine lv_aload_n hx hb dX1_fail_8 rfl (lv_at hl 0 rfl) ?_
    refine lv_iload_n hx hb dX1_fail_9 rfl (lv_at hl 1 rfl) ?_
    refine va_put (D := D) (ci := 1) (v := .int w) (ty := .int) (C := RX1) (T := TX1) (N := 6) hx hb hts inX1 tyX1 tyX1_ok nmX1 hown hK hP hD hS 0 rfl rfl 5 (by decide) (hts (.fieldLink RX1 25 "PumpOaths$OrderText" "error" "I") (List.mem_of_getElem? (i := 1) rfl)) (fun _ h9 => h9) rfl (by decide +kernel) rfl rfl (Nat.le_of_ble_eq_true rfl) dX1_fail_10 (fun H locs hP hD hS => ?_)
    have hP : va_P D vwCl (txW q cI (t_setI T 3 w)) H := hP
    have hD : va_D A9 (txW q cI (t_setI T 3 w)) := hD
    exact k_vret hx hb hr hlk hP hS dX1_fail_13 (k_P (by simp [t_fail, c_5_0]))

set_option maxHeartbeats 1000000 in
set_option maxRecDepth 100000 in
theorem c_X1_expect (l : Launch) (D : va_G) (q : Nat → Nat) (cI cJ : ClassId) (T : TS) (w : Int32)  : kV l yX1_expect wsX1_expect ({ frames := 1, cells := 0, slots := 0, locals := 21 } : Room) D [(cI, .int), (cJ, .long)] [.ref (q 0), .int w] (txW q cI T) (txW q cI (t_exp T w)) := by
  refine kBody.met (cc := cX1_expect) (maxL := 2) (ret := none) (by decide) rfl (Nat.le_of_ble_eq_true rfl) ?_
  intro p9 e9 s9 m9 below meth c9 A9 ls hx hb hr hml hts hown hlk hK hP hD hA hl
  have hown : s9.vm.findClass RX1 = some m9.cls := hown
  have inX1 : ∀ w ∈ wsX10, w ∈ wsX1_expect := fun w h => List.mem_cons_of_mem _ (List.mem_append_right _ (h))
  have hS : va_S A9 s9.heap s9.heap [] := va_S.rf
  have hl : lv_has ls 2 [(0, .ref (q 0)), (1, .int w)] := hl
  refine lv_aload_n hx hb dX1_expect_0 rfl (lv_at hl 0 rfl) ?_
  refine k_calli (a := []) (z := []) (wc := txW q cI T) (wc' := txW q cI T) (w' := txW q cI T) (va_runV (As := []) (rest := []) ⟨hx, hb, hml, hown, hts⟩ (c_X1_peek l D q cI cJ T  _) (cwV 0 hts gX1_expect_X1_peek rfl rfl rfl (by decide +kernel) ⟨Nat.le_of_ble_eq_true rfl, Nat.le_of_ble_eq_true rfl⟩) ⟨kB_blind, va_recv hK hP (ci := 1) (q0 := 0) rfl rfl, k_pre (a := []) (z := []) (k_w0 _) hK hP hD⟩ rfl rfl hl.1 rfl (lv_room (Nat.le_of_ble_eq_true rfl)) dX1_expect_1 ⟨Nat.zero_le _, Nat.zero_le _⟩) (k_w0 _) (k_w0 _) (txW_ad _ _ _ _) hP hD hS hA (fun H locs hP hD hS => ?_)
  refine lv_iload_n hx hb dX1_expect_4 rfl (lv_at hl 1 rfl) ?_
  refine lv_icmp_eq (tgt := 16) hx hb dX1_expect_5 (by decide) (fun c_5_0 => ?_) (fun c_5_0 => ?_)
  · have c_5_0 : (t_peek T) = w := c_5_0
    refine lv_aload_n hx hb dX1_expect_16 rfl (lv_at hl 0 rfl) ?_
    refine lv_dup hx hb dX1_expect_17 rfl ?_
    refine va_get (D := D) (ci := 1) (v := .int (T.1 2)) (C := RX1) (T := TX1) (N := 6) hx hb hts inX1 hown hK hP 0 rfl rfl 4 (by decide) (hts (.fieldLink RX1 22 "PumpOaths$OrderText" "at" "I") (List.mem_of_getElem? (i := 1) rfl)) (fun _ h9 => h9) rfl dX1_expect_18 ?_
    refine lv_iconst (v := 1) hx hb dX1_expect_21 (by decide) ?_
    refine lv_iadd hx hb dX1_expect_22 ?_
    refine va_put (D := D) (ci := 1) (v := .int ((T.1 2) + 1)) (ty := .int) (C := RX1) (T := TX1) (N := 6) hx hb hts inX1 tyX1 tyX1_ok nmX1 hown hK hP hD hS 0 rfl rfl 4 (by decide) (hts (.fieldLink RX1 22 "PumpOaths$OrderText" "at" "I") (List.mem_of_getElem? (i := 1) rfl)) (fun _ h9 => h9) rfl (by decide +kernel) rfl rfl (Nat.le_of_ble_eq_true rfl) dX1_expect_23 (fun H locs hP hD hS => ?_)
    have hP : va_P D vwCl (txW q cI (t_setI T 2 ((T.1 2) + 1))) H := hP
    have hD : va_D A9 (txW q cI (t_setI T 2 ((T.1 2) + 1))) := hD
    exact k_vret hx hb hr hlk hP hS dX1_expect_26 (k_P (by simp [t_exp, t_exp1, c_5_0]))
  · have c_5_0 : ¬ (t_peek T) = w := c_5_0
    refine lv_aload_n hx hb dX1_expect_8 rfl (lv_at hl 0 rfl) ?_
    refine lv_aload_n hx hb dX1_expect_9 rfl (lv_at hl 0 rfl) ?_
    refine va_get (D := D) (ci := 1) (v := .int (T.1 2)) (C := RX1) (T := TX1) (N := 6) hx hb hts inX1 hown hK hP 0 rfl rfl 4 (by decide) (hts (.fieldLink RX1 22 "PumpOaths$OrderText" "at" "I") (List.mem_of_getElem? (i := 1) rfl)) (fun _ h9 => h9) rfl dX1_expect_10 ?_
    refine k_callv (a := []) (z := []) (wc := txW q cI T) (wc' := txW q cI (t_fail T (T.1 2))) (w' := txW q cI (t_fail T (T.1 2))) (va_runV (As := [.int (T.1 2)]) (rest := []) ⟨hx, hb, hml, hown, hts⟩ (c_X1_fail l D q cI cJ T (T.1 2) _) (cwV 1 hts gX1_expect_X1_fail rfl rfl rfl (by decide +kernel) ⟨Nat.le_of_ble_eq_true rfl, Nat.le_of_ble_eq_true rfl⟩) ⟨kB_blind, va_recv hK hP (ci := 1) (q0 := 0) rfl rfl, k_pre (a := []) (z := []) (k_w0 _) hK hP hD⟩ rfl rfl hl.1 rfl (lv_room (Nat.le_of_ble_eq_true rfl)) dX1_expect_13 ⟨Nat.zero_le _, Nat.zero_le _⟩) (k_w0 _) (k_w0 _) (txW_ad _ _ _ _) hP hD hS hA (fun H locs hP hD hS => ?_)
    refine lv_aload_n hx hb dX1_expect_16 rfl (lv_at hl 0 rfl) ?_
    refine lv_dup hx hb dX1_expect_17 rfl ?_
    refine va_get (D := D) (ci := 1) (v := .int ((t_fail T (T.1 2)).1 2)) (C := RX1) (T := TX1) (N := 6) hx hb hts inX1 hown hK hP 0 rfl rfl 4 (by decide) (hts (.fieldLink RX1 22 "PumpOaths$OrderText" "at" "I") (List.mem_of_getElem? (i := 1) rfl)) (fun _ h9 => h9) rfl dX1_expect_18 ?_
    refine lv_iconst (v := 1) hx hb dX1_expect_21 (by decide) ?_
    refine lv_iadd hx hb dX1_expect_22 ?_
    refine va_put (D := D) (ci := 1) (v := .int (((t_fail T (T.1 2)).1 2) + 1)) (ty := .int) (C := RX1) (T := TX1) (N := 6) hx hb hts inX1 tyX1 tyX1_ok nmX1 hown hK hP hD hS 0 rfl rfl 4 (by decide) (hts (.fieldLink RX1 22 "PumpOaths$OrderText" "at" "I") (List.mem_of_getElem? (i := 1) rfl)) (fun _ h9 => h9) rfl (by decide +kernel) rfl rfl (Nat.le_of_ble_eq_true rfl) dX1_expect_23 (fun H locs hP hD hS => ?_)
    have hP : va_P D vwCl (txW q cI (t_setI (t_fail T (T.1 2)) 2 (((t_fail T (T.1 2)).1 2) + 1))) H := hP
    have hD : va_D A9 (txW q cI (t_setI (t_fail T (T.1 2)) 2 (((t_fail T (T.1 2)).1 2) + 1))) := hD
    exact k_vret hx hb hr hlk hP hS dX1_expect_26 (k_P (by simp [t_exp, t_exp1, c_5_0]))

set_option maxHeartbeats 1000000 in
set_option maxRecDepth 100000 in
theorem c_X1_readPump (l : Launch) (D : va_G) (q : Nat → Nat) (cI cJ : ClassId) (T : TS)  : kI l yX1_readPump wsX1_readPump ({ frames := 1, cells := 0, slots := 0, locals := 21 } : Room) D [(cI, .int), (cJ, .long)] [.ref (q 0)] (txW q cI T) (t_peek T - 48) (txW q cI (t_pump T)) := by
  refine kBody.met (cc := cX1_readPump) (maxL := 2) (ret := (some .int)) (by decide) rfl (Nat.le_of_ble_eq_true rfl) ?_
  intro p9 e9 s9 m9 below meth c9 A9 ls hx hb hr hml hts hown hlk hK hP hD hA hl
  have hown : s9.vm.findClass RX1 = some m9.cls := hown
  have inX1 : ∀ w ∈ wsX10, w ∈ wsX1_readPump := fun w h => List.mem_cons_of_mem _ (List.mem_append_right _ (h))
  have hS : va_S A9 s9.heap s9.heap [] := va_S.rf
  have hl : lv_has ls 2 [(0, .ref (q 0))] := hl
  refine lv_aload_n hx hb dX1_readPump_0 rfl (lv_at hl 0 rfl) ?_
  refine k_calli (a := []) (z := []) (wc := txW q cI T) (wc' := txW q cI T) (w' := txW q cI T) (va_runV (As := []) (rest := []) ⟨hx, hb, hml, hown, hts⟩ (c_X1_peek l D q cI cJ T  _) (cwV 0 hts gX1_readPump_X1_peek rfl rfl rfl (by decide +kernel) ⟨Nat.le_of_ble_eq_true rfl, Nat.le_of_ble_eq_true rfl⟩) ⟨kB_blind, va_recv hK hP (ci := 1) (q0 := 0) rfl rfl, k_pre (a := []) (z := []) (k_w0 _) hK hP hD⟩ rfl rfl hl.1 rfl (lv_room (Nat.le_of_ble_eq_true rfl)) dX1_readPump_1 ⟨Nat.zero_le _, Nat.zero_le _⟩) (k_w0 _) (k_w0 _) (txW_ad _ _ _ _) hP hD hS hA (fun H locs hP hD hS => ?_)
  refine lv_bipush (v := 48) hx hb dX1_readPump_4 (by decide) ?_
  refine lv_isub hx hb dX1_readPump_6 ?_
  refine lv_istore_n (lv' := [(1, .int ((t_peek T) - 48)), (0, .ref (q 0))]) hx hb dX1_readPump_7 rfl hl (by decide) rfl (fun ls hl => ?_)
  refine lv_iload_n hx hb dX1_readPump_8 rfl (lv_at hl 0 rfl) ?_
  refine lv_if_lt (tgt := 18) hx hb dX1_readPump_9 (by decide) (fun c_9_0 => ?_) (fun c_9_0 => ?_)
  · have c_9_0 : ((t_peek T) - 48) < 0 := c_9_0
    refine lv_aload_n hx hb dX1_readPump_18 rfl (lv_at hl 1 rfl) ?_
    refine lv_aload_n hx hb dX1_readPump_19 rfl (lv_at hl 1 rfl) ?_
    refine va_get (D := D) (ci := 1) (v := .int (T.1 2)) (C := RX1) (T := TX1) (N := 6) hx hb hts inX1 hown hK hP 0 rfl rfl 4 (by decide) (hts (.fieldLink RX1 22 "PumpOaths$OrderText" "at" "I") (List.mem_of_getElem? (i := 1) rfl)) (fun _ h9 => h9) rfl dX1_readPump_20 ?_
    refine k_callv (a := []) (z := []) (wc := txW q cI T) (wc' := txW q cI (t_fail T (T.1 2))) (w' := txW q cI (t_fail T (T.1 2))) (va_runV (As := [.int (T.1 2)]) (rest := []) ⟨hx, hb, hml, hown, hts⟩ (c_X1_fail l D q cI cJ T (T.1 2) _) (cwV 1 hts gX1_readPump_X1_fail rfl rfl rfl (by decide +kernel) ⟨Nat.le_of_ble_eq_true rfl, Nat.le_of_ble_eq_true rfl⟩) ⟨kB_blind, va_recv hK hP (ci := 1) (q0 := 0) rfl rfl, k_pre (a := []) (z := []) (k_w0 _) hK hP hD⟩ rfl rfl hl.1 rfl (lv_room (Nat.le_of_ble_eq_true rfl)) dX1_readPump_23 ⟨Nat.zero_le _, Nat.zero_le _⟩) (k_w0 _) (k_w0 _) (txW_ad _ _ _ _) hP hD hS hA (fun H locs hP hD hS => ?_)
    refine lv_aload_n hx hb dX1_readPump_26 rfl (lv_at hl 1 rfl) ?_
    refine lv_dup hx hb dX1_readPump_27 rfl ?_
    refine va_get (D := D) (ci := 1) (v := .int ((t_fail T (T.1 2)).1 2)) (C := RX1) (T := TX1) (N := 6) hx hb hts inX1 hown hK hP 0 rfl rfl 4 (by decide) (hts (.fieldLink RX1 22 "PumpOaths$OrderText" "at" "I") (List.mem_of_getElem? (i := 1) rfl)) (fun _ h9 => h9) rfl dX1_readPump_28 ?_
    refine lv_iconst (v := 1) hx hb dX1_readPump_31 (by decide) ?_
    refine lv_iadd hx hb dX1_readPump_32 ?_
    refine va_put (D := D) (ci := 1) (v := .int (((t_fail T (T.1 2)).1 2) + 1)) (ty := .int) (C := RX1) (T := TX1) (N := 6) hx hb hts inX1 tyX1 tyX1_ok nmX1 hown hK hP hD hS 0 rfl rfl 4 (by decide) (hts (.fieldLink RX1 22 "PumpOaths$OrderText" "at" "I") (List.mem_of_getElem? (i := 1) rfl)) (fun _ h9 => h9) rfl (by decide +kernel) rfl rfl (Nat.le_of_ble_eq_true rfl) dX1_readPump_33 (fun H locs hP hD hS => ?_)
    have hP : va_P D vwCl (txW q cI (t_setI (t_fail T (T.1 2)) 2 (((t_fail T (T.1 2)).1 2) + 1))) H := hP
    have hD : va_D A9 (txW q cI (t_setI (t_fail T (T.1 2)) 2 (((t_fail T (T.1 2)).1 2) + 1))) := hD
    refine lv_iload_n hx hb dX1_readPump_36 rfl (lv_at hl 0 rfl) ?_
    exact k_iret hx hb hr hlk hP hS dX1_readPump_37 rfl rfl (k_P (by simp [t_pump, t_pump1, c_9_0]))
  · have c_9_0 : ¬ ((t_peek T) - 48) < 0 := c_9_0
    refine lv_iload_n hx hb dX1_readPump_12 rfl (lv_at hl 0 rfl) ?_
    refine lv_bipush (v := 6) hx hb dX1_readPump_13 (by decide) ?_
    refine lv_icmp_lt (tgt := 26) hx hb dX1_readPump_15 (by decide) (fun c_15_1 => ?_) (fun c_15_1 => ?_)
    · have c_15_1 : ((t_peek T) - 48) < 6 := c_15_1
      refine lv_aload_n hx hb dX1_readPump_26 rfl (lv_at hl 1 rfl) ?_
      refine lv_dup hx hb dX1_readPump_27 rfl ?_
      refine va_get (D := D) (ci := 1) (v := .int (T.1 2)) (C := RX1) (T := TX1) (N := 6) hx hb hts inX1 hown hK hP 0 rfl rfl 4 (by decide) (hts (.fieldLink RX1 22 "PumpOaths$OrderText" "at" "I") (List.mem_of_getElem? (i := 1) rfl)) (fun _ h9 => h9) rfl dX1_readPump_28 ?_
      refine lv_iconst (v := 1) hx hb dX1_readPump_31 (by decide) ?_
      refine lv_iadd hx hb dX1_readPump_32 ?_
      refine va_put (D := D) (ci := 1) (v := .int ((T.1 2) + 1)) (ty := .int) (C := RX1) (T := TX1) (N := 6) hx hb hts inX1 tyX1 tyX1_ok nmX1 hown hK hP hD hS 0 rfl rfl 4 (by decide) (hts (.fieldLink RX1 22 "PumpOaths$OrderText" "at" "I") (List.mem_of_getElem? (i := 1) rfl)) (fun _ h9 => h9) rfl (by decide +kernel) rfl rfl (Nat.le_of_ble_eq_true rfl) dX1_readPump_33 (fun H locs hP hD hS => ?_)
      have hP : va_P D vwCl (txW q cI (t_setI T 2 ((T.1 2) + 1))) H := hP
      have hD : va_D A9 (txW q cI (t_setI T 2 ((T.1 2) + 1))) := hD
      refine lv_iload_n hx hb dX1_readPump_36 rfl (lv_at hl 0 rfl) ?_
      exact k_iret hx hb hr hlk hP hS dX1_readPump_37 rfl rfl (k_P (by simp [t_pump, t_pump1, c_9_0, c_15_1]))
    · have c_15_1 : ¬ ((t_peek T) - 48) < 6 := c_15_1
      refine lv_aload_n hx hb dX1_readPump_18 rfl (lv_at hl 1 rfl) ?_
      refine lv_aload_n hx hb dX1_readPump_19 rfl (lv_at hl 1 rfl) ?_
      refine va_get (D := D) (ci := 1) (v := .int (T.1 2)) (C := RX1) (T := TX1) (N := 6) hx hb hts inX1 hown hK hP 0 rfl rfl 4 (by decide) (hts (.fieldLink RX1 22 "PumpOaths$OrderText" "at" "I") (List.mem_of_getElem? (i := 1) rfl)) (fun _ h9 => h9) rfl dX1_readPump_20 ?_
      refine k_callv (a := []) (z := []) (wc := txW q cI T) (wc' := txW q cI (t_fail T (T.1 2))) (w' := txW q cI (t_fail T (T.1 2))) (va_runV (As := [.int (T.1 2)]) (rest := []) ⟨hx, hb, hml, hown, hts⟩ (c_X1_fail l D q cI cJ T (T.1 2) _) (cwV 1 hts gX1_readPump_X1_fail rfl rfl rfl (by decide +kernel) ⟨Nat.le_of_ble_eq_true rfl, Nat.le_of_ble_eq_true rfl⟩) ⟨kB_blind, va_recv hK hP (ci := 1) (q0 := 0) rfl rfl, k_pre (a := []) (z := []) (k_w0 _) hK hP hD⟩ rfl rfl hl.1 rfl (lv_room (Nat.le_of_ble_eq_true rfl)) dX1_readPump_23 ⟨Nat.zero_le _, Nat.zero_le _⟩) (k_w0 _) (k_w0 _) (txW_ad _ _ _ _) hP hD hS hA (fun H locs hP hD hS => ?_)
      refine lv_aload_n hx hb dX1_readPump_26 rfl (lv_at hl 1 rfl) ?_
      refine lv_dup hx hb dX1_readPump_27 rfl ?_
      refine va_get (D := D) (ci := 1) (v := .int ((t_fail T (T.1 2)).1 2)) (C := RX1) (T := TX1) (N := 6) hx hb hts inX1 hown hK hP 0 rfl rfl 4 (by decide) (hts (.fieldLink RX1 22 "PumpOaths$OrderText" "at" "I") (List.mem_of_getElem? (i := 1) rfl)) (fun _ h9 => h9) rfl dX1_readPump_28 ?_
      refine lv_iconst (v := 1) hx hb dX1_readPump_31 (by decide) ?_
      refine lv_iadd hx hb dX1_readPump_32 ?_
      refine va_put (D := D) (ci := 1) (v := .int (((t_fail T (T.1 2)).1 2) + 1)) (ty := .int) (C := RX1) (T := TX1) (N := 6) hx hb hts inX1 tyX1 tyX1_ok nmX1 hown hK hP hD hS 0 rfl rfl 4 (by decide) (hts (.fieldLink RX1 22 "PumpOaths$OrderText" "at" "I") (List.mem_of_getElem? (i := 1) rfl)) (fun _ h9 => h9) rfl (by decide +kernel) rfl rfl (Nat.le_of_ble_eq_true rfl) dX1_readPump_33 (fun H locs hP hD hS => ?_)
      have hP : va_P D vwCl (txW q cI (t_setI (t_fail T (T.1 2)) 2 (((t_fail T (T.1 2)).1 2) + 1))) H := hP
      have hD : va_D A9 (txW q cI (t_setI (t_fail T (T.1 2)) 2 (((t_fail T (T.1 2)).1 2) + 1))) := hD
      refine lv_iload_n hx hb dX1_readPump_36 rfl (lv_at hl 0 rfl) ?_
      exact k_iret hx hb hr hlk hP hS dX1_readPump_37 rfl rfl (k_P (by simp [t_pump, t_pump1, c_9_0, c_15_1]))

set_option maxHeartbeats 1000000 in
set_option maxRecDepth 100000 in
theorem c_X1_readDigit (l : Launch) (D : va_G) (q : Nat → Nat) (cI cJ : ClassId) (T : TS)  : kI l yX1_readDigit wsX1_readDigit ({ frames := 2, cells := 0, slots := 0, locals := 41 } : Room) D [(cI, .int), (cJ, .long)] [.ref (q 0)] (txW q cI T) (t_dgtR T) (txW q cI (t_dgt T)) := by
  refine kBody.met (cc := cX1_readDigit) (maxL := 2) (ret := (some .int)) (by decide) rfl (Nat.le_of_ble_eq_true rfl) ?_
  intro p9 e9 s9 m9 below meth c9 A9 ls hx hb hr hml hts hown hlk hK hP hD hA hl
  have hown : s9.vm.findClass RX1 = some m9.cls := hown
  have inX1 : ∀ w ∈ wsX10, w ∈ wsX1_readDigit := fun w h => List.mem_cons_of_mem _ (List.mem_append_right _ (h))
  have hS : va_S A9 s9.heap s9.heap [] := va_S.rf
  have hl : lv_has ls 2 [(0, .ref (q 0))] := hl
  refine lv_aload_n hx hb dX1_readDigit_0 rfl (lv_at hl 0 rfl) ?_
  refine k_calli (a := []) (z := []) (wc := txW q cI T) (wc' := txW q cI T) (w' := txW q cI T) (va_runV (As := []) (rest := []) ⟨hx, hb, hml, hown, hts⟩ (c_X1_isAtDigit l D q cI cJ T  _) (cwV 0 hts gX1_readDigit_X1_isAtDigit rfl rfl rfl (by decide +kernel) ⟨Nat.le_of_ble_eq_true rfl, Nat.le_of_ble_eq_true rfl⟩) ⟨kB_blind, va_recv hK hP (ci := 1) (q0 := 0) rfl rfl, k_pre (a := []) (z := []) (k_w0 _) hK hP hD⟩ rfl rfl hl.1 rfl (lv_room (Nat.le_of_ble_eq_true rfl)) dX1_readDigit_1 ⟨Nat.zero_le _, Nat.zero_le _⟩) (k_w0 _) (k_w0 _) (txW_ad _ _ _ _) hP hD hS hA (fun H locs hP hD hS => ?_)
  refine lv_if_ne (tgt := 15) hx hb dX1_readDigit_4 (by decide) (fun c_4_0 => ?_) (fun c_4_0 => ?_)
  · have c_4_0 : (t_dig T) = true := bi_n.mp c_4_0
    refine lv_aload_n hx hb dX1_readDigit_15 rfl (lv_at hl 0 rfl) ?_
    refine k_calli (a := []) (z := []) (wc := txW q cI T) (wc' := txW q cI T) (w' := txW q cI T) (va_runV (As := []) (rest := []) ⟨hx, hb, hml, hown, hts⟩ (c_X1_peek l D q cI cJ T  _) (cwV 0 hts gX1_readDigit_X1_peek rfl rfl rfl (by decide +kernel) ⟨Nat.le_of_ble_eq_true rfl, Nat.le_of_ble_eq_true rfl⟩) ⟨kB_blind, va_recv hK hP (ci := 1) (q0 := 0) rfl rfl, k_pre (a := []) (z := []) (k_w0 _) hK hP hD⟩ rfl rfl hl.1 rfl (lv_room (Nat.le_of_ble_eq_true rfl)) dX1_readDigit_16 ⟨Nat.zero_le _, Nat.zero_le _⟩) (k_w0 _) (k_w0 _) (txW_ad _ _ _ _) hP hD hS hA (fun H locs hP hD hS => ?_)
    refine lv_bipush (v := 48) hx hb dX1_readDigit_19 (by decide) ?_
    refine lv_isub hx hb dX1_readDigit_21 ?_
    refine lv_istore_n (lv' := [(1, .int ((t_peek T) - 48)), (0, .ref (q 0))]) hx hb dX1_readDigit_22 rfl hl (by decide) rfl (fun ls hl => ?_)
    refine lv_aload_n hx hb dX1_readDigit_23 rfl (lv_at hl 1 rfl) ?_
    refine lv_dup hx hb dX1_readDigit_24 rfl ?_
    refine va_get (D := D) (ci := 1) (v := .int (T.1 2)) (C := RX1) (T := TX1) (N := 6) hx hb hts inX1 hown hK hP 0 rfl rfl 4 (by decide) (hts (.fieldLink RX1 22 "PumpOaths$OrderText" "at" "I") (List.mem_of_getElem? (i := 1) rfl)) (fun _ h9 => h9) rfl dX1_readDigit_25 ?_
    refine lv_iconst (v := 1) hx hb dX1_readDigit_28 (by decide) ?_
    refine lv_iadd hx hb dX1_readDigit_29 ?_
    refine va_put (D := D) (ci := 1) (v := .int ((T.1 2) + 1)) (ty := .int) (C := RX1) (T := TX1) (N := 6) hx hb hts inX1 tyX1 tyX1_ok nmX1 hown hK hP hD hS 0 rfl rfl 4 (by decide) (hts (.fieldLink RX1 22 "PumpOaths$OrderText" "at" "I") (List.mem_of_getElem? (i := 1) rfl)) (fun _ h9 => h9) rfl (by decide +kernel) rfl rfl (Nat.le_of_ble_eq_true rfl) dX1_readDigit_30 (fun H locs hP hD hS => ?_)
    have hP : va_P D vwCl (txW q cI (t_setI T 2 ((T.1 2) + 1))) H := hP
    have hD : va_D A9 (txW q cI (t_setI T 2 ((T.1 2) + 1))) := hD
    refine lv_iload_n hx hb dX1_readDigit_33 rfl (lv_at hl 0 rfl) ?_
    exact k_iret hx hb hr hlk hP hS dX1_readDigit_34 rfl (by simp [t_dgtR, t_dgt1, c_4_0]) (k_P (by simp [t_dgt, t_dgt1, c_4_0]))
  · have c_4_0 : (t_dig T) = false := bi_0.mp c_4_0
    refine lv_aload_n hx hb dX1_readDigit_7 rfl (lv_at hl 0 rfl) ?_
    refine lv_aload_n hx hb dX1_readDigit_8 rfl (lv_at hl 0 rfl) ?_
    refine va_get (D := D) (ci := 1) (v := .int (T.1 2)) (C := RX1) (T := TX1) (N := 6) hx hb hts inX1 hown hK hP 0 rfl rfl 4 (by decide) (hts (.fieldLink RX1 22 "PumpOaths$OrderText" "at" "I") (List.mem_of_getElem? (i := 1) rfl)) (fun _ h9 => h9) rfl dX1_readDigit_9 ?_
    refine k_callv (a := []) (z := []) (wc := txW q cI T) (wc' := txW q cI (t_fail T (T.1 2))) (w' := txW q cI (t_fail T (T.1 2))) (va_runV (As := [.int (T.1 2)]) (rest := []) ⟨hx, hb, hml, hown, hts⟩ (c_X1_fail l D q cI cJ T (T.1 2) _) (cwV 1 hts gX1_readDigit_X1_fail rfl rfl rfl (by decide +kernel) ⟨Nat.le_of_ble_eq_true rfl, Nat.le_of_ble_eq_true rfl⟩) ⟨kB_blind, va_recv hK hP (ci := 1) (q0 := 0) rfl rfl, k_pre (a := []) (z := []) (k_w0 _) hK hP hD⟩ rfl rfl hl.1 rfl (lv_room (Nat.le_of_ble_eq_true rfl)) dX1_readDigit_12 ⟨Nat.zero_le _, Nat.zero_le _⟩) (k_w0 _) (k_w0 _) (txW_ad _ _ _ _) hP hD hS hA (fun H locs hP hD hS => ?_)
    refine lv_aload_n hx hb dX1_readDigit_15 rfl (lv_at hl 0 rfl) ?_
    refine k_calli (a := []) (z := []) (wc := txW q cI (t_fail T (T.1 2))) (wc' := txW q cI (t_fail T (T.1 2))) (w' := txW q cI (t_fail T (T.1 2))) (va_runV (As := []) (rest := []) ⟨hx, hb, hml, hown, hts⟩ (c_X1_peek l D q cI cJ (t_fail T (T.1 2))  _) (cwV 0 hts gX1_readDigit_X1_peek rfl rfl rfl (by decide +kernel) ⟨Nat.le_of_ble_eq_true rfl, Nat.le_of_ble_eq_true rfl⟩) ⟨kB_blind, va_recv hK hP (ci := 1) (q0 := 0) rfl rfl, k_pre (a := []) (z := []) (k_w0 _) hK hP hD⟩ rfl rfl hl.1 rfl (lv_room (Nat.le_of_ble_eq_true rfl)) dX1_readDigit_16 ⟨Nat.zero_le _, Nat.zero_le _⟩) (k_w0 _) (k_w0 _) (txW_ad _ _ _ _) hP hD hS hA (fun H locs hP hD hS => ?_)
    refine lv_bipush (v := 48) hx hb dX1_readDigit_19 (by decide) ?_
    refine lv_isub hx hb dX1_readDigit_21 ?_
    refine lv_istore_n (lv' := [(1, .int ((t_peek (t_fail T (T.1 2))) - 48)), (0, .ref (q 0))]) hx hb dX1_readDigit_22 rfl hl (by decide) rfl (fun ls hl => ?_)
    refine lv_aload_n hx hb dX1_readDigit_23 rfl (lv_at hl 1 rfl) ?_
    refine lv_dup hx hb dX1_readDigit_24 rfl ?_
    refine va_get (D := D) (ci := 1) (v := .int ((t_fail T (T.1 2)).1 2)) (C := RX1) (T := TX1) (N := 6) hx hb hts inX1 hown hK hP 0 rfl rfl 4 (by decide) (hts (.fieldLink RX1 22 "PumpOaths$OrderText" "at" "I") (List.mem_of_getElem? (i := 1) rfl)) (fun _ h9 => h9) rfl dX1_readDigit_25 ?_
    refine lv_iconst (v := 1) hx hb dX1_readDigit_28 (by decide) ?_
    refine lv_iadd hx hb dX1_readDigit_29 ?_
    refine va_put (D := D) (ci := 1) (v := .int (((t_fail T (T.1 2)).1 2) + 1)) (ty := .int) (C := RX1) (T := TX1) (N := 6) hx hb hts inX1 tyX1 tyX1_ok nmX1 hown hK hP hD hS 0 rfl rfl 4 (by decide) (hts (.fieldLink RX1 22 "PumpOaths$OrderText" "at" "I") (List.mem_of_getElem? (i := 1) rfl)) (fun _ h9 => h9) rfl (by decide +kernel) rfl rfl (Nat.le_of_ble_eq_true rfl) dX1_readDigit_30 (fun H locs hP hD hS => ?_)
    have hP : va_P D vwCl (txW q cI (t_setI (t_fail T (T.1 2)) 2 (((t_fail T (T.1 2)).1 2) + 1))) H := hP
    have hD : va_D A9 (txW q cI (t_setI (t_fail T (T.1 2)) 2 (((t_fail T (T.1 2)).1 2) + 1))) := hD
    refine lv_iload_n hx hb dX1_readDigit_33 rfl (lv_at hl 0 rfl) ?_
    exact k_iret hx hb hr hlk hP hS dX1_readDigit_34 rfl (by simp [t_dgtR, t_dgt1, c_4_0]) (k_P (by simp [t_dgt, t_dgt1, c_4_0]))

set_option maxHeartbeats 1000000 in
set_option maxRecDepth 100000 in
theorem c_X1_readHour (l : Launch) (D : va_G) (q : Nat → Nat) (cI cJ : ClassId) (T : TS)  : kI l yX1_readHour wsX1_readHour ({ frames := 3, cells := 0, slots := 0, locals := 62 } : Room) D [(cI, .int), (cJ, .long)] [.ref (q 0)] (txW q cI T) (t_hourR T) (txW q cI (t_hour T)) := by
  refine kBody.met (cc := cX1_readHour) (maxL := 3) (ret := (some .int)) (by decide) rfl (Nat.le_of_ble_eq_true rfl) ?_
  intro p9 e9 s9 m9 below meth c9 A9 ls hx hb hr hml hts hown hlk hK hP hD hA hl
  have hown : s9.vm.findClass RX1 = some m9.cls := hown
  have inX1 : ∀ w ∈ wsX10, w ∈ wsX1_readHour := fun w h => List.mem_cons_of_mem _ (List.mem_append_right _ (h))
  have hS : va_S A9 s9.heap s9.heap [] := va_S.rf
  have hl : lv_has ls 3 [(0, .ref (q 0))] := hl
  refine lv_aload_n hx hb dX1_readHour_0 rfl (lv_at hl 0 rfl) ?_
  refine va_get (D := D) (ci := 1) (v := .int (T.1 2)) (C := RX1) (T := TX1) (N := 6) hx hb hts inX1 hown hK hP 0 rfl rfl 4 (by decide) (hts (.fieldLink RX1 22 "PumpOaths$OrderText" "at" "I") (List.mem_of_getElem? (i := 1) rfl)) (fun _ h9 => h9) rfl dX1_readHour_1 ?_
  refine lv_istore_n (lv' := [(1, .int (T.1 2)), (0, .ref (q 0))]) hx hb dX1_readHour_4 rfl hl (by decide) rfl (fun ls hl => ?_)
  refine lv_bipush (v := 10) hx hb dX1_readHour_5 (by decide) ?_
  refine lv_aload_n hx hb dX1_readHour_7 rfl (lv_at hl 1 rfl) ?_
  refine k_calli (a := []) (z := []) (wc := txW q cI T) (wc' := txW q cI (t_dgt T)) (w' := txW q cI (t_dgt T)) (va_runV (As := []) (rest := [.int 10]) ⟨hx, hb, hml, hown, hts⟩ (c_X1_readDigit l D q cI cJ T  _) (cwV 0 hts gX1_readHour_X1_readDigit rfl rfl rfl (by decide +kernel) ⟨Nat.le_of_ble_eq_true rfl, Nat.le_of_ble_eq_true rfl⟩) ⟨kB_blind, va_recv hK hP (ci := 1) (q0 := 0) rfl rfl, k_pre (a := []) (z := []) (k_w0 _) hK hP hD⟩ rfl rfl hl.1 rfl (lv_room (Nat.le_of_ble_eq_true rfl)) dX1_readHour_8 ⟨Nat.zero_le _, Nat.zero_le _⟩) (k_w0 _) (k_w0 _) (txW_ad _ _ _ _) hP hD hS hA (fun H locs hP hD hS => ?_)
  refine lv_imul hx hb dX1_readHour_11 ?_
  refine lv_istore_n (lv' := [(2, .int (10 * (t_dgtR T))), (1, .int (T.1 2)), (0, .ref (q 0))]) hx hb dX1_readHour_12 rfl hl (by decide) rfl (fun ls hl => ?_)
  refine lv_iload_n hx hb dX1_readHour_13 rfl (lv_at hl 0 rfl) ?_
  refine lv_aload_n hx hb dX1_readHour_14 rfl (lv_at hl 2 rfl) ?_
  refine k_calli (a := []) (z := []) (wc := txW q cI (t_dgt T)) (wc' := txW q cI (t_dgt (t_dgt T))) (w' := txW q cI (t_dgt (t_dgt T))) (va_runV (As := []) (rest := [.int (10 * (t_dgtR T))]) ⟨hx, hb, hml, hown, hts⟩ (c_X1_readDigit l D q cI cJ (t_dgt T)  _) (cwV 0 hts gX1_readHour_X1_readDigit rfl rfl rfl (by decide +kernel) ⟨Nat.le_of_ble_eq_true rfl, Nat.le_of_ble_eq_true rfl⟩) ⟨kB_blind, va_recv hK hP (ci := 1) (q0 := 0) rfl rfl, k_pre (a := []) (z := []) (k_w0 _) hK hP hD⟩ rfl rfl hl.1 rfl (lv_room (Nat.le_of_ble_eq_true rfl)) dX1_readHour_15 ⟨Nat.zero_le _, Nat.zero_le _⟩) (k_w0 _) (k_w0 _) (txW_ad _ _ _ _) hP hD hS hA (fun H locs hP hD hS => ?_)
  refine lv_iadd hx hb dX1_readHour_18 ?_
  refine lv_istore_n (lv' := [(2, .int ((10 * (t_dgtR T)) + (t_dgtR (t_dgt T)))), (1, .int (T.1 2)), (0, .ref (q 0))]) hx hb dX1_readHour_19 rfl hl (by decide) rfl (fun ls hl => ?_)
  refine lv_iload_n hx hb dX1_readHour_20 rfl (lv_at hl 0 rfl) ?_
  refine lv_bipush (v := 24) hx hb dX1_readHour_21 (by decide) ?_
  refine lv_icmp_lt (tgt := 31) hx hb dX1_readHour_23 (by decide) (fun c_23_0 => ?_) (fun c_23_0 => ?_)
  · have c_23_0 : ((10 * (t_dgtR T)) + (t_dgtR (t_dgt T))) < 24 := c_23_0
    refine lv_iload_n hx hb dX1_readHour_31 rfl (lv_at hl 0 rfl) ?_
    exact k_iret hx hb hr hlk hP hS dX1_readHour_32 rfl rfl (k_P (by simp only [t_hour]; first | rw [if_pos (show t_hourR T < 24 from c_23_0)] | rw [if_neg (show ¬ t_hourR T < 24 from c_23_0)]))
  · have c_23_0 : ¬ ((10 * (t_dgtR T)) + (t_dgtR (t_dgt T))) < 24 := c_23_0
    refine lv_aload_n hx hb dX1_readHour_26 rfl (lv_at hl 2 rfl) ?_
    refine lv_iload_n hx hb dX1_readHour_27 rfl (lv_at hl 1 rfl) ?_
    refine k_callv (a := []) (z := []) (wc := txW q cI (t_dgt (t_dgt T))) (wc' := txW q cI (t_fail (t_dgt (t_dgt T)) (T.1 2))) (w' := txW q cI (t_fail (t_dgt (t_dgt T)) (T.1 2))) (va_runV (As := [.int (T.1 2)]) (rest := []) ⟨hx, hb, hml, hown, hts⟩ (c_X1_fail l D q cI cJ (t_dgt (t_dgt T)) (T.1 2) _) (cwV 1 hts gX1_readHour_X1_fail rfl rfl rfl (by decide +kernel) ⟨Nat.le_of_ble_eq_true rfl, Nat.le_of_ble_eq_true rfl⟩) ⟨kB_blind, va_recv hK hP (ci := 1) (q0 := 0) rfl rfl, k_pre (a := []) (z := []) (k_w0 _) hK hP hD⟩ rfl rfl hl.1 rfl (lv_room (Nat.le_of_ble_eq_true rfl)) dX1_readHour_28 ⟨Nat.zero_le _, Nat.zero_le _⟩) (k_w0 _) (k_w0 _) (txW_ad _ _ _ _) hP hD hS hA (fun H locs hP hD hS => ?_)
    refine lv_iload_n hx hb dX1_readHour_31 rfl (lv_at hl 0 rfl) ?_
    exact k_iret hx hb hr hlk hP hS dX1_readHour_32 rfl rfl (k_P (by simp only [t_hour]; first | rw [if_pos (show t_hourR T < 24 from c_23_0)] | rw [if_neg (show ¬ t_hourR T < 24 from c_23_0)]))

set_option maxHeartbeats 1000000 in
set_option maxRecDepth 100000 in
theorem c_X1_readNumber (l : Launch) (D : va_G) (q : Nat → Nat) (cI cJ : ClassId) (T : TS) (w lo hi : Int32) (dd : Nat) (hw : w.toNatClampNeg = dd) : kI l yX1_readNumber wsX1_readNumber ({ frames := 2, cells := 0, slots := 0, locals := 41 } : Room) D [(cI, .int), (cJ, .long)] [.ref (q 0), .int w, .int lo, .int hi] (txW q cI T) (t_numR T dd) (txW q cI (t_num T dd lo hi)) := by
  refine kBody.met (cc := cX1_readNumber) (maxL := 7) (ret := (some .int)) (by decide) rfl (Nat.le_of_ble_eq_true rfl) ?_
  intro p9 e9 s9 m9 below meth c9 A9 ls hx hb hr hml hts hown hlk hK hP hD hA hl
  have hown : s9.vm.findClass RX1 = some m9.cls := hown
  have inX1 : ∀ w ∈ wsX10, w ∈ wsX1_readNumber := fun w h => List.mem_cons_of_mem _ (List.mem_append_right _ (h))
  have hS : va_S A9 s9.heap s9.heap [] := va_S.rf
  have hl : lv_has ls 7 [(0, .ref (q 0)), (1, .int w), (2, .int lo), (3, .int hi)] := hl
  refine lv_aload_n hx hb dX1_readNumber_0 rfl (lv_at hl 0 rfl) ?_
  refine va_get (D := D) (ci := 1) (v := .int (T.1 2)) (C := RX1) (T := TX1) (N := 6) hx hb hts inX1 hown hK hP 0 rfl rfl 4 (by decide) (hts (.fieldLink RX1 22 "PumpOaths$OrderText" "at" "I") (List.mem_of_getElem? (i := 1) rfl)) (fun _ h9 => h9) rfl dX1_readNumber_1 ?_
  refine lv_istore (lv' := [(4, .int (T.1 2)), (0, .ref (q 0)), (1, .int w), (2, .int lo), (3, .int hi)]) hx hb dX1_readNumber_4 hl (by decide) rfl (fun ls hl => ?_)
  refine lv_iconst (v := 0) hx hb dX1_readNumber_6 (by decide) ?_
  refine lv_istore (lv' := [(5, .int 0), (4, .int (T.1 2)), (0, .ref (q 0)), (1, .int w), (2, .int lo), (3, .int hi)]) hx hb dX1_readNumber_7 hl (by decide) rfl (fun ls hl => ?_)
  refine lv_iconst (v := 0) hx hb dX1_readNumber_9 (by decide) ?_
  refine lv_istore (lv' := [(6, .int 0), (5, .int 0), (4, .int (T.1 2)), (0, .ref (q 0)), (1, .int w), (2, .int lo), (3, .int hi)]) hx hb dX1_readNumber_10 hl (by decide) rfl (fun ls hl => ?_)
  have L_12_0 : ∀ (d : Nat) (k : Nat) (U : TS) (x : Int32), w.toNatClampNeg < k + d → k ≤ w.toNatClampNeg → ∀  (e12 : itr t_numB k (T, 0) = (U, x)) (H : Heap) (locs : List Loc) (ls : Array Slot), va_P D vwCl (txW q cI U) H → va_D A9 (txW q cI U) → va_S A9 s9.heap H locs → lv_has ls 7 [(0, .ref (q 0)), (1, .int w), (2, .int lo), (3, .int hi), (4, .int (T.1 2)), (5, .int x), (6, .int (nI k))] → W p9 l e9 ({ frames := 2, cells := 0, slots := 0, locals := 41 } : Room) s9 m9 (List.toArray [.ref (q 0), .int w, .int lo, .int hi]) below meth c9 H locs 0 0 (MQ below (va_Qi (fun r (_ : Unit) => r = (t_numR T dd)) (fun _ t9 => va_P D vwCl (txW q cI (t_num T dd lo hi)) t9.heap) A9) (List.toArray [.ref (q 0), .int w, .int lo, .int hi]) s9 0 0 A9) (F0 m9 12 ls []) := by
    intro d
    induction d with
    | zero =>
      intro k U x hf
      intro hkn; exact absurd hf (by omega)
    | succ d ih_12 =>
      intro k U x hf_12 hkn_12 e12 H locs ls hP hD hS hl
      refine lv_iload hx hb dX1_readNumber_12 (lv_at hl 6 rfl) ?_
      refine lv_iload_n hx hb dX1_readNumber_14 rfl (lv_at hl 1 rfl) ?_
      refine lv_icmp_ge (tgt := 56) hx hb dX1_readNumber_15 (by decide) (fun c_15_1 => ?_) (fun c_15_1 => ?_)
      · have c_15_1 : w ≤ (nI k) := c_15_1
        have eL : t_numL T w.toNatClampNeg = (U, x) := by rw [← k_exit c_15_1 hkn_12]; exact e12
        refine lv_aload_n hx hb dX1_readNumber_56 rfl (lv_at hl 0 rfl) ?_
        refine va_get (D := D) (ci := 1) (v := .int (U.1 2)) (C := RX1) (T := TX1) (N := 6) hx hb hts inX1 hown hK hP 0 rfl rfl 4 (by decide) (hts (.fieldLink RX1 22 "PumpOaths$OrderText" "at" "I") (List.mem_of_getElem? (i := 1) rfl)) (fun _ h9 => h9) rfl dX1_readNumber_57 ?_
        refine lv_iload hx hb dX1_readNumber_60 (lv_at hl 4 rfl) ?_
        refine lv_icmp_eq (tgt := 72) hx hb dX1_readNumber_62 (by decide) (fun c_62_2 => ?_) (fun c_62_2 => ?_)
        · have c_62_2 : (U.1 2) = (T.1 2) := c_62_2
          refine lv_aload_n hx hb dX1_readNumber_72 rfl (lv_at hl 0 rfl) ?_
          refine lv_aload_n hx hb dX1_readNumber_73 rfl (lv_at hl 0 rfl) ?_
          refine va_get (D := D) (ci := 1) (v := .int (U.1 2)) (C := RX1) (T := TX1) (N := 6) hx hb hts inX1 hown hK hP 0 rfl rfl 4 (by decide) (hts (.fieldLink RX1 22 "PumpOaths$OrderText" "at" "I") (List.mem_of_getElem? (i := 1) rfl)) (fun _ h9 => h9) rfl dX1_readNumber_74 ?_
          refine k_callv (a := []) (z := []) (wc := txW q cI U) (wc' := txW q cI (t_fail U (U.1 2))) (w' := txW q cI (t_fail U (U.1 2))) (va_runV (As := [.int (U.1 2)]) (rest := []) ⟨hx, hb, hml, hown, hts⟩ (c_X1_fail l D q cI cJ U (U.1 2) _) (cwV 1 hts gX1_readNumber_X1_fail rfl rfl rfl (by decide +kernel) ⟨Nat.le_of_ble_eq_true rfl, Nat.le_of_ble_eq_true rfl⟩) ⟨kB_blind, va_recv hK hP (ci := 1) (q0 := 0) rfl rfl, k_pre (a := []) (z := []) (k_w0 _) hK hP hD⟩ rfl rfl hl.1 rfl (lv_room (Nat.le_of_ble_eq_true rfl)) dX1_readNumber_77 ⟨Nat.zero_le _, Nat.zero_le _⟩) (k_w0 _) (k_w0 _) (txW_ad _ _ _ _) hP hD hS hA (fun H locs hP hD hS => ?_)
          refine lv_iload hx hb dX1_readNumber_80 (lv_at hl 5 rfl) ?_
          refine lv_iload_n hx hb dX1_readNumber_82 rfl (lv_at hl 2 rfl) ?_
          refine lv_icmp_lt (tgt := 92) hx hb dX1_readNumber_83 (by decide) (fun c_83_3 => ?_) (fun c_83_3 => ?_)
          · have c_83_3 : x < lo := c_83_3
            refine lv_aload_n hx hb dX1_readNumber_92 rfl (lv_at hl 0 rfl) ?_
            refine lv_iload hx hb dX1_readNumber_93 (lv_at hl 4 rfl) ?_
            refine k_callv (a := []) (z := []) (wc := txW q cI (t_fail U (U.1 2))) (wc' := txW q cI (t_fail (t_fail U (U.1 2)) (T.1 2))) (w' := txW q cI (t_fail (t_fail U (U.1 2)) (T.1 2))) (va_runV (As := [.int (T.1 2)]) (rest := []) ⟨hx, hb, hml, hown, hts⟩ (c_X1_fail l D q cI cJ (t_fail U (U.1 2)) (T.1 2) _) (cwV 1 hts gX1_readNumber_X1_fail rfl rfl rfl (by decide +kernel) ⟨Nat.le_of_ble_eq_true rfl, Nat.le_of_ble_eq_true rfl⟩) ⟨kB_blind, va_recv hK hP (ci := 1) (q0 := 0) rfl rfl, k_pre (a := []) (z := []) (k_w0 _) hK hP hD⟩ rfl rfl hl.1 rfl (lv_room (Nat.le_of_ble_eq_true rfl)) dX1_readNumber_95 ⟨Nat.zero_le _, Nat.zero_le _⟩) (k_w0 _) (k_w0 _) (txW_ad _ _ _ _) hP hD hS hA (fun H locs hP hD hS => ?_)
            refine lv_iload hx hb dX1_readNumber_98 (lv_at hl 5 rfl) ?_
            exact k_iret hx hb hr hlk hP hS dX1_readNumber_100 rfl (by rw [← hw, t_numR, eL]) (k_P (by rw [← hw]; simp [t_num, t_numR, eL, t_num2, t_num3, c_15_1, c_62_2, c_83_3]))
          · have c_83_3 : ¬ x < lo := c_83_3
            refine lv_iload hx hb dX1_readNumber_86 (lv_at hl 5 rfl) ?_
            refine lv_iload_n hx hb dX1_readNumber_88 rfl (lv_at hl 3 rfl) ?_
            refine lv_icmp_le (tgt := 98) hx hb dX1_readNumber_89 (by decide) (fun c_89_4 => ?_) (fun c_89_4 => ?_)
            · have c_89_4 : x ≤ hi := c_89_4
              refine lv_iload hx hb dX1_readNumber_98 (lv_at hl 5 rfl) ?_
              exact k_iret hx hb hr hlk hP hS dX1_readNumber_100 rfl (by rw [← hw, t_numR, eL]) (k_P (by rw [← hw]; simp [t_num, t_numR, eL, t_num2, t_num3, c_15_1, c_62_2, c_83_3, c_89_4]))
            · have c_89_4 : ¬ x ≤ hi := c_89_4
              refine lv_aload_n hx hb dX1_readNumber_92 rfl (lv_at hl 0 rfl) ?_
              refine lv_iload hx hb dX1_readNumber_93 (lv_at hl 4 rfl) ?_
              refine k_callv (a := []) (z := []) (wc := txW q cI (t_fail U (U.1 2))) (wc' := txW q cI (t_fail (t_fail U (U.1 2)) (T.1 2))) (w' := txW q cI (t_fail (t_fail U (U.1 2)) (T.1 2))) (va_runV (As := [.int (T.1 2)]) (rest := []) ⟨hx, hb, hml, hown, hts⟩ (c_X1_fail l D q cI cJ (t_fail U (U.1 2)) (T.1 2) _) (cwV 1 hts gX1_readNumber_X1_fail rfl rfl rfl (by decide +kernel) ⟨Nat.le_of_ble_eq_true rfl, Nat.le_of_ble_eq_true rfl⟩) ⟨kB_blind, va_recv hK hP (ci := 1) (q0 := 0) rfl rfl, k_pre (a := []) (z := []) (k_w0 _) hK hP hD⟩ rfl rfl hl.1 rfl (lv_room (Nat.le_of_ble_eq_true rfl)) dX1_readNumber_95 ⟨Nat.zero_le _, Nat.zero_le _⟩) (k_w0 _) (k_w0 _) (txW_ad _ _ _ _) hP hD hS hA (fun H locs hP hD hS => ?_)
              refine lv_iload hx hb dX1_readNumber_98 (lv_at hl 5 rfl) ?_
              exact k_iret hx hb hr hlk hP hS dX1_readNumber_100 rfl (by rw [← hw, t_numR, eL]) (k_P (by rw [← hw]; simp [t_num, t_numR, eL, t_num2, t_num3, c_15_1, c_62_2, c_83_3, c_89_4]))
        · have c_62_2 : ¬ (U.1 2) = (T.1 2) := c_62_2
          refine lv_aload_n hx hb dX1_readNumber_65 rfl (lv_at hl 0 rfl) ?_
          refine k_calli (a := []) (z := []) (wc := txW q cI U) (wc' := txW q cI U) (w' := txW q cI U) (va_runV (As := []) (rest := []) ⟨hx, hb, hml, hown, hts⟩ (c_X1_isAtDigit l D q cI cJ U  _) (cwV 0 hts gX1_readNumber_X1_isAtDigit rfl rfl rfl (by decide +kernel) ⟨Nat.le_of_ble_eq_true rfl, Nat.le_of_ble_eq_true rfl⟩) ⟨kB_blind, va_recv hK hP (ci := 1) (q0 := 0) rfl rfl, k_pre (a := []) (z := []) (k_w0 _) hK hP hD⟩ rfl rfl hl.1 rfl (lv_room (Nat.le_of_ble_eq_true rfl)) dX1_readNumber_66 ⟨Nat.zero_le _, Nat.zero_le _⟩) (k_w0 _) (k_w0 _) (txW_ad _ _ _ _) hP hD hS hA (fun H locs hP hD hS => ?_)
          refine lv_if_eq (tgt := 80) hx hb dX1_readNumber_69 (by decide) (fun c_69_5 => ?_) (fun c_69_5 => ?_)
          · have c_69_5 : (t_dig U) = false := bi_0.mp c_69_5
            refine lv_iload hx hb dX1_readNumber_80 (lv_at hl 5 rfl) ?_
            refine lv_iload_n hx hb dX1_readNumber_82 rfl (lv_at hl 2 rfl) ?_
            refine lv_icmp_lt (tgt := 92) hx hb dX1_readNumber_83 (by decide) (fun c_83_6 => ?_) (fun c_83_6 => ?_)
            · have c_83_6 : x < lo := c_83_6
              refine lv_aload_n hx hb dX1_readNumber_92 rfl (lv_at hl 0 rfl) ?_
              refine lv_iload hx hb dX1_readNumber_93 (lv_at hl 4 rfl) ?_
              refine k_callv (a := []) (z := []) (wc := txW q cI U) (wc' := txW q cI (t_fail U (T.1 2))) (w' := txW q cI (t_fail U (T.1 2))) (va_runV (As := [.int (T.1 2)]) (rest := []) ⟨hx, hb, hml, hown, hts⟩ (c_X1_fail l D q cI cJ U (T.1 2) _) (cwV 1 hts gX1_readNumber_X1_fail rfl rfl rfl (by decide +kernel) ⟨Nat.le_of_ble_eq_true rfl, Nat.le_of_ble_eq_true rfl⟩) ⟨kB_blind, va_recv hK hP (ci := 1) (q0 := 0) rfl rfl, k_pre (a := []) (z := []) (k_w0 _) hK hP hD⟩ rfl rfl hl.1 rfl (lv_room (Nat.le_of_ble_eq_true rfl)) dX1_readNumber_95 ⟨Nat.zero_le _, Nat.zero_le _⟩) (k_w0 _) (k_w0 _) (txW_ad _ _ _ _) hP hD hS hA (fun H locs hP hD hS => ?_)
              refine lv_iload hx hb dX1_readNumber_98 (lv_at hl 5 rfl) ?_
              exact k_iret hx hb hr hlk hP hS dX1_readNumber_100 rfl (by rw [← hw, t_numR, eL]) (k_P (by rw [← hw]; simp [t_num, t_numR, eL, t_num2, t_num3, c_15_1, c_62_2, c_69_5, c_83_6]))
            · have c_83_6 : ¬ x < lo := c_83_6
              refine lv_iload hx hb dX1_readNumber_86 (lv_at hl 5 rfl) ?_
              refine lv_iload_n hx hb dX1_readNumber_88 rfl (lv_at hl 3 rfl) ?_
              refine lv_icmp_le (tgt := 98) hx hb dX1_readNumber_89 (by decide) (fun c_89_7 => ?_) (fun c_89_7 => ?_)
              · have c_89_7 : x ≤ hi := c_89_7
                refine lv_iload hx hb dX1_readNumber_98 (lv_at hl 5 rfl) ?_
                exact k_iret hx hb hr hlk hP hS dX1_readNumber_100 rfl (by rw [← hw, t_numR, eL]) (k_P (by rw [← hw]; simp [t_num, t_numR, eL, t_num2, t_num3, c_15_1, c_62_2, c_69_5, c_83_6, c_89_7]))
              · have c_89_7 : ¬ x ≤ hi := c_89_7
                refine lv_aload_n hx hb dX1_readNumber_92 rfl (lv_at hl 0 rfl) ?_
                refine lv_iload hx hb dX1_readNumber_93 (lv_at hl 4 rfl) ?_
                refine k_callv (a := []) (z := []) (wc := txW q cI U) (wc' := txW q cI (t_fail U (T.1 2))) (w' := txW q cI (t_fail U (T.1 2))) (va_runV (As := [.int (T.1 2)]) (rest := []) ⟨hx, hb, hml, hown, hts⟩ (c_X1_fail l D q cI cJ U (T.1 2) _) (cwV 1 hts gX1_readNumber_X1_fail rfl rfl rfl (by decide +kernel) ⟨Nat.le_of_ble_eq_true rfl, Nat.le_of_ble_eq_true rfl⟩) ⟨kB_blind, va_recv hK hP (ci := 1) (q0 := 0) rfl rfl, k_pre (a := []) (z := []) (k_w0 _) hK hP hD⟩ rfl rfl hl.1 rfl (lv_room (Nat.le_of_ble_eq_true rfl)) dX1_readNumber_95 ⟨Nat.zero_le _, Nat.zero_le _⟩) (k_w0 _) (k_w0 _) (txW_ad _ _ _ _) hP hD hS hA (fun H locs hP hD hS => ?_)
                refine lv_iload hx hb dX1_readNumber_98 (lv_at hl 5 rfl) ?_
                exact k_iret hx hb hr hlk hP hS dX1_readNumber_100 rfl (by rw [← hw, t_numR, eL]) (k_P (by rw [← hw]; simp [t_num, t_numR, eL, t_num2, t_num3, c_15_1, c_62_2, c_69_5, c_83_6, c_89_7]))
          · have c_69_5 : (t_dig U) = true := bi_n.mp c_69_5
            refine lv_aload_n hx hb dX1_readNumber_72 rfl (lv_at hl 0 rfl) ?_
            refine lv_aload_n hx hb dX1_readNumber_73 rfl (lv_at hl 0 rfl) ?_
            refine va_get (D := D) (ci := 1) (v := .int (U.1 2)) (C := RX1) (T := TX1) (N := 6) hx hb hts inX1 hown hK hP 0 rfl rfl 4 (by decide) (hts (.fieldLink RX1 22 "PumpOaths$OrderText" "at" "I") (List.mem_of_getElem? (i := 1) rfl)) (fun _ h9 => h9) rfl dX1_readNumber_74 ?_
            refine k_callv (a := []) (z := []) (wc := txW q cI U) (wc' := txW q cI (t_fail U (U.1 2))) (w' := txW q cI (t_fail U (U.1 2))) (va_runV (As := [.int (U.1 2)]) (rest := []) ⟨hx, hb, hml, hown, hts⟩ (c_X1_fail l D q cI cJ U (U.1 2) _) (cwV 1 hts gX1_readNumber_X1_fail rfl rfl rfl (by decide +kernel) ⟨Nat.le_of_ble_eq_true rfl, Nat.le_of_ble_eq_true rfl⟩) ⟨kB_blind, va_recv hK hP (ci := 1) (q0 := 0) rfl rfl, k_pre (a := []) (z := []) (k_w0 _) hK hP hD⟩ rfl rfl hl.1 rfl (lv_room (Nat.le_of_ble_eq_true rfl)) dX1_readNumber_77 ⟨Nat.zero_le _, Nat.zero_le _⟩) (k_w0 _) (k_w0 _) (txW_ad _ _ _ _) hP hD hS hA (fun H locs hP hD hS => ?_)
            refine lv_iload hx hb dX1_readNumber_80 (lv_at hl 5 rfl) ?_
            refine lv_iload_n hx hb dX1_readNumber_82 rfl (lv_at hl 2 rfl) ?_
            refine lv_icmp_lt (tgt := 92) hx hb dX1_readNumber_83 (by decide) (fun c_83_8 => ?_) (fun c_83_8 => ?_)
            · have c_83_8 : x < lo := c_83_8
              refine lv_aload_n hx hb dX1_readNumber_92 rfl (lv_at hl 0 rfl) ?_
              refine lv_iload hx hb dX1_readNumber_93 (lv_at hl 4 rfl) ?_
              refine k_callv (a := []) (z := []) (wc := txW q cI (t_fail U (U.1 2))) (wc' := txW q cI (t_fail (t_fail U (U.1 2)) (T.1 2))) (w' := txW q cI (t_fail (t_fail U (U.1 2)) (T.1 2))) (va_runV (As := [.int (T.1 2)]) (rest := []) ⟨hx, hb, hml, hown, hts⟩ (c_X1_fail l D q cI cJ (t_fail U (U.1 2)) (T.1 2) _) (cwV 1 hts gX1_readNumber_X1_fail rfl rfl rfl (by decide +kernel) ⟨Nat.le_of_ble_eq_true rfl, Nat.le_of_ble_eq_true rfl⟩) ⟨kB_blind, va_recv hK hP (ci := 1) (q0 := 0) rfl rfl, k_pre (a := []) (z := []) (k_w0 _) hK hP hD⟩ rfl rfl hl.1 rfl (lv_room (Nat.le_of_ble_eq_true rfl)) dX1_readNumber_95 ⟨Nat.zero_le _, Nat.zero_le _⟩) (k_w0 _) (k_w0 _) (txW_ad _ _ _ _) hP hD hS hA (fun H locs hP hD hS => ?_)
              refine lv_iload hx hb dX1_readNumber_98 (lv_at hl 5 rfl) ?_
              exact k_iret hx hb hr hlk hP hS dX1_readNumber_100 rfl (by rw [← hw, t_numR, eL]) (k_P (by rw [← hw]; simp [t_num, t_numR, eL, t_num2, t_num3, c_15_1, c_62_2, c_69_5, c_83_8]))
            · have c_83_8 : ¬ x < lo := c_83_8
              refine lv_iload hx hb dX1_readNumber_86 (lv_at hl 5 rfl) ?_
              refine lv_iload_n hx hb dX1_readNumber_88 rfl (lv_at hl 3 rfl) ?_
              refine lv_icmp_le (tgt := 98) hx hb dX1_readNumber_89 (by decide) (fun c_89_9 => ?_) (fun c_89_9 => ?_)
              · have c_89_9 : x ≤ hi := c_89_9
                refine lv_iload hx hb dX1_readNumber_98 (lv_at hl 5 rfl) ?_
                exact k_iret hx hb hr hlk hP hS dX1_readNumber_100 rfl (by rw [← hw, t_numR, eL]) (k_P (by rw [← hw]; simp [t_num, t_numR, eL, t_num2, t_num3, c_15_1, c_62_2, c_69_5, c_83_8, c_89_9]))
              · have c_89_9 : ¬ x ≤ hi := c_89_9
                refine lv_aload_n hx hb dX1_readNumber_92 rfl (lv_at hl 0 rfl) ?_
                refine lv_iload hx hb dX1_readNumber_93 (lv_at hl 4 rfl) ?_
                refine k_callv (a := []) (z := []) (wc := txW q cI (t_fail U (U.1 2))) (wc' := txW q cI (t_fail (t_fail U (U.1 2)) (T.1 2))) (w' := txW q cI (t_fail (t_fail U (U.1 2)) (T.1 2))) (va_runV (As := [.int (T.1 2)]) (rest := []) ⟨hx, hb, hml, hown, hts⟩ (c_X1_fail l D q cI cJ (t_fail U (U.1 2)) (T.1 2) _) (cwV 1 hts gX1_readNumber_X1_fail rfl rfl rfl (by decide +kernel) ⟨Nat.le_of_ble_eq_true rfl, Nat.le_of_ble_eq_true rfl⟩) ⟨kB_blind, va_recv hK hP (ci := 1) (q0 := 0) rfl rfl, k_pre (a := []) (z := []) (k_w0 _) hK hP hD⟩ rfl rfl hl.1 rfl (lv_room (Nat.le_of_ble_eq_true rfl)) dX1_readNumber_95 ⟨Nat.zero_le _, Nat.zero_le _⟩) (k_w0 _) (k_w0 _) (txW_ad _ _ _ _) hP hD hS hA (fun H locs hP hD hS => ?_)
                refine lv_iload hx hb dX1_readNumber_98 (lv_at hl 5 rfl) ?_
                exact k_iret hx hb hr hlk hP hS dX1_readNumber_100 rfl (by rw [← hw, t_numR, eL]) (k_P (by rw [← hw]; simp [t_num, t_numR, eL, t_num2, t_num3, c_15_1, c_62_2, c_69_5, c_83_8, c_89_9]))
      · have c_15_1 : ¬ w ≤ (nI k) := c_15_1
        have hkl_12 : k < w.toNatClampNeg := k_body c_15_1 hkn_12
        refine lv_aload_n hx hb dX1_readNumber_18 rfl (lv_at hl 0 rfl) ?_
        refine k_calli (a := []) (z := []) (wc := txW q cI U) (wc' := txW q cI U) (w' := txW q cI U) (va_runV (As := []) (rest := []) ⟨hx, hb, hml, hown, hts⟩ (c_X1_isAtDigit l D q cI cJ U  _) (cwV 0 hts gX1_readNumber_X1_isAtDigit rfl rfl rfl (by decide +kernel) ⟨Nat.le_of_ble_eq_true rfl, Nat.le_of_ble_eq_true rfl⟩) ⟨kB_blind, va_recv hK hP (ci := 1) (q0 := 0) rfl rfl, k_pre (a := []) (z := []) (k_w0 _) hK hP hD⟩ rfl rfl hl.1 rfl (lv_room (Nat.le_of_ble_eq_true rfl)) dX1_readNumber_19 ⟨Nat.zero_le _, Nat.zero_le _⟩) (k_w0 _) (k_w0 _) (txW_ad _ _ _ _) hP hD hS hA (fun H locs hP hD hS => ?_)
        refine lv_if_eq (tgt := 56) hx hb dX1_readNumber_22 (by decide) (fun c_22_10 => ?_) (fun c_22_10 => ?_)
        · have c_22_10 : (t_dig U) = false := bi_0.mp c_22_10
          have eL : t_numL T w.toNatClampNeg = (U, x) := itr_stop e12 (fun j => by simp [t_numB, c_22_10]) _ hkn_12
          refine lv_aload_n hx hb dX1_readNumber_56 rfl (lv_at hl 0 rfl) ?_
          refine va_get (D := D) (ci := 1) (v := .int (U.1 2)) (C := RX1) (T := TX1) (N := 6) hx hb hts inX1 hown hK hP 0 rfl rfl 4 (by decide) (hts (.fieldLink RX1 22 "PumpOaths$OrderText" "at" "I") (List.mem_of_getElem? (i := 1) rfl)) (fun _ h9 => h9) rfl dX1_readNumber_57 ?_
          refine lv_iload hx hb dX1_readNumber_60 (lv_at hl 4 rfl) ?_
          refine lv_icmp_eq (tgt := 72) hx hb dX1_readNumber_62 (by decide) (fun c_62_11 => ?_) (fun c_62_11 => ?_)
          · have c_62_11 : (U.1 2) = (T.1 2) := c_62_11
            refine lv_aload_n hx hb dX1_readNumber_72 rfl (lv_at hl 0 rfl) ?_
            refine lv_aload_n hx hb dX1_readNumber_73 rfl (lv_at hl 0 rfl) ?_
            refine va_get (D := D) (ci := 1) (v := .int (U.1 2)) (C := RX1) (T := TX1) (N := 6) hx hb hts inX1 hown hK hP 0 rfl rfl 4 (by decide) (hts (.fieldLink RX1 22 "PumpOaths$OrderText" "at" "I") (List.mem_of_getElem? (i := 1) rfl)) (fun _ h9 => h9) rfl dX1_readNumber_74 ?_
            refine k_callv (a := []) (z := []) (wc := txW q cI U) (wc' := txW q cI (t_fail U (U.1 2))) (w' := txW q cI (t_fail U (U.1 2))) (va_runV (As := [.int (U.1 2)]) (rest := []) ⟨hx, hb, hml, hown, hts⟩ (c_X1_fail l D q cI cJ U (U.1 2) _) (cwV 1 hts gX1_readNumber_X1_fail rfl rfl rfl (by decide +kernel) ⟨Nat.le_of_ble_eq_true rfl, Nat.le_of_ble_eq_true rfl⟩) ⟨kB_blind, va_recv hK hP (ci := 1) (q0 := 0) rfl rfl, k_pre (a := []) (z := []) (k_w0 _) hK hP hD⟩ rfl rfl hl.1 rfl (lv_room (Nat.le_of_ble_eq_true rfl)) dX1_readNumber_77 ⟨Nat.zero_le _, Nat.zero_le _⟩) (k_w0 _) (k_w0 _) (txW_ad _ _ _ _) hP hD hS hA (fun H locs hP hD hS => ?_)
            refine lv_iload hx hb dX1_readNumber_80 (lv_at hl 5 rfl) ?_
            refine lv_iload_n hx hb dX1_readNumber_82 rfl (lv_at hl 2 rfl) ?_
            refine lv_icmp_lt (tgt := 92) hx hb dX1_readNumber_83 (by decide) (fun c_83_12 => ?_) (fun c_83_12 => ?_)
            · have c_83_12 : x < lo := c_83_12
              refine lv_aload_n hx hb dX1_readNumber_92 rfl (lv_at hl 0 rfl) ?_
              refine lv_iload hx hb dX1_readNumber_93 (lv_at hl 4 rfl) ?_
              refine k_callv (a := []) (z := []) (wc := txW q cI (t_fail U (U.1 2))) (wc' := txW q cI (t_fail (t_fail U (U.1 2)) (T.1 2))) (w' := txW q cI (t_fail (t_fail U (U.1 2)) (T.1 2))) (va_runV (As := [.int (T.1 2)]) (rest := []) ⟨hx, hb, hml, hown, hts⟩ (c_X1_fail l D q cI cJ (t_fail U (U.1 2)) (T.1 2) _) (cwV 1 hts gX1_readNumber_X1_fail rfl rfl rfl (by decide +kernel) ⟨Nat.le_of_ble_eq_true rfl, Nat.le_of_ble_eq_true rfl⟩) ⟨kB_blind, va_recv hK hP (ci := 1) (q0 := 0) rfl rfl, k_pre (a := []) (z := []) (k_w0 _) hK hP hD⟩ rfl rfl hl.1 rfl (lv_room (Nat.le_of_ble_eq_true rfl)) dX1_readNumber_95 ⟨Nat.zero_le _, Nat.zero_le _⟩) (k_w0 _) (k_w0 _) (txW_ad _ _ _ _) hP hD hS hA (fun H locs hP hD hS => ?_)
              refine lv_iload hx hb dX1_readNumber_98 (lv_at hl 5 rfl) ?_
              exact k_iret hx hb hr hlk hP hS dX1_readNumber_100 rfl (by rw [← hw, t_numR, eL]) (k_P (by rw [← hw]; simp [t_num, t_numR, eL, t_num2, t_num3, c_15_1, c_22_10, c_62_11, c_83_12]))
            · have c_83_12 : ¬ x < lo := c_83_12
              refine lv_iload hx hb dX1_readNumber_86 (lv_at hl 5 rfl) ?_
              refine lv_iload_n hx hb dX1_readNumber_88 rfl (lv_at hl 3 rfl) ?_
              refine lv_icmp_le (tgt := 98) hx hb dX1_readNumber_89 (by decide) (fun c_89_13 => ?_) (fun c_89_13 => ?_)
              · have c_89_13 : x ≤ hi := c_89_13
                refine lv_iload hx hb dX1_readNumber_98 (lv_at hl 5 rfl) ?_
                exact k_iret hx hb hr hlk hP hS dX1_readNumber_100 rfl (by rw [← hw, t_numR, eL]) (k_P (by rw [← hw]; simp [t_num, t_numR, eL, t_num2, t_num3, c_15_1, c_22_10, c_62_11, c_83_12, c_89_13]))
              · have c_89_13 : ¬ x ≤ hi := c_89_13
                refine lv_aload_n hx hb dX1_readNumber_92 rfl (lv_at hl 0 rfl) ?_
                refine lv_iload hx hb dX1_readNumber_93 (lv_at hl 4 rfl) ?_
                refine k_callv (a := []) (z := []) (wc := txW q cI (t_fail U (U.1 2))) (wc' := txW q cI (t_fail (t_fail U (U.1 2)) (T.1 2))) (w' := txW q cI (t_fail (t_fail U (U.1 2)) (T.1 2))) (va_runV (As := [.int (T.1 2)]) (rest := []) ⟨hx, hb, hml, hown, hts⟩ (c_X1_fail l D q cI cJ (t_fail U (U.1 2)) (T.1 2) _) (cwV 1 hts gX1_readNumber_X1_fail rfl rfl rfl (by decide +kernel) ⟨Nat.le_of_ble_eq_true rfl, Nat.le_of_ble_eq_true rfl⟩) ⟨kB_blind, va_recv hK hP (ci := 1) (q0 := 0) rfl rfl, k_pre (a := []) (z := []) (k_w0 _) hK hP hD⟩ rfl rfl hl.1 rfl (lv_room (Nat.le_of_ble_eq_true rfl)) dX1_readNumber_95 ⟨Nat.zero_le _, Nat.zero_le _⟩) (k_w0 _) (k_w0 _) (txW_ad _ _ _ _) hP hD hS hA (fun H locs hP hD hS => ?_)
                refine lv_iload hx hb dX1_readNumber_98 (lv_at hl 5 rfl) ?_
                exact k_iret hx hb hr hlk hP hS dX1_readNumber_100 rfl (by rw [← hw, t_numR, eL]) (k_P (by rw [← hw]; simp [t_num, t_numR, eL, t_num2, t_num3, c_15_1, c_22_10, c_62_11, c_83_12, c_89_13]))
          · have c_62_11 : ¬ (U.1 2) = (T.1 2) := c_62_11
            refine lv_aload_n hx hb dX1_readNumber_65 rfl (lv_at hl 0 rfl) ?_
            refine k_calli (a := []) (z := []) (wc := txW q cI U) (wc' := txW q cI U) (w' := txW q cI U) (va_runV (As := []) (rest := []) ⟨hx, hb, hml, hown, hts⟩ (c_X1_isAtDigit l D q cI cJ U  _) (cwV 0 hts gX1_readNumber_X1_isAtDigit rfl rfl rfl (by decide +kernel) ⟨Nat.le_of_ble_eq_true rfl, Nat.le_of_ble_eq_true rfl⟩) ⟨kB_blind, va_recv hK hP (ci := 1) (q0 := 0) rfl rfl, k_pre (a := []) (z := []) (k_w0 _) hK hP hD⟩ rfl rfl hl.1 rfl (lv_room (Nat.le_of_ble_eq_true rfl)) dX1_readNumber_66 ⟨Nat.zero_le _, Nat.zero_le _⟩) (k_w0 _) (k_w0 _) (txW_ad _ _ _ _) hP hD hS hA (fun H locs hP hD hS => ?_)
            refine lv_if_eq (tgt := 80) hx hb dX1_readNumber_69 (by decide) (fun c_69_14 => ?_) (fun c_69_14 => ?_)
            · have c_69_14 : (t_dig U) = false := bi_0.mp c_69_14
              refine lv_iload hx hb dX1_readNumber_80 (lv_at hl 5 rfl) ?_
              refine lv_iload_n hx hb dX1_readNumber_82 rfl (lv_at hl 2 rfl) ?_
              refine lv_icmp_lt (tgt := 92) hx hb dX1_readNumber_83 (by decide) (fun c_83_15 => ?_) (fun c_83_15 => ?_)
              · have c_83_15 : x < lo := c_83_15
                refine lv_aload_n hx hb dX1_readNumber_92 rfl (lv_at hl 0 rfl) ?_
                refine lv_iload hx hb dX1_readNumber_93 (lv_at hl 4 rfl) ?_
                refine k_callv (a := []) (z := []) (wc := txW q cI U) (wc' := txW q cI (t_fail U (T.1 2))) (w' := txW q cI (t_fail U (T.1 2))) (va_runV (As := [.int (T.1 2)]) (rest := []) ⟨hx, hb, hml, hown, hts⟩ (c_X1_fail l D q cI cJ U (T.1 2) _) (cwV 1 hts gX1_readNumber_X1_fail rfl rfl rfl (by decide +kernel) ⟨Nat.le_of_ble_eq_true rfl, Nat.le_of_ble_eq_true rfl⟩) ⟨kB_blind, va_recv hK hP (ci := 1) (q0 := 0) rfl rfl, k_pre (a := []) (z := []) (k_w0 _) hK hP hD⟩ rfl rfl hl.1 rfl (lv_room (Nat.le_of_ble_eq_true rfl)) dX1_readNumber_95 ⟨Nat.zero_le _, Nat.zero_le _⟩) (k_w0 _) (k_w0 _) (txW_ad _ _ _ _) hP hD hS hA (fun H locs hP hD hS => ?_)
                refine lv_iload hx hb dX1_readNumber_98 (lv_at hl 5 rfl) ?_
                exact k_iret hx hb hr hlk hP hS dX1_readNumber_100 rfl (by rw [← hw, t_numR, eL]) (k_P (by rw [← hw]; simp [t_num, t_numR, eL, t_num2, t_num3, c_15_1, c_22_10, c_62_11, c_69_14, c_83_15]))
              · have c_83_15 : ¬ x < lo := c_83_15
                refine lv_iload hx hb dX1_readNumber_86 (lv_at hl 5 rfl) ?_
                refine lv_iload_n hx hb dX1_readNumber_88 rfl (lv_at hl 3 rfl) ?_
                refine lv_icmp_le (tgt := 98) hx hb dX1_readNumber_89 (by decide) (fun c_89_16 => ?_) (fun c_89_16 => ?_)
                · have c_89_16 : x ≤ hi := c_89_16
                  refine lv_iload hx hb dX1_readNumber_98 (lv_at hl 5 rfl) ?_
                  exact k_iret hx hb hr hlk hP hS dX1_readNumber_100 rfl (by rw [← hw, t_numR, eL]) (k_P (by rw [← hw]; simp [t_num, t_numR, eL, t_num2, t_num3, c_15_1, c_22_10, c_62_11, c_69_14, c_83_15, c_89_16]))
                · have c_89_16 : ¬ x ≤ hi := c_89_16
                  refine lv_aload_n hx hb dX1_readNumber_92 rfl (lv_at hl 0 rfl) ?_
                  refine lv_iload hx hb dX1_readNumber_93 (lv_at hl 4 rfl) ?_
                  refine k_callv (a := []) (z := []) (wc := txW q cI U) (wc' := txW q cI (t_fail U (T.1 2))) (w' := txW q cI (t_fail U (T.1 2))) (va_runV (As := [.int (T.1 2)]) (rest := []) ⟨hx, hb, hml, hown, hts⟩ (c_X1_fail l D q cI cJ U (T.1 2) _) (cwV 1 hts gX1_readNumber_X1_fail rfl rfl rfl (by decide +kernel) ⟨Nat.le_of_ble_eq_true rfl, Nat.le_of_ble_eq_true rfl⟩) ⟨kB_blind, va_recv hK hP (ci := 1) (q0 := 0) rfl rfl, k_pre (a := []) (z := []) (k_w0 _) hK hP hD⟩ rfl rfl hl.1 rfl (lv_room (Nat.le_of_ble_eq_true rfl)) dX1_readNumber_95 ⟨Nat.zero_le _, Nat.zero_le _⟩) (k_w0 _) (k_w0 _) (txW_ad _ _ _ _) hP hD hS hA (fun H locs hP hD hS => ?_)
                  refine lv_iload hx hb dX1_readNumber_98 (lv_at hl 5 rfl) ?_
                  exact k_iret hx hb hr hlk hP hS dX1_readNumber_100 rfl (by rw [← hw, t_numR, eL]) (k_P (by rw [← hw]; simp [t_num, t_numR, eL, t_num2, t_num3, c_15_1, c_22_10, c_62_11, c_69_14, c_83_15, c_89_16]))
            · have c_69_14 : (t_dig U) = true := bi_n.mp c_69_14
              exact absurd (c_22_10.symm.trans c_69_14) (by decide)
        · have c_22_10 : (t_dig U) = true := bi_n.mp c_22_10
          refine lv_bipush (v := 10) hx hb dX1_readNumber_25 (by decide) ?_
          refine lv_iload hx hb dX1_readNumber_27 (lv_at hl 5 rfl) ?_
          refine lv_imul hx hb dX1_readNumber_29 ?_
          refine lv_aload_n hx hb dX1_readNumber_30 rfl (lv_at hl 0 rfl) ?_
          refine k_calli (a := []) (z := []) (wc := txW q cI U) (wc' := txW q cI U) (w' := txW q cI U) (va_runV (As := []) (rest := [.int (10 * x)]) ⟨hx, hb, hml, hown, hts⟩ (c_X1_peek l D q cI cJ U  _) (cwV 0 hts gX1_readNumber_X1_peek rfl rfl rfl (by decide +kernel) ⟨Nat.le_of_ble_eq_true rfl, Nat.le_of_ble_eq_true rfl⟩) ⟨kB_blind, va_recv hK hP (ci := 1) (q0 := 0) rfl rfl, k_pre (a := []) (z := []) (k_w0 _) hK hP hD⟩ rfl rfl hl.1 rfl (lv_room (Nat.le_of_ble_eq_true rfl)) dX1_readNumber_31 ⟨Nat.zero_le _, Nat.zero_le _⟩) (k_w0 _) (k_w0 _) (txW_ad _ _ _ _) hP hD hS hA (fun H locs hP hD hS => ?_)
          refine lv_iadd hx hb dX1_readNumber_34 ?_
          refine lv_bipush (v := 48) hx hb dX1_readNumber_35 (by decide) ?_
          refine lv_isub hx hb dX1_readNumber_37 ?_
          refine lv_istore (lv' := [(5, .int (((10 * x) + (t_peek U)) - 48)), (0, .ref (q 0)), (1, .int w), (2, .int lo), (3, .int hi), (4, .int (T.1 2)), (6, .int (nI k))]) hx hb dX1_readNumber_38 hl (by decide) rfl (fun ls hl => ?_)
          refine lv_aload_n hx hb dX1_readNumber_40 rfl (lv_at hl 1 rfl) ?_
          refine lv_dup hx hb dX1_readNumber_41 rfl ?_
          refine va_get (D := D) (ci := 1) (v := .int (U.1 2)) (C := RX1) (T := TX1) (N := 6) hx hb hts inX1 hown hK hP 0 rfl rfl 4 (by decide) (hts (.fieldLink RX1 22 "PumpOaths$OrderText" "at" "I") (List.mem_of_getElem? (i := 1) rfl)) (fun _ h9 => h9) rfl dX1_readNumber_42 ?_
          refine lv_iconst (v := 1) hx hb dX1_readNumber_45 (by decide) ?_
          refine lv_iadd hx hb dX1_readNumber_46 ?_
          refine va_put (D := D) (ci := 1) (v := .int ((U.1 2) + 1)) (ty := .int) (C := RX1) (T := TX1) (N := 6) hx hb hts inX1 tyX1 tyX1_ok nmX1 hown hK hP hD hS 0 rfl rfl 4 (by decide) (hts (.fieldLink RX1 22 "PumpOaths$OrderText" "at" "I") (List.mem_of_getElem? (i := 1) rfl)) (fun _ h9 => h9) rfl (by decide +kernel) rfl rfl (Nat.le_of_ble_eq_true rfl) dX1_readNumber_47 (fun H locs hP hD hS => ?_)
          have hP : va_P D vwCl (txW q cI (t_setI U 2 ((U.1 2) + 1))) H := hP
          have hD : va_D A9 (txW q cI (t_setI U 2 ((U.1 2) + 1))) := hD
          refine lv_iinc (v := (nI k) + 1) (lv' := [(6, .int ((nI k) + 1)), (5, .int (((10 * x) + (t_peek U)) - 48)), (0, .ref (q 0)), (1, .int w), (2, .int lo), (3, .int hi), (4, .int (T.1 2))]) hx hb dX1_readNumber_50 hl (k := 6) rfl rfl (by decide) rfl (fun ls hl => ?_)
          refine lv_goto (tgt := 12) hx hb dX1_readNumber_53 (by decide) ?_
          rw [show ((nI k) + 1) = (nI (k + 1)) from nI_1 _] at hl
          exact ih_12 (k + 1) (t_setI U 2 ((U.1 2) + 1)) (((10 * x) + (t_peek U)) - 48) (by omega) (by omega) (by rw [itr_s, e12]; simp [t_numB, c_15_1, c_22_10]) _ _ _ hP hD hS (lv_sub hl [2, 3, 4, 5, 6, 1, 0] rfl)
  exact L_12_0 (w.toNatClampNeg + 1) 0 T 0 (by omega) (by omega) (rfl) _ _ _ hP hD hS (lv_sub hl [3, 4, 5, 6, 2, 1, 0] rfl)

set_option maxHeartbeats 1000000 in
set_option maxRecDepth 100000 in
theorem c_X1_keep (l : Launch) (D : va_G) (q : Nat → Nat) (cI cJ : ClassId) (T : TS) (o : Nat) (a b d : Int32) (ho : o < 34) : kV l yX1_keep wsX1_keep ({ frames := 0, cells := 0, slots := 0, locals := 0 } : Room) D [(cI, .int), (cJ, .long)] [.ref (q 0), .int (nI o), .int a, .int b, .int d] (txW q cI T) (txW q cI (t_keep T o a b d)) := by
  refine kBody.met (cc := cX1_keep) (maxL := 6) (ret := none) (by decide) rfl (Nat.le_of_ble_eq_true rfl) ?_
  intro p9 e9 s9 m9 below meth c9 A9 ls hx hb hr hml hts hown hlk hK hP hD hA hl
  have hown : s9.vm.findClass RX1 = some m9.cls := hown
  have inX1 : ∀ w ∈ wsX10, w ∈ wsX1_keep := fun w h => List.mem_cons_of_mem _ (List.mem_append_right _ (h))
  have hS : va_S A9 s9.heap s9.heap [] := va_S.rf
  have hl : lv_has ls 6 [(0, .ref (q 0)), (1, .int (nI o)), (2, .int a), (3, .int b), (4, .int d)] := hl
  refine lv_iload_n hx hb dX1_keep_0 rfl (lv_at hl 1 rfl) ?_
  refine lv_iconst (v := 3) hx hb dX1_keep_1 (by decide) ?_
  refine lv_imul hx hb dX1_keep_2 ?_
  refine lv_istore (lv' := [(5, .int ((nI o) * 3)), (0, .ref (q 0)), (1, .int (nI o)), (2, .int a), (3, .int b), (4, .int d)]) hx hb dX1_keep_3 hl (by decide) rfl (fun ls hl => ?_)
  refine lv_iload hx hb dX1_keep_5 (lv_at hl 0 rfl) ?_
  refine lv_if_lt (tgt := 53) hx hb dX1_keep_7 (by decide) (fun c_7_0 => ?_) (fun c_7_0 => ?_)
  · have c_7_0 : ((nI o) * 3) < 0 := c_7_0
    exact absurd (show nI o * 3 < 0 from c_7_0) (by rw [k_t30]; exact nI_pos (by omega)) -- done
  · have c_7_0 : ¬ ((nI o) * 3) < 0 := c_7_0
    refine lv_iload hx hb dX1_keep_10 (lv_at hl 0 rfl) ?_
    refine lv_iconst (v := 2) hx hb dX1_keep_12 (by decide) ?_
    refine lv_iadd hx hb dX1_keep_13 ?_
    refine lv_aload_n hx hb dX1_keep_14 rfl (lv_at hl 1 rfl) ?_
    refine va_get (D := D) (ci := 1) (v := .ref (q 2)) (C := RX1) (T := TX1) (N := 6) hx hb hts inX1 hown hK hP 0 rfl rfl 1 (by decide) (hts (.fieldLink RX1 15 "PumpOaths$OrderText" "parts" "[I") (List.mem_of_getElem? (i := 1) rfl)) (fun _ h9 => h9) rfl dX1_keep_15 ?_
    refine va_alen hx hb hK hP 2 0 rfl rfl (v := 102) rfl dX1_keep_18 ?_
    refine lv_icmp_ge (tgt := 53) hx hb dX1_keep_19 (by decide) (fun c_19_1 => ?_) (fun c_19_1 => ?_)
    · have c_19_1 : 102 ≤ (((nI o) * 3) + 2) := c_19_1
      exact absurd (show 102 ≤ nI o * 3 + nI 2 from c_19_1) (by rw [k_t3]; exact (show ¬ nI 102 ≤ nI (3 * o + 2) from nI_ge (by omega) (by decide))) -- done
    · have c_19_1 : ¬ 102 ≤ (((nI o) * 3) + 2) := c_19_1
      refine lv_aload_n hx hb dX1_keep_22 rfl (lv_at hl 1 rfl) ?_
      refine va_get (D := D) (ci := 1) (v := .ref (q 2)) (C := RX1) (T := TX1) (N := 6) hx hb hts inX1 hown hK hP 0 rfl rfl 1 (by decide) (hts (.fieldLink RX1 15 "PumpOaths$OrderText" "parts" "[I") (List.mem_of_getElem? (i := 1) rfl)) (fun _ h9 => h9) rfl dX1_keep_23 ?_
      refine lv_iload hx hb dX1_keep_26 (lv_at hl 0 rfl) ?_
      refine lv_iconst (v := 0) hx hb dX1_keep_28 (by decide) ?_
      refine lv_iadd hx hb dX1_keep_29 ?_
      refine lv_iload_n hx hb dX1_keep_30 rfl (lv_at hl 3 rfl) ?_
      refine va_iast (f := T.2 1) hx hb hK hP hD hS 2 0 rfl rfl (k_in (k := 3 * o) (show nI o * 3 + nI 0 = nI (3 * o) from k_t3 o 0) (by omega) (by decide)) dX1_keep_31 (fun H locs hP hD hS => ?_)
      rw [show (((nI o) * 3) + 0 : Int32).toNatClampNeg = 3 * o from k_cl (show nI o * 3 + nI 0 = nI (3 * o) from k_t3 o 0) (by omega)] at hP hD
      have hP : va_P D vwCl (txW q cI (t_setA T 1 (upd (T.2 1) (3 * o) a))) H := hP
      have hD : va_D A9 (txW q cI (t_setA T 1 (upd (T.2 1) (3 * o) a))) := hD
      refine lv_aload_n hx hb dX1_keep_32 rfl (lv_at hl 1 rfl) ?_
      refine va_get (D := D) (ci := 1) (v := .ref (q 2)) (C := RX1) (T := TX1) (N := 6) hx hb hts inX1 hown hK hP 0 rfl rfl 1 (by decide) (hts (.fieldLink RX1 15 "PumpOaths$OrderText" "parts" "[I") (List.mem_of_getElem? (i := 1) rfl)) (fun _ h9 => h9) rfl dX1_keep_33 ?_
      refine lv_iload hx hb dX1_keep_36 (lv_at hl 0 rfl) ?_
      refine lv_iconst (v := 1) hx hb dX1_keep_38 (by decide) ?_
      refine lv_iadd hx hb dX1_keep_39 ?_
      refine lv_iload_n hx hb dX1_keep_40 rfl (lv_at hl 4 rfl) ?_
      refine va_iast (f := upd (T.2 1) (3 * o) a) hx hb hK hP hD hS 2 0 rfl rfl (k_in (k := 3 * o + 1) (show nI o * 3 + nI 1 = nI (3 * o + 1) from k_t3 o 1) (by omega) (by decide)) dX1_keep_41 (fun H locs hP hD hS => ?_)
      rw [show (((nI o) * 3) + 1 : Int32).toNatClampNeg = 3 * o + 1 from k_cl (show nI o * 3 + nI 1 = nI (3 * o + 1) from k_t3 o 1) (by omega)] at hP hD
      have hP : va_P D vwCl (txW q cI (t_setA T 1 (upd (upd (T.2 1) (3 * o) a) (3 * o + 1) b))) H := hP
      have hD : va_D A9 (txW q cI (t_setA T 1 (upd (upd (T.2 1) (3 * o) a) (3 * o + 1) b))) := hD
      refine lv_aload_n hx hb dX1_keep_42 rfl (lv_at hl 1 rfl) ?_
      refine va_get (D := D) (ci := 1) (v := .ref (q 2)) (C := RX1) (T := TX1) (N := 6) hx hb hts inX1 hown hK hP 0 rfl rfl 1 (by decide) (hts (.fieldLink RX1 15 "PumpOaths$OrderText" "parts" "[I") (List.mem_of_getElem? (i := 1) rfl)) (fun _ h9 => h9) rfl dX1_keep_43 ?_
      refine lv_iload hx hb dX1_keep_46 (lv_at hl 0 rfl) ?_
      refine lv_iconst (v := 2) hx hb dX1_keep_48 (by decide) ?_
      refine lv_iadd hx hb dX1_keep_49 ?_
      refine lv_iload hx hb dX1_keep_50 (lv_at hl 5 rfl) ?_
      refine va_iast (f := upd (upd (T.2 1) (3 * o) a) (3 * o + 1) b) hx hb hK hP hD hS 2 0 rfl rfl (k_in (k := 3 * o + 2) (show nI o * 3 + nI 2 = nI (3 * o + 2) from k_t3 o 2) (by omega) (by decide)) dX1_keep_52 (fun H locs hP hD hS => ?_)
      rw [show (((nI o) * 3) + 2 : Int32).toNatClampNeg = 3 * o + 2 from k_cl (show nI o * 3 + nI 2 = nI (3 * o + 2) from k_t3 o 2) (by omega)] at hP hD
      have hP : va_P D vwCl (txW q cI (t_setA T 1 (upd (upd (upd (T.2 1) (3 * o) a) (3 * o + 1) b) (3 * o + 2) d))) H := hP
      have hD : va_D A9 (txW q cI (t_setA T 1 (upd (upd (upd (T.2 1) (3 * o) a) (3 * o + 1) b) (3 * o + 2) d))) := hD
      exact k_vret hx hb hr hlk hP hS dX1_keep_53 (k_P rfl)
