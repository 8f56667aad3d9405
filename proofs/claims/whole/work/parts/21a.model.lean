/-! THE MODEL: numbers 0 states 1 letters 2 thrown 3 at 4 wrong 5 number 6 orders; longs 0 now 1 tried 2 saved; rows 0 text 1 whats 2 firsts 3 seconds -/
abbrev MS : Type := (Nat → Int32) × (Nat → Nat → Int64) × (Nat → Nat → Int32)
def o_setI (M : MS) (k : Nat) (v : Int32) : MS := (upd M.1 k v, M.2)
def o_setV (M : MS) (j : Nat) (f : Nat → Int64) : MS := (M.1, (fun i => if i = j then f else M.2.1 i), M.2.2)
def o_setA (M : MS) (j : Nat) (f : Nat → Int32) : MS := (M.1, M.2.1, fun i => if i = j then f else M.2.2 i)
abbrev moW (q : Nat → Nat) (cI cJ : ClassId) (M : MS) : va_W :=
  [(q 0, .inr (5, [.ref (q 1), .ref (q 2), .ref (q 3), .int (M.1 0), .ref (q 4), .int (M.1 1), .int (M.1 2), .int (M.1 3), .int (M.1 4), .int (M.1 5), .int (M.1 6), .ref (q 5), .ref (q 6), .ref (q 7)])),
   (q 1, .inl (cJ, 138, .inr (.inl (M.2.1 0)))), (q 2, .inl (cJ, 138, .inr (.inl (M.2.1 1)))), (q 3, .inl (cJ, 552, .inr (.inl (M.2.1 2)))),
   (q 4, .inl (cI, 100, .inl (M.2.2 0))), (q 5, .inl (cI, 34, .inl (M.2.2 1))), (q 6, .inl (cI, 34, .inl (M.2.2 2))), (q 7, .inl (cI, 34, .inl (M.2.2 3)))]
theorem moW_ad (q : Nat → Nat) (cI cJ : ClassId) (M N : MS) : (moW q cI cJ M).map Prod.fst = (moW q cI cJ N).map Prod.fst := rfl
theorem bi_nt {b : Bool} (h : b = false) : ¬ b = true := by rw [h]; decide
theorem m_inI {x y z : Int32} (h : m_in x.toInt64 y.toInt64 z.toInt64 = true) : ¬ x < y ∧ ¬ z < x := by
  simp only [m_in, decide_eq_true_eq, Int64.lt_iff_toInt_lt, Int32.toInt_toInt64] at h
  simpa only [Int32.lt_iff_toInt_lt] using h
def m_isP (w : Nat → Int64) (x : Int32) : Bool := m_in x.toInt64 0 (w 7 - 1)
theorem m_isPg {z : Int64} {x : Int32} {n : Nat} (h : m_in x.toInt64 0 (z - 1) = true) (hn : z = lN n) (hn6 : n ≤ 1000) : x.toNatClampNeg < n ∧ nI x.toNatClampNeg = x := by
  simp only [m_in, decide_eq_true_eq, hn] at h
  obtain ⟨h1, h2⟩ := h
  have hx : ¬ x < 0 := by
    intro hh
    exact h1 (by rw [Int64.lt_iff_toInt_lt, Int32.toInt_toInt64]; simpa using Int32.lt_iff_toInt_lt.mp hh)
  obtain ⟨j, hj, rfl⟩ := nI_of hx
  rw [nI_clamp hj]
  refine ⟨?_, rfl⟩
  rw [nI_l hj, Int64.lt_iff_toInt_lt, pk_lT (by omega)] at h2
  rcases Nat.lt_or_ge j n with q | q
  · exact q
  · exfalso
    apply h2
    rcases Nat.eq_zero_or_pos n with z | z
    · subst z
      show (lN 0 - 1).toInt < _
      have : (lN 0 - 1 : Int64).toInt = -1 := by decide
      omega
    · rw [show (1 : Int64) = lN 1 from rfl, lN_sub z, pk_lT (by omega)]
      omega
theorem m_isPn {w : Nat → Int64} {x : Int32} {n : Nat} (h : m_isP w x = true) (hn : w 7 = lN n) (hn6 : n ≤ 6) : x.toNatClampNeg < n ∧ nI x.toNatClampNeg = x := m_isPg h hn (by omega)
def o_shB (k : Nat) (f : Nat → Int64) : Nat → Int64 := vp_updL f k (f (k + 138))
def o_sv1 (M : MS) : MS := if M.1 0 = 4 then o_setI (o_setV M 2 (itr o_shB 414 (M.2.1 2))) 0 (M.1 0 - 1) else M
def o_s1 (st : Nat) : Nat := if st = 4 then 3 else st
theorem o_s1_le {st : Nat} (h : st ≤ 4) : o_s1 st ≤ 3 := by unfold o_s1; split <;> omega
theorem o_sv1_0 {M : MS} {st : Nat} (hst : M.1 0 = nI st) (h : st ≤ 4) : (o_sv1 M).1 0 = nI (o_s1 st) := by
  unfold o_sv1 o_s1
  by_cases h4 : st = 4
  · subst h4
    rw [if_pos (by rw [hst]; rfl), if_pos rfl]
    show M.1 0 - 1 = _
    rw [hst]; rfl
  · rw [if_neg (by rw [hst]; exact fun e => h4 ((nI_eq (by omega) (by decide)).mp (show nI st = nI 4 from e))), if_neg h4]
    exact hst
def o_svB (s : Nat) (g : Nat → Int64) (k : Nat) (f : Nat → Int64) : Nat → Int64 := vp_updL f (138 * s + k) (g k)
def o_save (M : MS) (st : Nat) : MS := o_setI (o_setV (o_sv1 M) 2 (itr (o_svB (o_s1 st) ((o_sv1 M).2.1 0)) 138 ((o_sv1 M).2.1 2))) 0 ((o_sv1 M).1 0 + 1)
def o_puts (M : MS) (st k : Nat) (v : Int32) : MS := o_setV (o_save M st) 0 (vp_updL ((o_save M st).2.1 0) k v.toInt64)
def o_putsR (M : MS) (st k : Nat) : Int32 := ((o_save M st).2.1 0 k).toInt32

set_option maxHeartbeats 1000000 in
set_option maxRecDepth 100000 in
theorem c_X5_thrown (l : Launch) (D : va_G) (q : Nat → Nat) (cI cJ : ClassId) (M : MS)  : kI l yX5_thrown wsX5_thrown ({ frames := 0, cells := 0, slots := 0, locals := 0 } : Room) D [(cI, .int), (cJ, .long)] [.ref (q 0)] (moW q cI cJ M) (M.1 2) (moW q cI cJ M) := by
  refine kBody.met (cc := cX5_thrown) (maxL := 1) (ret := (some .int)) (by decide) rfl (Nat.le_of_ble_eq_true rfl) ?_
  intro p9 e9 s9 m9 below meth c9 A9 ls hx hb hr hml hts hown hlk hK hP hD hA hl
  have hown : s9.vm.findClass RX5 = some m9.cls := hown
  have inX5 : ∀ w ∈ wsX50, w ∈ wsX5_thrown := fun w h => List.mem_cons_of_mem _ (List.mem_append_right _ (h))
  have hS : va_S A9 s9.heap s9.heap [] := va_S.rf
  have hl : lv_has ls 1 [(0, .ref (q 0))] := hl
  refine lv_aload_n hx hb dX5_thrown_0 rfl (lv_at hl 0 rfl) ?_
  refine va_get (D := D) (ci := 5) (v := .int (M.1 2)) (C := RX5) (T := TX5) (N := 14) hx hb hts inX5 hown hK hP 0 rfl rfl 6 (by decide) (hts (.fieldLink RX5 44 "PumpOathsModel" "thrown" "I") (List.mem_of_getElem? (i := 1) rfl)) (fun _ h9 => h9) rfl dX5_thrown_1 ?_
  exact k_iret hx hb hr hlk hP hS dX5_thrown_4 rfl rfl (fun h => h)

set_option maxHeartbeats 1000000 in
set_option maxRecDepth 100000 in
theorem c_X5_goes1 (l : Launch) (D : va_G) (q : Nat → Nat) (cI cJ : ClassId) (M : MS) (y : Int32)  : kI l yX5_goes wsX5_goes ({ frames := 0, cells := 0, slots := 0, locals := 0 } : Room) D [(cI, .int), (cJ, .long)] [.ref (q 0), .int 1, .int y] (moW q cI cJ M) 0 (moW q cI cJ (o_setI M 2 1)) := by
  refine kBody.met (cc := cX5_goes) (maxL := 3) (ret := (some .boolean)) (by decide) rfl (Nat.le_of_ble_eq_true rfl) ?_
  intro p9 e9 s9 m9 below meth c9 A9 ls hx hb hr hml hts hown hlk hK hP hD hA hl
  have hown : s9.vm.findClass RX5 = some m9.cls := hown
  have inX5 : ∀ w ∈ wsX50, w ∈ wsX5_goes := fun w h => List.mem_cons_of_mem _ (List.mem_append_right _ (h))
  have hS : va_S A9 s9.heap s9.heap [] := va_S.rf
  have hl : lv_has ls 3 [(0, .ref (q 0)), (1, .int 1), (2, .int y)] := hl
  refine lv_aload_n hx hb dX5_goes_0 rfl (lv_at hl 0 rfl) ?_
  refine lv_iload_n hx hb dX5_goes_1 rfl (lv_at hl 1 rfl) ?_
  refine lv_if_eq (tgt := 9) hx hb dX5_goes_2 (by decide) (fun h => absurd h (by decide)) (fun _ => ?_)
  refine lv_iconst (v := 1) hx hb dX5_goes_5 (by decide) ?_
  refine lv_goto (tgt := 18) hx hb dX5_goes_6 (by decide) ?_
  refine va_put (D := D) (ci := 5) (v := .int 1) (ty := .int) (C := RX5) (T := TX5) (N := 14) hx hb hts inX5 tyX5 tyX5_ok nmX5 hown hK hP hD hS 0 rfl rfl 6 (by decide) (hts (.fieldLink RX5 44 "PumpOathsModel" "thrown" "I") (List.mem_of_getElem? (i := 1) rfl)) (fun _ h9 => h9) rfl (by decide +kernel) rfl rfl (Nat.le_of_ble_eq_true rfl) dX5_goes_18 (fun H locs hP hD hS => ?_)
  have hP : va_P D vwCl (moW q cI cJ (o_setI M 2 1)) H := hP
  have hD : va_D A9 (moW q cI cJ (o_setI M 2 1)) := hD
  refine lv_aload_n hx hb dX5_goes_21 rfl (lv_at hl 0 rfl) ?_
  refine va_get (D := D) (ci := 5) (v := .int 1) (C := RX5) (T := TX5) (N := 14) hx hb hts inX5 hown hK hP 0 rfl rfl 6 (by decide) (hts (.fieldLink RX5 44 "PumpOathsModel" "thrown" "I") (List.mem_of_getElem? (i := 1) rfl)) (fun _ h9 => h9) rfl dX5_goes_22 ?_
  refine lv_if_ne (tgt := 32) hx hb dX5_goes_25 (by decide) (fun _ => ?_) (fun h => absurd h (by decide))
  refine lv_iconst (v := 0) hx hb dX5_goes_32 (by decide) ?_
  exact k_iret hx hb hr hlk hP hS dX5_goes_33 rfl rfl (fun h => h)

set_option maxHeartbeats 1000000 in
set_option maxRecDepth 100000 in
theorem c_X5_goes01 (l : Launch) (D : va_G) (q : Nat → Nat) (cI cJ : ClassId) (M : MS)  : kI l yX5_goes wsX5_goes ({ frames := 0, cells := 0, slots := 0, locals := 0 } : Room) D [(cI, .int), (cJ, .long)] [.ref (q 0), .int 0, .int 1] (moW q cI cJ M) 0 (moW q cI cJ (o_setI M 2 2)) := by
  refine kBody.met (cc := cX5_goes) (maxL := 3) (ret := (some .boolean)) (by decide) rfl (Nat.le_of_ble_eq_true rfl) ?_
  intro p9 e9 s9 m9 below meth c9 A9 ls hx hb hr hml hts hown hlk hK hP hD hA hl
  have hown : s9.vm.findClass RX5 = some m9.cls := hown
  have inX5 : ∀ w ∈ wsX50, w ∈ wsX5_goes := fun w h => List.mem_cons_of_mem _ (List.mem_append_right _ (h))
  have hS : va_S A9 s9.heap s9.heap [] := va_S.rf
  have hl : lv_has ls 3 [(0, .ref (q 0)), (1, .int 0), (2, .int 1)] := hl
  refine lv_aload_n hx hb dX5_goes_0 rfl (lv_at hl 0 rfl) ?_
  refine lv_iload_n hx hb dX5_goes_1 rfl (lv_at hl 1 rfl) ?_
  refine lv_if_eq (tgt := 9) hx hb dX5_goes_2 (by decide) (fun _ => ?_) (fun h => absurd h (by decide))
  refine lv_iload_n hx hb dX5_goes_9 rfl (lv_at hl 2 rfl) ?_
  refine lv_if_eq (tgt := 17) hx hb dX5_goes_10 (by decide) (fun h => absurd h (by decide)) (fun _ => ?_)
  refine lv_iconst (v := 2) hx hb dX5_goes_13 (by decide) ?_
  refine lv_goto (tgt := 18) hx hb dX5_goes_14 (by decide) ?_
  refine va_put (D := D) (ci := 5) (v := .int 2) (ty := .int) (C := RX5) (T := TX5) (N := 14) hx hb hts inX5 tyX5 tyX5_ok nmX5 hown hK hP hD hS 0 rfl rfl 6 (by decide) (hts (.fieldLink RX5 44 "PumpOathsModel" "thrown" "I") (List.mem_of_getElem? (i := 1) rfl)) (fun _ h9 => h9) rfl (by decide +kernel) rfl rfl (Nat.le_of_ble_eq_true rfl) dX5_goes_18 (fun H locs hP hD hS => ?_)
  have hP : va_P D vwCl (moW q cI cJ (o_setI M 2 2)) H := hP
  have hD : va_D A9 (moW q cI cJ (o_setI M 2 2)) := hD
  refine lv_aload_n hx hb dX5_goes_21 rfl (lv_at hl 0 rfl) ?_
  refine va_get (D := D) (ci := 5) (v := .int 2) (C := RX5) (T := TX5) (N := 14) hx hb hts inX5 hown hK hP 0 rfl rfl 6 (by decide) (hts (.fieldLink RX5 44 "PumpOathsModel" "thrown" "I") (List.mem_of_getElem? (i := 1) rfl)) (fun _ h9 => h9) rfl dX5_goes_22 ?_
  refine lv_if_ne (tgt := 32) hx hb dX5_goes_25 (by decide) (fun _ => ?_) (fun h => absurd h (by decide))
  refine lv_iconst (v := 0) hx hb dX5_goes_32 (by decide) ?_
  exact k_iret hx hb hr hlk hP hS dX5_goes_33 rfl rfl (fun h => h)

set_option maxHeartbeats 1000000 in
set_option maxRecDepth 100000 in
theorem c_X5_goes00 (l : Launch) (D : va_G) (q : Nat → Nat) (cI cJ : ClassId) (M : MS)  : kI l yX5_goes wsX5_goes ({ frames := 0, cells := 0, slots := 0, locals := 0 } : Room) D [(cI, .int), (cJ, .long)] [.ref (q 0), .int 0, .int 0] (moW q cI cJ M) 1 (moW q cI cJ (o_setI M 2 0)) := by
  refine kBody.met (cc := cX5_goes) (maxL := 3) (ret := (some .boolean)) (by decide) rfl (Nat.le_of_ble_eq_true rfl) ?_
  intro p9 e9 s9 m9 below meth c9 A9 ls hx hb hr hml hts hown hlk hK hP hD hA hl
  have hown : s9.vm.findClass RX5 = some m9.cls := hown
  have inX5 : ∀ w ∈ wsX50, w ∈ wsX5_goes := fun w h => List.mem_cons_of_mem _ (List.mem_append_right _ (h))
  have hS : va_S A9 s9.heap s9.heap [] := va_S.rf
  have hl : lv_has ls 3 [(0, .ref (q 0)), (1, .int 0), (2, .int 0)] := hl
  refine lv_aload_n hx hb dX5_goes_0 rfl (lv_at hl 0 rfl) ?_
  refine lv_iload_n hx hb dX5_goes_1 rfl (lv_at hl 1 rfl) ?_
  refine lv_if_eq (tgt := 9) hx hb dX5_goes_2 (by decide) (fun _ => ?_) (fun h => absurd h (by decide))
  refine lv_iload_n hx hb dX5_goes_9 rfl (lv_at hl 2 rfl) ?_
  refine lv_if_eq (tgt := 17) hx hb dX5_goes_10 (by decide) (fun _ => ?_) (fun h => absurd h (by decide))
  refine lv_iconst (v := 0) hx hb dX5_goes_17 (by decide) ?_
  refine va_put (D := D) (ci := 5) (v := .int 0) (ty := .int) (C := RX5) (T := TX5) (N := 14) hx hb hts inX5 tyX5 tyX5_ok nmX5 hown hK hP hD hS 0 rfl rfl 6 (by decide) (hts (.fieldLink RX5 44 "PumpOathsModel" "thrown" "I") (List.mem_of_getElem? (i := 1) rfl)) (fun _ h9 => h9) rfl (by decide +kernel) rfl rfl (Nat.le_of_ble_eq_true rfl) dX5_goes_18 (fun H locs hP hD hS => ?_)
  have hP : va_P D vwCl (moW q cI cJ (o_setI M 2 0)) H := hP
  have hD : va_D A9 (moW q cI cJ (o_setI M 2 0)) := hD
  refine lv_aload_n hx hb dX5_goes_21 rfl (lv_at hl 0 rfl) ?_
  refine va_get (D := D) (ci := 5) (v := .int 0) (C := RX5) (T := TX5) (N := 14) hx hb hts inX5 hown hK hP 0 rfl rfl 6 (by decide) (hts (.fieldLink RX5 44 "PumpOathsModel" "thrown" "I") (List.mem_of_getElem? (i := 1) rfl)) (fun _ h9 => h9) rfl dX5_goes_22 ?_
  refine lv_if_ne (tgt := 32) hx hb dX5_goes_25 (by decide) (fun h => absurd h (by decide)) (fun _ => ?_)
  refine lv_iconst (v := 1) hx hb dX5_goes_28 (by decide) ?_
  refine lv_goto (tgt := 33) hx hb dX5_goes_29 (by decide) ?_
  exact k_iret hx hb hr hlk hP hS dX5_goes_33 rfl rfl (fun h => h)

set_option maxHeartbeats 1000000 in
set_option maxRecDepth 100000 in
theorem c_X5_isPump (l : Launch) (D : va_G) (q : Nat → Nat) (cI cJ : ClassId) (M : MS) (x : Int32)  : kI l yX5_isPump wsX5_isPump ({ frames := 1, cells := 0, slots := 0, locals := 25 } : Room) D [(cI, .int), (cJ, .long)] [.ref (q 0), .int x] (moW q cI cJ M) (bi (m_isP (M.2.1 0) x)) (moW q cI cJ M) := by
  refine kBody.met (cc := cX5_isPump) (maxL := 2) (ret := (some .boolean)) (by decide) rfl (Nat.le_of_ble_eq_true rfl) ?_
  intro p9 e9 s9 m9 below meth c9 A9 ls hx hb hr hml hts hown hlk hK hP hD hA hl
  have hown : s9.vm.findClass RX5 = some m9.cls := hown
  have inX5 : ∀ w ∈ wsX50, w ∈ wsX5_isPump := fun w h => List.mem_cons_of_mem _ (List.mem_append_right _ (h))
  have hS : va_S A9 s9.heap s9.heap [] := va_S.rf
  have hl : lv_has ls 2 [(0, .ref (q 0)), (1, .int x)] := hl
  refine lv_iload_n hx hb dX5_isPump_0 rfl (lv_at hl 1 rfl) ?_
  refine lv_i2l hx hb dX5_isPump_1 rfl ?_
  refine lv_lconst (v := 0) hx hb dX5_isPump_2 (by decide) ?_
  refine lv_aload_n hx hb dX5_isPump_3 rfl (lv_at hl 0 rfl) ?_
  refine va_get (D := D) (ci := 5) (v := .ref (q 1)) (C := RX5) (T := TX5) (N := 14) hx hb hts inX5 hown hK hP 0 rfl rfl 0 (by decide) (hts (.fieldLink RX5 7 "PumpOathsModel" "now" "[J") (List.mem_of_getElem? (i := 1) rfl)) (fun _ h9 => h9) rfl dX5_isPump_4 ?_
  refine lv_bipush (v := 7) hx hb dX5_isPump_7 (by decide) ?_
  refine va_lald (f := M.2.1 0) hx hb hK hP 1 1 rfl rfl (k_in (k := 7) rfl (by decide) (by decide)) dX5_isPump_9 ?_
  rw [show (7 : Int32).toNatClampNeg = 7 from rfl]
  refine lv_lconst (v := 1) hx hb dX5_isPump_10 (by decide) ?_
  refine lv_lsub hx hb dX5_isPump_11 ?_
  refine k_calli (a := []) (z := moW q cI cJ M) (wc := []) (wc' := []) (w' := moW q cI cJ M) (va_runS (As := [.long x.toInt64, .long 0, .long (((M.2.1 0) 7) - 1)]) (rest := []) ⟨hx, hb, hml, hown, hts⟩ (c_X5_in l D cI cJ x.toInt64 0 (((M.2.1 0) 7) - 1) _) (cwS 3 hts gX5_isPump_X5_in rfl rfl rfl (by decide +kernel) ⟨Nat.le_of_ble_eq_true rfl, Nat.le_of_ble_eq_true rfl⟩) ⟨kB_blind, k_pre (a := []) (z := moW q cI cJ M) rfl hK hP hD⟩ rfl rfl hl.1 rfl (lv_room (Nat.le_of_ble_eq_true rfl)) dX5_isPump_12 ⟨Nat.zero_le _, Nat.zero_le _⟩) rfl rfl rfl hP hD hS hA (fun H locs hP hD hS => ?_)
  exact k_iret hx hb hr hlk hP hS dX5_isPump_15 (bi_nar _) rfl (fun h => h)

set_option maxHeartbeats 1000000 in
set_option maxRecDepth 100000 in
theorem c_X5_saves (l : Launch) (D : va_G) (q : Nat → Nat) (cI cJ : ClassId) (M : MS) (st : Nat) (hst : M.1 0 = nI st) (hst4 : st ≤ 4) : kV l yX5_saves wsX5_saves ({ frames := 0, cells := 0, slots := 0, locals := 0 } : Room) D [(cI, .int), (cJ, .long)] [.ref (q 0)] (moW q cI cJ M) (moW q cI cJ (o_save M st)) := by
  refine kBody.met (cc := cX5_saves) (maxL := 2) (ret := none) (by decide) rfl (Nat.le_of_ble_eq_true rfl) ?_
  intro p9 e9 s9 m9 below meth c9 A9 ls hx hb hr hml hts hown hlk hK hP hD hA hl
  have hown : s9.vm.findClass RX5 = some m9.cls := hown
  have inX5 : ∀ w ∈ wsX50, w ∈ wsX5_saves := fun w h => List.mem_cons_of_mem _ (List.mem_append_right _ (h))
  have hS : va_S A9 s9.heap s9.heap [] := va_S.rf
  have hl : lv_has ls 2 [(0, .ref (q 0))] := hl
  have hs1 : o_s1 st ≤ 3 := o_s1_le hst4
  have J_49_0 : ∀ (H : Heap) (locs : List Loc) (ls : Array Slot), va_P D vwCl (moW q cI cJ (o_sv1 M)) H → va_D A9 (moW q cI cJ (o_sv1 M)) → va_S A9 s9.heap H locs → lv_has ls 2 [(0, .ref (q 0))] → W p9 l e9 ({ frames := 0, cells := 0, slots := 0, locals := 0 } : Room) s9 m9 (List.toArray [.ref (q 0)]) below meth c9 H locs 0 0 (MQ below (va_Qv (fun (_ : Unit) => True) (fun _ t9 => va_P D vwCl (moW q cI cJ (o_save M st)) t9.heap) A9) (List.toArray [.ref (q 0)]) s9 0 0 A9) (F0 m9 49 ls [])  := by
    intro H locs ls hP hD hS hl
    refine lv_iconst (v := 0) hx hb dX5_saves_49 (by decide) ?_
    refine lv_istore_n (lv' := [(1, .int 0), (0, .ref (q 0))]) hx hb dX5_saves_50 rfl hl (by decide) rfl (fun ls hl => ?_)
    have L_51_1 : ∀ (d : Nat) (k : Nat) (f : Nat → Int64), 138 < k + d → k ≤ 138 → ∀  (e51 : itr (o_svB (o_s1 st) ((o_sv1 M).2.1 0)) k ((o_sv1 M).2.1 2) = f) (H : Heap) (locs : List Loc) (ls : Array Slot), va_P D vwCl (moW q cI cJ (o_setV (o_sv1 M) 2 f)) H → va_D A9 (moW q cI cJ (o_setV (o_sv1 M) 2 f)) → va_S A9 s9.heap H locs → lv_has ls 2 [(0, .ref (q 0)), (1, .int (nI k))] → W p9 l e9 ({ frames := 0, cells := 0, slots := 0, locals := 0 } : Room) s9 m9 (List.toArray [.ref (q 0)]) below meth c9 H locs 0 0 (MQ below (va_Qv (fun (_ : Unit) => True) (fun _ t9 => va_P D vwCl (moW q cI cJ (o_save M st)) t9.heap) A9) (List.toArray [.ref (q 0)]) s9 0 0 A9) (F0 m9 51 ls []) := by
      intro d
      induction d with
      | zero =>
        intro k f hf
        intro hkn; exact absurd hf (by omega)
      | succ d ih_51 =>
        intro k f hf_51 hkn_51 e51 H locs ls hP hD hS hl
        refine lv_iload_n hx hb dX5_saves_51 rfl (lv_at hl 1 rfl) ?_
        refine lv_sipush (v := 138) hx hb dX5_saves_52 (by decide) ?_
        refine lv_icmp_ge (tgt := 85) hx hb dX5_saves_55 (by decide) (fun c_55_2 => ?_) (fun c_55_2 => ?_)
        · have c_55_2 : 138 ≤ (nI k) := c_55_2
          have hke_51 : 138 = k := (k_exitN c_55_2 rfl hkn_51 (by decide)).symm
          subst hke_51
          refine lv_aload_n hx hb dX5_saves_85 rfl (lv_at hl 0 rfl) ?_
          refine lv_dup hx hb dX5_saves_86 rfl ?_
          refine va_get (D := D) (ci := 5) (v := .int ((o_sv1 M).1 0)) (C := RX5) (T := TX5) (N := 14) hx hb hts inX5 hown hK hP 0 rfl rfl 3 (by decide) (hts (.fieldLink RX5 52 "PumpOathsModel" "states" "I") (List.mem_of_getElem? (i := 1) rfl)) (fun _ h9 => h9) rfl dX5_saves_87 ?_
          refine lv_iconst (v := 1) hx hb dX5_saves_90 (by decide) ?_
          refine lv_iadd hx hb dX5_saves_91 ?_
          refine va_put (D := D) (ci := 5) (v := .int (((o_sv1 M).1 0) + 1)) (ty := .int) (C := RX5) (T := TX5) (N := 14) hx hb hts inX5 tyX5 tyX5_ok nmX5 hown hK hP hD hS 0 rfl rfl 3 (by decide) (hts (.fieldLink RX5 52 "PumpOathsModel" "states" "I") (List.mem_of_getElem? (i := 1) rfl)) (fun _ h9 => h9) rfl (by decide +kernel) rfl rfl (Nat.le_of_ble_eq_true rfl) dX5_saves_92 (fun H locs hP hD hS => ?_)
          have hP : va_P D vwCl (moW q cI cJ (o_setI (o_setV (o_sv1 M) 2 f) 0 (((o_sv1 M).1 0) + 1))) H := hP
          have hD : va_D A9 (moW q cI cJ (o_setI (o_setV (o_sv1 M) 2 f) 0 (((o_sv1 M).1 0) + 1))) := hD
          exact k_vret hx hb hr hlk hP hS dX5_saves_95 (k_P (by rw [o_save, e51]))
        · have c_55_2 : ¬ 138 ≤ (nI k) := c_55_2
          have hkl_51 : k < 138 := k_bodyN c_55_2 rfl hkn_51 (by decide)
          refine lv_aload_n hx hb dX5_saves_58 rfl (lv_at hl 0 rfl) ?_
          refine va_get (D := D) (ci := 5) (v := .ref (q 3)) (C := RX5) (T := TX5) (N := 14) hx hb hts inX5 hown hK hP 0 rfl rfl 2 (by decide) (hts (.fieldLink RX5 16 "PumpOathsModel" "saved" "[J") (List.mem_of_getElem? (i := 2) rfl)) (fun _ h9 => h9) rfl dX5_saves_59 ?_
          refine lv_sipush (v := 138) hx hb dX5_saves_62 (by decide) ?_
          refine lv_aload_n hx hb dX5_saves_65 rfl (lv_at hl 0 rfl) ?_
          refine va_get (D := D) (ci := 5) (v := .int ((o_sv1 M).1 0)) (C := RX5) (T := TX5) (N := 14) hx hb hts inX5 hown hK hP 0 rfl rfl 3 (by decide) (hts (.fieldLink RX5 52 "PumpOathsModel" "states" "I") (List.mem_of_getElem? (i := 1) rfl)) (fun _ h9 => h9) rfl dX5_saves_66 ?_
          refine lv_imul hx hb dX5_saves_69 ?_
          refine lv_iload_n hx hb dX5_saves_70 rfl (lv_at hl 1 rfl) ?_
          refine lv_iadd hx hb dX5_saves_71 ?_
          refine lv_aload_n hx hb dX5_saves_72 rfl (lv_at hl 0 rfl) ?_
          refine va_get (D := D) (ci := 5) (v := .ref (q 1)) (C := RX5) (T := TX5) (N := 14) hx hb hts inX5 hown hK hP 0 rfl rfl 0 (by decide) (hts (.fieldLink RX5 7 "PumpOathsModel" "now" "[J") (List.mem_of_getElem? (i := 3) rfl)) (fun _ h9 => h9) rfl dX5_saves_73 ?_
          refine lv_iload_n hx hb dX5_saves_76 rfl (lv_at hl 1 rfl) ?_
          refine va_lald (f := (o_sv1 M).2.1 0) hx hb hK hP 1 1 rfl rfl (k_in (k := k) rfl (by omega) (by decide)) dX5_saves_77 ?_
          rw [show (nI k : Int32).toNatClampNeg = k from nI_clamp (by omega)]
          refine va_last (f := f) hx hb hK hP hD hS 3 1 rfl rfl (k_in (k := 138 * o_s1 st + k) (show 138 * (o_sv1 M).1 0 + nI k = nI (138 * o_s1 st + k) from by rw [o_sv1_0 hst hst4, show (138 : Int32) = nI 138 from rfl, pk_mul, nI_add]) (by omega) (by decide)) dX5_saves_78 (fun H locs hP hD hS => ?_)
          rw [show ((138 * ((o_sv1 M).1 0)) + (nI k) : Int32).toNatClampNeg = 138 * o_s1 st + k from k_cl (show 138 * (o_sv1 M).1 0 + nI k = nI (138 * o_s1 st + k) from by rw [o_sv1_0 hst hst4, show (138 : Int32) = nI 138 from rfl, pk_mul, nI_add]) (by omega)] at hP hD
          have hP : va_P D vwCl (moW q cI cJ (o_setV (o_sv1 M) 2 (vp_updL f (138 * o_s1 st + k) (((o_sv1 M).2.1 0) k)))) H := hP
          have hD : va_D A9 (moW q cI cJ (o_setV (o_sv1 M) 2 (vp_updL f (138 * o_s1 st + k) (((o_sv1 M).2.1 0) k)))) := hD
          refine lv_iinc (v := (nI k) + 1) (lv' := [(1, .int ((nI k) + 1)), (0, .ref (q 0))]) hx hb dX5_saves_79 hl (k := 1) rfl rfl (by decide) rfl (fun ls hl => ?_)
          refine lv_goto (tgt := 51) hx hb dX5_saves_82 (by decide) ?_
          rw [show ((nI k) + 1) = (nI (k + 1)) from nI_1 _] at hl
          exact ih_51 (k + 1) (vp_updL f (138 * o_s1 st + k) (((o_sv1 M).2.1 0) k)) (by omega) (by omega) (by rw [itr_s, e51]; simp [o_svB, c_55_2]) _ _ _ hP hD hS (lv_sub hl [1, 0] rfl)
    exact L_51_1 (138 + 1) 0 ((o_sv1 M).2.1 2) (by omega) (by omega) (rfl) _ _ _ hP hD hS (lv_sub hl [1, 0] rfl)
  refine lv_aload_n hx hb dX5_saves_0 rfl (lv_at hl 0 rfl) ?_
  refine va_get (D := D) (ci := 5) (v := .int (M.1 0)) (C := RX5) (T := TX5) (N := 14) hx hb hts inX5 hown hK hP 0 rfl rfl 3 (by decide) (hts (.fieldLink RX5 52 "PumpOathsModel" "states" "I") (List.mem_of_getElem? (i := 1) rfl)) (fun _ h9 => h9) rfl dX5_saves_1 ?_
  refine lv_iconst (v := 4) hx hb dX5_saves_4 (by decide) ?_
  refine lv_icmp_ne (tgt := 49) hx hb dX5_saves_5 (by decide) (fun c_5_3 => ?_) (fun c_5_3 => ?_)
  · have c_5_3 : ¬ (M.1 0) = 4 := c_5_3
    have hs0 : M = (o_sv1 M) := by first | (rw [o_sv1, if_neg c_5_3]; done) | (rw [o_sv1, if_pos c_5_3, e10]; done)
    have hw9 : (moW q cI cJ M) = (moW q cI cJ (o_sv1 M)) := congrArg (fun T9 => moW q cI cJ T9) hs0
    exact J_49_0 _ _ _ (k_P hw9 hP) (hw9 ▸ hD) hS (lv_sub hl [0] rfl)
  · have c_5_3 : (M.1 0) = 4 := c_5_3
    refine lv_iconst (v := 0) hx hb dX5_saves_8 (by decide) ?_
    refine lv_istore_n (lv' := [(1, .int 0), (0, .ref (q 0))]) hx hb dX5_saves_9 rfl hl (by decide) rfl (fun ls hl => ?_)
    have L_10_4 : ∀ (d : Nat) (k : Nat) (f : Nat → Int64), 414 < k + d → k ≤ 414 → ∀  (e10 : itr o_shB k (M.2.1 2) = f) (H : Heap) (locs : List Loc) (ls : Array Slot), va_P D vwCl (moW q cI cJ (o_setV M 2 f)) H → va_D A9 (moW q cI cJ (o_setV M 2 f)) → va_S A9 s9.heap H locs → lv_has ls 2 [(0, .ref (q 0)), (1, .int (nI k))] → W p9 l e9 ({ frames := 0, cells := 0, slots := 0, locals := 0 } : Room) s9 m9 (List.toArray [.ref (q 0)]) below meth c9 H locs 0 0 (MQ below (va_Qv (fun (_ : Unit) => True) (fun _ t9 => va_P D vwCl (moW q cI cJ (o_save M st)) t9.heap) A9) (List.toArray [.ref (q 0)]) s9 0 0 A9) (F0 m9 10 ls []) := by
      intro d
      induction d with
      | zero =>
        intro k f hf
        intro hkn; exact absurd hf (by omega)
      | succ d ih_10 =>
        intro k f hf_10 hkn_10 e10 H locs ls hP hD hS hl
        refine lv_iload_n hx hb dX5_saves_10 rfl (lv_at hl 1 rfl) ?_
        refine lv_sipush (v := 414) hx hb dX5_saves_11 (by decide) ?_
        refine lv_icmp_ge (tgt := 39) hx hb dX5_saves_14 (by decide) (fun c_14_5 => ?_) (fun c_14_5 => ?_)
        · have c_14_5 : 414 ≤ (nI k) := c_14_5
          have hke_10 : 414 = k := (k_exitN c_14_5 rfl hkn_10 (by decide)).symm
          subst hke_10
          refine lv_aload_n hx hb dX5_saves_39 rfl (lv_at hl 0 rfl) ?_
          refine lv_dup hx hb dX5_saves_40 rfl ?_
          refine va_get (D := D) (ci := 5) (v := .int (M.1 0)) (C := RX5) (T := TX5) (N := 14) hx hb hts inX5 hown hK hP 0 rfl rfl 3 (by decide) (hts (.fieldLink RX5 52 "PumpOathsModel" "states" "I") (List.mem_of_getElem? (i := 1) rfl)) (fun _ h9 => h9) rfl dX5_saves_41 ?_
          refine lv_iconst (v := 1) hx hb dX5_saves_44 (by decide) ?_
          refine lv_isub hx hb dX5_saves_45 ?_
          refine va_put (D := D) (ci := 5) (v := .int ((M.1 0) - 1)) (ty := .int) (C := RX5) (T := TX5) (N := 14) hx hb hts inX5 tyX5 tyX5_ok nmX5 hown hK hP hD hS 0 rfl rfl 3 (by decide) (hts (.fieldLink RX5 52 "PumpOathsModel" "states" "I") (List.mem_of_getElem? (i := 1) rfl)) (fun _ h9 => h9) rfl (by decide +kernel) rfl rfl (Nat.le_of_ble_eq_true rfl) dX5_saves_46 (fun H locs hP hD hS => ?_)
          have hP : va_P D vwCl (moW q cI cJ (o_setI (o_setV M 2 f) 0 ((M.1 0) - 1))) H := hP
          have hD : va_D A9 (moW q cI cJ (o_setI (o_setV M 2 f) 0 ((M.1 0) - 1))) := hD
          have hs0 : (o_setI (o_setV M 2 f) 0 ((M.1 0) - 1)) = (o_sv1 M) := by first | (rw [o_sv1, if_neg c_5_3]; done) | (rw [o_sv1, if_pos c_5_3, e10]; done)
          have hw9 : (moW q cI cJ (o_setI (o_setV M 2 f) 0 ((M.1 0) - 1))) = (moW q cI cJ (o_sv1 M)) := congrArg (fun T9 => moW q cI cJ T9) hs0
          exact J_49_0 _ _ _ (k_P hw9 hP) (hw9 ▸ hD) hS (lv_sub hl [0] rfl)
        · have c_14_5 : ¬ 414 ≤ (nI k) := c_14_5
          have hkl_10 : k < 414 := k_bodyN c_14_5 rfl hkn_10 (by decide)
          refine lv_aload_n hx hb dX5_saves_17 rfl (lv_at hl 0 rfl) ?_
          refine va_get (D := D) (ci := 5) (v := .ref (q 3)) (C := RX5) (T := TX5) (N := 14) hx hb hts inX5 hown hK hP 0 rfl rfl 2 (by decide) (hts (.fieldLink RX5 16 "PumpOathsModel" "saved" "[J") (List.mem_of_getElem? (i := 2) rfl)) (fun _ h9 => h9) rfl dX5_saves_18 ?_
          refine lv_iload_n hx hb dX5_saves_21 rfl (lv_at hl 1 rfl) ?_
          refine lv_aload_n hx hb dX5_saves_22 rfl (lv_at hl 0 rfl) ?_
          refine va_get (D := D) (ci := 5) (v := .ref (q 3)) (C := RX5) (T := TX5) (N := 14) hx hb hts inX5 hown hK hP 0 rfl rfl 2 (by decide) (hts (.fieldLink RX5 16 "PumpOathsModel" "saved" "[J") (List.mem_of_getElem? (i := 2) rfl)) (fun _ h9 => h9) rfl dX5_saves_23 ?_
          refine lv_iload_n hx hb dX5_saves_26 rfl (lv_at hl 1 rfl) ?_
          refine lv_sipush (v := 138) hx hb dX5_saves_27 (by decide) ?_
          refine lv_iadd hx hb dX5_saves_30 ?_
          refine va_lald (f := f) hx hb hK hP 3 1 rfl rfl (k_in (k := k + 138) (show nI k + 138 = nI (k + 138) from nI_add k 138) (by omega) (by decide)) dX5_saves_31 ?_
          rw [show ((nI k) + 138 : Int32).toNatClampNeg = k + 138 from k_cl (show nI k + 138 = nI (k + 138) from nI_add k 138) (by omega)]
          refine va_last (f := f) hx hb hK hP hD hS 3 1 rfl rfl (k_in (k := k) rfl (by omega) (by decide)) dX5_saves_32 (fun H locs hP hD hS => ?_)
          rw [show (nI k : Int32).toNatClampNeg = k from nI_clamp (by omega)] at hP hD
          have hP : va_P D vwCl (moW q cI cJ (o_setV M 2 (vp_updL f k (f (k + 138))))) H := hP
          have hD : va_D A9 (moW q cI cJ (o_setV M 2 (vp_updL f k (f (k + 138))))) := hD
          refine lv_iinc (v := (nI k) + 1) (lv' := [(1, .int ((nI k) + 1)), (0, .ref (q 0))]) hx hb dX5_saves_33 hl (k := 1) rfl rfl (by decide) rfl (fun ls hl => ?_)
          refine lv_goto (tgt := 10) hx hb dX5_saves_36 (by decide) ?_
          rw [show ((nI k) + 1) = (nI (k + 1)) from nI_1 _] at hl
          exact ih_10 (k + 1) (vp_updL f k (f (k + 138))) (by omega) (by omega) (by rw [itr_s, e10]; simp [o_shB, c_5_3, c_14_5]) _ _ _ hP hD hS (lv_sub hl [1, 0] rfl)
    exact L_10_4 (414 + 1) 0 (M.2.1 2) (by omega) (by omega) (rfl) _ _ _ hP hD hS (lv_sub hl [1, 0] rfl)

set_option maxHeartbeats 1000000 in
set_option maxRecDepth 100000 in
theorem c_X5_puts (l : Launch) (D : va_G) (q : Nat → Nat) (cI cJ : ClassId) (M : MS) (k : Nat) (v : Int32) (hk : k < 138) (st : Nat) (hst : M.1 0 = nI st) (hst4 : st ≤ 4) : kI l yX5_puts wsX5_puts ({ frames := 1, cells := 0, slots := 0, locals := 21 } : Room) D [(cI, .int), (cJ, .long)] [.ref (q 0), .int (nI k), .int v] (moW q cI cJ M) (o_putsR M st k) (moW q cI cJ (o_puts M st k v)) := by
  refine kBody.met (cc := cX5_puts) (maxL := 4) (ret := (some .int)) (by decide) rfl (Nat.le_of_ble_eq_true rfl) ?_
  intro p9 e9 s9 m9 below meth c9 A9 ls hx hb hr hml hts hown hlk hK hP hD hA hl
  have hown : s9.vm.findClass RX5 = some m9.cls := hown
  have inX5 : ∀ w ∈ wsX50, w ∈ wsX5_puts := fun w h => List.mem_cons_of_mem _ (List.mem_append_right _ (h))
  have hS : va_S A9 s9.heap s9.heap [] := va_S.rf
  have hl : lv_has ls 4 [(0, .ref (q 0)), (1, .int (nI k)), (2, .int v)] := hl
  refine lv_aload_n hx hb dX5_puts_0 rfl (lv_at hl 0 rfl) ?_
  refine k_callv (a := []) (z := []) (wc := moW q cI cJ M) (wc' := moW q cI cJ (o_save M st)) (w' := moW q cI cJ (o_save M st)) (va_runV (As := []) (rest := []) ⟨hx, hb, hml, hown, hts⟩ (c_X5_saves l D q cI cJ M st hst hst4 _) (cwV 0 hts gX5_puts_X5_saves rfl rfl rfl (by decide +kernel) ⟨Nat.le_of_ble_eq_true rfl, Nat.le_of_ble_eq_true rfl⟩) ⟨kB_blind, va_recv hK hP (ci := 5) (q0 := 0) rfl rfl, k_pre (a := []) (z := []) (k_w0 _) hK hP hD⟩ rfl rfl hl.1 rfl (lv_room (Nat.le_of_ble_eq_true rfl)) dX5_puts_1 ⟨Nat.zero_le _, Nat.zero_le _⟩) (k_w0 _) (k_w0 _) (moW_ad _ _ _ _ _) hP hD hS hA (fun H locs hP hD hS => ?_)
  refine lv_aload_n hx hb dX5_puts_4 rfl (lv_at hl 0 rfl) ?_
  refine va_get (D := D) (ci := 5) (v := .ref (q 1)) (C := RX5) (T := TX5) (N := 14) hx hb hts inX5 hown hK hP 0 rfl rfl 0 (by decide) (hts (.fieldLink RX5 7 "PumpOathsModel" "now" "[J") (List.mem_of_getElem? (i := 1) rfl)) (fun _ h9 => h9) rfl dX5_puts_5 ?_
  refine lv_iload_n hx hb dX5_puts_8 rfl (lv_at hl 1 rfl) ?_
  refine va_lald (f := (o_save M st).2.1 0) hx hb hK hP 1 1 rfl rfl (k_in (k := k) rfl (by omega) (by decide)) dX5_puts_9 ?_
  rw [show (nI k : Int32).toNatClampNeg = k from nI_clamp (by omega)]
  refine lv_l2i hx hb dX5_puts_10 rfl ?_
  refine lv_istore_n (lv' := [(3, .int ((((o_save M st).2.1 0) k).toInt32)), (0, .ref (q 0)), (1, .int (nI k)), (2, .int v)]) hx hb dX5_puts_11 rfl hl (by decide) rfl (fun ls hl => ?_)
  refine lv_aload_n hx hb dX5_puts_12 rfl (lv_at hl 1 rfl) ?_
  refine va_get (D := D) (ci := 5) (v := .ref (q 1)) (C := RX5) (T := TX5) (N := 14) hx hb hts inX5 hown hK hP 0 rfl rfl 0 (by decide) (hts (.fieldLink RX5 7 "PumpOathsModel" "now" "[J") (List.mem_of_getElem? (i := 1) rfl)) (fun _ h9 => h9) rfl dX5_puts_13 ?_
  refine lv_iload_n hx hb dX5_puts_16 rfl (lv_at hl 2 rfl) ?_
  refine lv_iload_n hx hb dX5_puts_17 rfl (lv_at hl 3 rfl) ?_
  refine lv_i2l hx hb dX5_puts_18 rfl ?_
  refine va_last (f := (o_save M st).2.1 0) hx hb hK hP hD hS 1 1 rfl rfl (k_in (k := k) rfl (by omega) (by decide)) dX5_puts_19 (fun H locs hP hD hS => ?_)
  rw [show (nI k : Int32).toNatClampNeg = k from nI_clamp (by omega)] at hP hD
  have hP : va_P D vwCl (moW q cI cJ (o_setV (o_save M st) 0 (vp_updL ((o_save M st).2.1 0) k v.toInt64))) H := hP
  have hD : va_D A9 (moW q cI cJ (o_setV (o_save M st) 0 (vp_updL ((o_save M st).2.1 0) k v.toInt64))) := hD
  refine lv_iload_n hx hb dX5_puts_20 rfl (lv_at hl 0 rfl) ?_
  exact k_iret hx hb hr hlk hP hS dX5_puts_21 rfl rfl (k_P rfl)
