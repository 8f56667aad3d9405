theorem m_logN {x : Int32} {z : Int64} {c : Nat} (h : m_in x.toInt64 0 (z - 1) = true) (hz : z = lN c) (hc : c ≤ 12) : x.toNatClampNeg < c ∧ nI x.toNatClampNeg = x := m_isPg h hz (by omega)
theorem k_top9 {p : Program} {l : Launch} {e : Env} {R : Room} {s : State} {m : MethodId} {args : Array Value} {below : List Frame} {meth : Method} {c : Code} {H : Heap} {locs : List Loc} {cells slots : Nat} {Q : State → Prop} {pc : Nat} {ls : Array Slot} {rest : List Value} {x v : Int32} (h : x = v) (k : W p l e R s m args below meth c H locs cells slots Q (F0 m pc ls (.int v :: rest))) : W p l e R s m args below meth c H locs cells slots Q (F0 m pc ls (.int x :: rest)) := by
  subst h
  exact k
theorem m_inN {x : Int32} {z : Int64} {N : Nat} (h : m_in x.toInt64 0 z = true) (hz : z = lN N) (hN : N < 2 ^ 31) : x.toNatClampNeg ≤ N ∧ nI x.toNatClampNeg = x := by
  subst hz
  simp only [m_in, decide_eq_true_eq] at h
  obtain ⟨h1, h2⟩ := h
  have hx : ¬ x < 0 := by
    intro hh
    exact h1 (by rw [Int64.lt_iff_toInt_lt, Int32.toInt_toInt64]; simpa using Int32.lt_iff_toInt_lt.mp hh)
  obtain ⟨j, hj, rfl⟩ := nI_of hx
  rw [nI_clamp hj]
  refine ⟨?_, rfl⟩
  rw [nI_l hj, lN_lt (by omega) (by omega)] at h2
  omega
def m_isSet (x y : Int32) : Bool := if x = 0 then m_in y.toInt64 1 5000 else if x = 1 then m_in y.toInt64 0 100 else if x = 2 then m_in y.toInt64 0 1 else false
theorem m_isSetN {x y : Int32} (h : m_isSet x y = true) : x.toNatClampNeg < 3 ∧ nI x.toNatClampNeg = x := by
  unfold m_isSet at h
  split at h
  · rename_i e; rw [e]; decide
  · split at h
    · rename_i e; rw [e]; decide
    · split at h
      · rename_i e; rw [e]; decide
      · cases h
theorem o_save_V (M : MS) (st j : Nat) (h : j ≠ 2) : (o_save M st).2.1 j = M.2.1 j := by
  have h1 : (o_sv1 M).2.1 j = M.2.1 j := by
    unfold o_sv1
    split
    · show (if j = 2 then _ else M.2.1 j) = _
      rw [if_neg h]
    · rfl
  show (if j = 2 then _ else (o_sv1 M).2.1 j) = _
  rw [if_neg h, h1]
theorem o_save_A (M : MS) (st : Nat) : (o_save M st).2.2 = M.2.2 := by
  show (o_sv1 M).2.2 = _
  unfold o_sv1
  split <;> rfl
theorem o_save_I (M : MS) (st k : Nat) (h : k ≠ 0) : (o_save M st).1 k = M.1 k := by
  have h1 : (o_sv1 M).1 k = M.1 k := by
    unfold o_sv1
    split
    · show upd M.1 0 _ k = _
      rw [pk_un h]
    · rfl
  show upd (o_sv1 M).1 0 _ k = _
  rw [pk_un h, h1]
theorem m_ne6 {w : Nat → Int64} {n : Nat} (h : ¬ w 7 = 6) (hn : w 7 = lN n) (hn6 : n ≤ 6) : n < 6 := by
  rcases Nat.lt_or_ge n 6 with q | q
  · exact q
  · have : n = 6 := by omega
    subst this
    exact absurd hn h

set_option maxHeartbeats 1000000 in
set_option maxRecDepth 100000 in
theorem c_X5_isSetting (l : Launch) (D : va_G) (cI cJ : ClassId) (x y : Int32)  : kI l yX5_isSetting wsX5_isSetting ({ frames := 1, cells := 0, slots := 0, locals := 25 } : Room) D [(cI, .int), (cJ, .long)] [.int x, .int y] ([]) (bi (m_isSet x y)) ([]) := by
  refine kBody.met (cc := cX5_isSetting) (maxL := 2) (ret := (some .boolean)) (by decide) rfl (Nat.le_of_ble_eq_true rfl) ?_
  intro p9 e9 s9 m9 below meth c9 A9 ls hx hb hr hml hts hown hlk hK hP hD hA hl
  have hown : s9.vm.findClass RX5 = some m9.cls := hown
  have hS : va_S A9 s9.heap s9.heap [] := va_S.rf
  have hl : lv_has ls 2 [(0, .int x), (1, .int y)] := hl
  refine lv_iload_n hx hb dX5_isSetting_0 rfl (lv_at hl 0 rfl) ?_
  by_cases c_1_0 : x = 0
  · refine lv_tableIn (off := 27) (tgt := 28) hx hb dX5_isSetting_1 (by rw [c_1_0]; decide) (by rw [c_1_0]; decide) (by rw [c_1_0]; rfl) (by decide) ?_
    refine lv_iload_n hx hb dX5_isSetting_28 rfl (lv_at hl 1 rfl) ?_
    refine lv_i2l hx hb dX5_isSetting_29 rfl ?_
    refine lv_lconst (v := 1) hx hb dX5_isSetting_30 (by decide) ?_
    refine lv_ldc2 (v := 5000) hx hb hown (hts (.constantLong RX5 34 (5000)) (List.mem_of_getElem? (i := 1) rfl)) dX5_isSetting_31 ?_
    refine k_calli (a := []) (z := []) (wc := []) (wc' := []) (w' := []) (va_runS (As := [.long y.toInt64, .long 1, .long 5000]) (rest := []) ⟨hx, hb, hml, hown, hts⟩ (c_X5_in l D cI cJ y.toInt64 1 5000 _) (cwS 3 hts gX5_isSetting_X5_in rfl rfl rfl (by decide +kernel) ⟨Nat.le_of_ble_eq_true rfl, Nat.le_of_ble_eq_true rfl⟩) ⟨kB_blind, k_pre (a := []) (z := []) rfl hK hP hD⟩ rfl rfl hl.1 rfl (lv_room (Nat.le_of_ble_eq_true rfl)) dX5_isSetting_34 ⟨Nat.zero_le _, Nat.zero_le _⟩) rfl rfl rfl hP hD hS hA (fun H locs hP hD hS => ?_)
    exact k_iret hx hb hr hlk hP hS dX5_isSetting_37 (bi_nar _) (by (rw [m_isSet, if_pos c_1_0]) <;> rfl) (fun h => h)
  by_cases c_1_1 : x = 1
  · refine lv_tableIn (off := 37) (tgt := 38) hx hb dX5_isSetting_1 (by rw [c_1_1]; decide) (by rw [c_1_1]; decide) (by rw [c_1_1]; rfl) (by decide) ?_
    refine lv_iload_n hx hb dX5_isSetting_38 rfl (lv_at hl 1 rfl) ?_
    refine lv_i2l hx hb dX5_isSetting_39 rfl ?_
    refine lv_lconst (v := 0) hx hb dX5_isSetting_40 (by decide) ?_
    refine lv_ldc2 (v := 100) hx hb hown (hts (.constantLong RX5 58 (100)) (List.mem_of_getElem? (i := 2) rfl)) dX5_isSetting_41 ?_
    refine k_calli (a := []) (z := []) (wc := []) (wc' := []) (w' := []) (va_runS (As := [.long y.toInt64, .long 0, .long 100]) (rest := []) ⟨hx, hb, hml, hown, hts⟩ (c_X5_in l D cI cJ y.toInt64 0 100 _) (cwS 3 hts gX5_isSetting_X5_in rfl rfl rfl (by decide +kernel) ⟨Nat.le_of_ble_eq_true rfl, Nat.le_of_ble_eq_true rfl⟩) ⟨kB_blind, k_pre (a := []) (z := []) rfl hK hP hD⟩ rfl rfl hl.1 rfl (lv_room (Nat.le_of_ble_eq_true rfl)) dX5_isSetting_44 ⟨Nat.zero_le _, Nat.zero_le _⟩) rfl rfl rfl hP hD hS hA (fun H locs hP hD hS => ?_)
    exact k_iret hx hb hr hlk hP hS dX5_isSetting_47 (bi_nar _) (by (rw [m_isSet, if_neg c_1_0, if_pos c_1_1]) <;> rfl) (fun h => h)
  by_cases c_1_2 : x = 2
  · refine lv_tableIn (off := 47) (tgt := 48) hx hb dX5_isSetting_1 (by rw [c_1_2]; decide) (by rw [c_1_2]; decide) (by rw [c_1_2]; rfl) (by decide) ?_
    refine lv_iload_n hx hb dX5_isSetting_48 rfl (lv_at hl 1 rfl) ?_
    refine lv_i2l hx hb dX5_isSetting_49 rfl ?_
    refine lv_lconst (v := 0) hx hb dX5_isSetting_50 (by decide) ?_
    refine lv_lconst (v := 1) hx hb dX5_isSetting_51 (by decide) ?_
    refine k_calli (a := []) (z := []) (wc := []) (wc' := []) (w' := []) (va_runS (As := [.long y.toInt64, .long 0, .long 1]) (rest := []) ⟨hx, hb, hml, hown, hts⟩ (c_X5_in l D cI cJ y.toInt64 0 1 _) (cwS 3 hts gX5_isSetting_X5_in rfl rfl rfl (by decide +kernel) ⟨Nat.le_of_ble_eq_true rfl, Nat.le_of_ble_eq_true rfl⟩) ⟨kB_blind, k_pre (a := []) (z := []) rfl hK hP hD⟩ rfl rfl hl.1 rfl (lv_room (Nat.le_of_ble_eq_true rfl)) dX5_isSetting_52 ⟨Nat.zero_le _, Nat.zero_le _⟩) rfl rfl rfl hP hD hS hA (fun H locs hP hD hS => ?_)
    exact k_iret hx hb hr hlk hP hS dX5_isSetting_55 (bi_nar _) (by (rw [m_isSet, if_neg c_1_0, if_neg c_1_1, if_pos c_1_2]) <;> rfl) (fun h => h)
  refine lv_tableOut (tgt := 56) hx hb dX5_isSetting_1 (k_out3 c_1_0 c_1_1 c_1_2) (by decide) ?_
  refine lv_iconst (v := 0) hx hb dX5_isSetting_56 (by decide) ?_
  exact k_iret hx hb hr hlk hP hS dX5_isSetting_57 rfl (by (rw [m_isSet, if_neg c_1_0, if_neg c_1_1, if_neg c_1_2]) <;> rfl) (fun h => h)

def A_X5_set_r (M : MS) (st : Nat) (x y : Int32) : Int32 := (if (m_isSet x y) = true then o_putsR (o_setI M 2 0) st (4 + x.toNatClampNeg) else 0)
def A_X5_set_s0 (M : MS) (st : Nat) (x y : Int32) : MS := (if (m_isSet x y) = true then (o_puts (o_setI M 2 0) st (4 + x.toNatClampNeg) y) else o_setI M 2 1)
set_option maxHeartbeats 1000000 in
set_option maxRecDepth 100000 in
theorem c_X5_set (l : Launch) (D : va_G) (q : Nat → Nat) (cI cJ : ClassId) (M : MS) (x y : Int32) (st : Nat) (hst : M.1 0 = nI st) (hst4 : st ≤ 4) : kI l yX5_set wsX5_set ({ frames := 2, cells := 0, slots := 0, locals := 46 } : Room) D [(cI, .int), (cJ, .long)] [.ref (q 0), .int x, .int y] (moW q cI cJ M) (A_X5_set_r M st x y) (moW q cI cJ (A_X5_set_s0 M st x y)) := by
  refine kBody.met (cc := cX5_set) (maxL := 3) (ret := (some .int)) (by decide) rfl (Nat.le_of_ble_eq_true rfl) ?_
  intro p9 e9 s9 m9 below meth c9 A9 ls hx hb hr hml hts hown hlk hK hP hD hA hl
  have hown : s9.vm.findClass RX5 = some m9.cls := hown
  have inX5 : ∀ w ∈ wsX50, w ∈ wsX5_set := fun w h => List.mem_cons_of_mem _ (List.mem_append_right _ (h))
  have hS : va_S A9 s9.heap s9.heap [] := va_S.rf
  have hl : lv_has ls 3 [(0, .ref (q 0)), (1, .int x), (2, .int y)] := hl
  refine lv_aload_n hx hb dX5_set_0 rfl (lv_at hl 0 rfl) ?_
  refine lv_iload_n hx hb dX5_set_1 rfl (lv_at hl 1 rfl) ?_
  refine lv_iload_n hx hb dX5_set_2 rfl (lv_at hl 2 rfl) ?_
  refine k_calli (a := []) (z := moW q cI cJ M) (wc := []) (wc' := []) (w' := moW q cI cJ M) (va_runS (As := [.int x, .int y]) (rest := [.ref (q 0)]) ⟨hx, hb, hml, hown, hts⟩ (c_X5_isSetting l D cI cJ x y _) (cwS 2 hts gX5_set_X5_isSetting rfl rfl rfl (by decide +kernel) ⟨Nat.le_of_ble_eq_true rfl, Nat.le_of_ble_eq_true rfl⟩) ⟨kB_blind, k_pre (a := []) (z := moW q cI cJ M) rfl hK hP hD⟩ rfl rfl hl.1 rfl (lv_room (Nat.le_of_ble_eq_true rfl)) dX5_set_3 ⟨Nat.zero_le _, Nat.zero_le _⟩) rfl rfl rfl hP hD hS hA (fun H locs hP hD hS => ?_)
  refine lv_if_ne (tgt := 13) hx hb dX5_set_6 (by decide) (fun c_6_0 => ?_) (fun c_6_0 => ?_)
  · have c_6_0 : (m_isSet x y) = true := bi_n.mp c_6_0
    obtain ⟨hx3, hx9⟩ := m_isSetN c_6_0
    refine lv_iconst (v := 0) hx hb dX5_set_13 (by decide) ?_
    refine lv_iconst (v := 0) hx hb dX5_set_14 (by decide) ?_
    refine k_calli (a := []) (z := []) (wc := moW q cI cJ M) (wc' := moW q cI cJ (o_setI M 2 0)) (w' := moW q cI cJ (o_setI M 2 0)) (va_runV (As := [.int 0, .int 0]) (rest := []) ⟨hx, hb, hml, hown, hts⟩ (c_X5_goes00 l D q cI cJ M _) (cwV 2 hts gX5_set_X5_goes rfl rfl rfl (by decide +kernel) ⟨Nat.le_of_ble_eq_true rfl, Nat.le_of_ble_eq_true rfl⟩) ⟨kB_blind, va_recv hK hP (ci := 5) (q0 := 0) rfl rfl, k_pre (a := []) (z := []) (k_w0 _) hK hP hD⟩ rfl rfl hl.1 rfl (lv_room (Nat.le_of_ble_eq_true rfl)) dX5_set_15 ⟨Nat.zero_le _, Nat.zero_le _⟩) (k_w0 _) (k_w0 _) (moW_ad _ _ _ _ _) hP hD hS hA (fun H locs hP hD hS => ?_)
    refine lv_if_eq (tgt := 32) hx hb dX5_set_18 (by decide) (fun h => absurd h (by decide)) (fun _ => ?_)
    refine lv_aload_n hx hb dX5_set_21 rfl (lv_at hl 0 rfl) ?_
    refine lv_iconst (v := 4) hx hb dX5_set_22 (by decide) ?_
    refine lv_iload_n hx hb dX5_set_23 rfl (lv_at hl 1 rfl) ?_
    refine lv_iadd hx hb dX5_set_24 ?_
    rw [show 4 + x = nI (4 + x.toNatClampNeg) from (by rw [← nI_add, hx9]; rfl)]
    refine lv_iload_n hx hb dX5_set_25 rfl (lv_at hl 2 rfl) ?_
    refine k_calli (a := []) (z := []) (wc := moW q cI cJ (o_setI M 2 0)) (wc' := moW q cI cJ (o_puts (o_setI M 2 0) st (4 + x.toNatClampNeg) y)) (w' := moW q cI cJ (o_puts (o_setI M 2 0) st (4 + x.toNatClampNeg) y)) (va_runV (As := [.int (nI (4 + x.toNatClampNeg)), .int y]) (rest := []) ⟨hx, hb, hml, hown, hts⟩ (c_X5_puts l D q cI cJ (o_setI M 2 0) (4 + x.toNatClampNeg) y (by omega) st hst hst4 _) (cwV 2 hts gX5_set_X5_puts rfl rfl rfl (by decide +kernel) ⟨Nat.le_of_ble_eq_true rfl, Nat.le_of_ble_eq_true rfl⟩) ⟨kB_blind, va_recv hK hP (ci := 5) (q0 := 0) rfl rfl, k_pre (a := []) (z := []) (k_w0 _) hK hP hD⟩ rfl rfl hl.1 rfl (lv_room (Nat.le_of_ble_eq_true rfl)) dX5_set_26 ⟨Nat.zero_le _, Nat.zero_le _⟩) (k_w0 _) (k_w0 _) (moW_ad _ _ _ _ _) hP hD hS hA (fun H locs hP hD hS => ?_)
    obtain ⟨T_3, hT_3⟩ : ∃ T9, T9 = o_puts (o_setI M 2 0) st (4 + x.toNatClampNeg) y := ⟨_, rfl⟩
    rw [← hT_3] at hP hD
    refine lv_goto (tgt := 33) hx hb dX5_set_29 (by decide) ?_
    exact k_iret hx hb hr hlk hP hS dX5_set_33 rfl (by rw [A_X5_set_r, if_pos c_6_0]) (k_P (congrArg (fun T9 => moW q cI cJ T9) (show T_3 = (A_X5_set_s0 M st x y) from by rw [hT_3, A_X5_set_s0, if_pos c_6_0])))
  · have c_6_0 : (m_isSet x y) = false := bi_0.mp c_6_0
    refine lv_iconst (v := 1) hx hb dX5_set_9 (by decide) ?_
    refine lv_goto (tgt := 14) hx hb dX5_set_10 (by decide) ?_
    refine lv_iconst (v := 0) hx hb dX5_set_14 (by decide) ?_
    refine k_calli (a := []) (z := []) (wc := moW q cI cJ M) (wc' := moW q cI cJ (o_setI M 2 1)) (w' := moW q cI cJ (o_setI M 2 1)) (va_runV (As := [.int 1, .int 0]) (rest := []) ⟨hx, hb, hml, hown, hts⟩ (c_X5_goes1 l D q cI cJ M 0 _) (cwV 2 hts gX5_set_X5_goes rfl rfl rfl (by decide +kernel) ⟨Nat.le_of_ble_eq_true rfl, Nat.le_of_ble_eq_true rfl⟩) ⟨kB_blind, va_recv hK hP (ci := 5) (q0 := 0) rfl rfl, k_pre (a := []) (z := []) (k_w0 _) hK hP hD⟩ rfl rfl hl.1 rfl (lv_room (Nat.le_of_ble_eq_true rfl)) dX5_set_15 ⟨Nat.zero_le _, Nat.zero_le _⟩) (k_w0 _) (k_w0 _) (moW_ad _ _ _ _ _) hP hD hS hA (fun H locs hP hD hS => ?_)
    refine lv_if_eq (tgt := 32) hx hb dX5_set_18 (by decide) (fun _ => ?_) (fun h => absurd h (by decide))
    refine lv_iconst (v := 0) hx hb dX5_set_32 (by decide) ?_
    exact k_iret hx hb hr hlk hP hS dX5_set_33 rfl (by rw [A_X5_set_r, if_neg (bi_nt c_6_0)]) (k_P (congrArg (fun T9 => moW q cI cJ T9) (show (o_setI M 2 1) = (A_X5_set_s0 M st x y) from by rw [A_X5_set_s0, if_neg (bi_nt c_6_0)])))

def A_X5_setDemand_r (M : MS) (st : Nat) (x y : Int32) : Int32 := (if (m_in x.toInt64 0 23) = true then (if (m_in y.toInt64 0 1000) = true then o_putsR (o_setI M 2 0) st (24 + x.toNatClampNeg) else 0) else (if (m_in y.toInt64 0 1000) = true then 0 else 0))
def A_X5_setDemand_s0 (M : MS) (st : Nat) (x y : Int32) : MS := (if (m_in x.toInt64 0 23) = true then (if (m_in y.toInt64 0 1000) = true then (o_puts (o_setI M 2 0) st (24 + x.toNatClampNeg) y) else o_setI M 2 2) else (if (m_in y.toInt64 0 1000) = true then o_setI M 2 1 else o_setI M 2 1))
set_option maxHeartbeats 1000000 in
set_option maxRecDepth 100000 in
theorem c_X5_setDemand (l : Launch) (D : va_G) (q : Nat → Nat) (cI cJ : ClassId) (M : MS) (x y : Int32) (st : Nat) (hst : M.1 0 = nI st) (hst4 : st ≤ 4) : kI l yX5_setDemand wsX5_setDemand ({ frames := 2, cells := 0, slots := 0, locals := 44 } : Room) D [(cI, .int), (cJ, .long)] [.ref (q 0), .int x, .int y] (moW q cI cJ M) (A_X5_setDemand_r M st x y) (moW q cI cJ (A_X5_setDemand_s0 M st x y)) := by
  refine kBody.met (cc := cX5_setDemand) (maxL := 3) (ret := (some .int)) (by decide) rfl (Nat.le_of_ble_eq_true rfl) ?_
  intro p9 e9 s9 m9 below meth c9 A9 ls hx hb hr hml hts hown hlk hK hP hD hA hl
  have hown : s9.vm.findClass RX5 = some m9.cls := hown
  have inX5 : ∀ w ∈ wsX50, w ∈ wsX5_setDemand := fun w h => List.mem_cons_of_mem _ (List.mem_append_right _ (h))
  have hS : va_S A9 s9.heap s9.heap [] := va_S.rf
  have hl : lv_has ls 3 [(0, .ref (q 0)), (1, .int x), (2, .int y)] := hl
  refine lv_aload_n hx hb dX5_setDemand_0 rfl (lv_at hl 0 rfl) ?_
  refine lv_iload_n hx hb dX5_setDemand_1 rfl (lv_at hl 1 rfl) ?_
  refine lv_i2l hx hb dX5_setDemand_2 rfl ?_
  refine lv_lconst (v := 0) hx hb dX5_setDemand_3 (by decide) ?_
  refine lv_ldc2 (v := 23) hx hb hown (hts (.constantLong RX5 74 (23)) (List.mem_of_getElem? (i := 1) rfl)) dX5_setDemand_4 ?_
  refine k_calli (a := []) (z := moW q cI cJ M) (wc := []) (wc' := []) (w' := moW q cI cJ M) (va_runS (As := [.long x.toInt64, .long 0, .long 23]) (rest := [.ref (q 0)]) ⟨hx, hb, hml, hown, hts⟩ (c_X5_in l D cI cJ x.toInt64 0 23 _) (cwS 3 hts gX5_setDemand_X5_in rfl rfl rfl (by decide +kernel) ⟨Nat.le_of_ble_eq_true rfl, Nat.le_of_ble_eq_true rfl⟩) ⟨kB_blind, k_pre (a := []) (z := moW q cI cJ M) rfl hK hP hD⟩ rfl rfl hl.1 rfl (lv_room (Nat.le_of_ble_eq_true rfl)) dX5_setDemand_7 ⟨Nat.zero_le _, Nat.zero_le _⟩) rfl rfl rfl hP hD hS hA (fun H locs hP hD hS => ?_)
  refine lv_if_ne (tgt := 17) hx hb dX5_setDemand_10 (by decide) (fun c_10_0 => ?_) (fun c_10_0 => ?_)
  · have c_10_0 : (m_in x.toInt64 0 23) = true := bi_n.mp c_10_0
    obtain ⟨hx3, hx9⟩ := m_inN (N := 23) c_10_0 rfl (by decide)
    refine lv_iconst (v := 0) hx hb dX5_setDemand_17 (by decide) ?_
    refine lv_iload_n hx hb dX5_setDemand_18 rfl (lv_at hl 2 rfl) ?_
    refine lv_i2l hx hb dX5_setDemand_19 rfl ?_
    refine lv_lconst (v := 0) hx hb dX5_setDemand_20 (by decide) ?_
    refine lv_ldc2 (v := 1000) hx hb hown (hts (.constantLong RX5 76 (1000)) (List.mem_of_getElem? (i := 2) rfl)) dX5_setDemand_21 ?_
    refine k_calli (a := []) (z := moW q cI cJ M) (wc := []) (wc' := []) (w' := moW q cI cJ M) (va_runS (As := [.long y.toInt64, .long 0, .long 1000]) (rest := [.int 0, .ref (q 0)]) ⟨hx, hb, hml, hown, hts⟩ (c_X5_in l D cI cJ y.toInt64 0 1000 _) (cwS 3 hts gX5_setDemand_X5_in rfl rfl rfl (by decide +kernel) ⟨Nat.le_of_ble_eq_true rfl, Nat.le_of_ble_eq_true rfl⟩) ⟨kB_blind, k_pre (a := []) (z := moW q cI cJ M) rfl hK hP hD⟩ rfl rfl hl.1 rfl (lv_room (Nat.le_of_ble_eq_true rfl)) dX5_setDemand_24 ⟨Nat.zero_le _, Nat.zero_le _⟩) rfl rfl rfl hP hD hS hA (fun H locs hP hD hS => ?_)
    refine lv_if_ne (tgt := 34) hx hb dX5_setDemand_27 (by decide) (fun c_27_1 => ?_) (fun c_27_1 => ?_)
    · have c_27_1 : (m_in y.toInt64 0 1000) = true := bi_n.mp c_27_1
      refine lv_iconst (v := 0) hx hb dX5_setDemand_34 (by decide) ?_
      refine k_calli (a := []) (z := []) (wc := moW q cI cJ M) (wc' := moW q cI cJ (o_setI M 2 0)) (w' := moW q cI cJ (o_setI M 2 0)) (va_runV (As := [.int 0, .int 0]) (rest := []) ⟨hx, hb, hml, hown, hts⟩ (c_X5_goes00 l D q cI cJ M _) (cwV 2 hts gX5_setDemand_X5_goes rfl rfl rfl (by decide +kernel) ⟨Nat.le_of_ble_eq_true rfl, Nat.le_of_ble_eq_true rfl⟩) ⟨kB_blind, va_recv hK hP (ci := 5) (q0 := 0) rfl rfl, k_pre (a := []) (z := []) (k_w0 _) hK hP hD⟩ rfl rfl hl.1 rfl (lv_room (Nat.le_of_ble_eq_true rfl)) dX5_setDemand_35 ⟨Nat.zero_le _, Nat.zero_le _⟩) (k_w0 _) (k_w0 _) (moW_ad _ _ _ _ _) hP hD hS hA (fun H locs hP hD hS => ?_)
      refine lv_if_eq (tgt := 53) hx hb dX5_setDemand_38 (by decide) (fun h => absurd h (by decide)) (fun _ => ?_)
      refine lv_aload_n hx hb dX5_setDemand_41 rfl (lv_at hl 0 rfl) ?_
      refine lv_bipush (v := 24) hx hb dX5_setDemand_42 (by decide) ?_
      refine lv_iload_n hx hb dX5_setDemand_44 rfl (lv_at hl 1 rfl) ?_
      refine lv_iadd hx hb dX5_setDemand_45 ?_
      rw [show 24 + x = nI (24 + x.toNatClampNeg) from (by rw [← nI_add, hx9]; rfl)]
      refine lv_iload_n hx hb dX5_setDemand_46 rfl (lv_at hl 2 rfl) ?_
      refine k_calli (a := []) (z := []) (wc := moW q cI cJ (o_setI M 2 0)) (wc' := moW q cI cJ (o_puts (o_setI M 2 0) st (24 + x.toNatClampNeg) y)) (w' := moW q cI cJ (o_puts (o_setI M 2 0) st (24 + x.toNatClampNeg) y)) (va_runV (As := [.int (nI (24 + x.toNatClampNeg)), .int y]) (rest := []) ⟨hx, hb, hml, hown, hts⟩ (c_X5_puts l D q cI cJ (o_setI M 2 0) (24 + x.toNatClampNeg) y (by omega) st hst hst4 _) (cwV 2 hts gX5_setDemand_X5_puts rfl rfl rfl (by decide +kernel) ⟨Nat.le_of_ble_eq_true rfl, Nat.le_of_ble_eq_true rfl⟩) ⟨kB_blind, va_recv hK hP (ci := 5) (q0 := 0) rfl rfl, k_pre (a := []) (z := []) (k_w0 _) hK hP hD⟩ rfl rfl hl.1 rfl (lv_room (Nat.le_of_ble_eq_true rfl)) dX5_setDemand_47 ⟨Nat.zero_le _, Nat.zero_le _⟩) (k_w0 _) (k_w0 _) (moW_ad _ _ _ _ _) hP hD hS hA (fun H locs hP hD hS => ?_)
      obtain ⟨T_4, hT_4⟩ : ∃ T9, T9 = o_puts (o_setI M 2 0) st (24 + x.toNatClampNeg) y := ⟨_, rfl⟩
      rw [← hT_4] at hP hD
      refine lv_goto (tgt := 54) hx hb dX5_setDemand_50 (by decide) ?_
      exact k_iret hx hb hr hlk hP hS dX5_setDemand_54 rfl (by rw [A_X5_setDemand_r, if_pos c_10_0, if_pos c_27_1]) (k_P (congrArg (fun T9 => moW q cI cJ T9) (show T_4 = (A_X5_setDemand_s0 M st x y) from by rw [hT_4, A_X5_setDemand_s0, if_pos c_10_0, if_pos c_27_1])))
    · have c_27_1 : (m_in y.toInt64 0 1000) = false := bi_0.mp c_27_1
      refine lv_iconst (v := 1) hx hb dX5_setDemand_30 (by decide) ?_
      refine lv_goto (tgt := 35) hx hb dX5_setDemand_31 (by decide) ?_
      refine k_calli (a := []) (z := []) (wc := moW q cI cJ M) (wc' := moW q cI cJ (o_setI M 2 2)) (w' := moW q cI cJ (o_setI M 2 2)) (va_runV (As := [.int 0, .int 1]) (rest := []) ⟨hx, hb, hml, hown, hts⟩ (c_X5_goes01 l D q cI cJ M _) (cwV 2 hts gX5_setDemand_X5_goes rfl rfl rfl (by decide +kernel) ⟨Nat.le_of_ble_eq_true rfl, Nat.le_of_ble_eq_true rfl⟩) ⟨kB_blind, va_recv hK hP (ci := 5) (q0 := 0) rfl rfl, k_pre (a := []) (z := []) (k_w0 _) hK hP hD⟩ rfl rfl hl.1 rfl (lv_room (Nat.le_of_ble_eq_true rfl)) dX5_setDemand_35 ⟨Nat.zero_le _, Nat.zero_le _⟩) (k_w0 _) (k_w0 _) (moW_ad _ _ _ _ _) hP hD hS hA (fun H locs hP hD hS => ?_)
      refine lv_if_eq (tgt := 53) hx hb dX5_setDemand_38 (by decide) (fun _ => ?_) (fun h => absurd h (by decide))
      refine lv_iconst (v := 0) hx hb dX5_setDemand_53 (by decide) ?_
      exact k_iret hx hb hr hlk hP hS dX5_setDemand_54 rfl (by rw [A_X5_setDemand_r, if_pos c_10_0, if_neg (bi_nt c_27_1)]) (k_P (congrArg (fun T9 => moW q cI cJ T9) (show (o_setI M 2 2) = (A_X5_setDemand_s0 M st x y) from by rw [A_X5_setDemand_s0, if_pos c_10_0, if_neg (bi_nt c_27_1)])))
  · have c_10_0 : (m_in x.toInt64 0 23) = false := bi_0.mp c_10_0
    refine lv_iconst (v := 1) hx hb dX5_setDemand_13 (by decide) ?_
    refine lv_goto (tgt := 18) hx hb dX5_setDemand_14 (by decide) ?_
    refine lv_iload_n hx hb dX5_setDemand_18 rfl (lv_at hl 2 rfl) ?_
    refine lv_i2l hx hb dX5_setDemand_19 rfl ?_
    refine lv_lconst (v := 0) hx hb dX5_setDemand_20 (by decide) ?_
    refine lv_ldc2 (v := 1000) hx hb hown (hts (.constantLong RX5 76 (1000)) (List.mem_of_getElem? (i := 2) rfl)) dX5_setDemand_21 ?_
    refine k_calli (a := []) (z := moW q cI cJ M) (wc := []) (wc' := []) (w' := moW q cI cJ M) (va_runS (As := [.long y.toInt64, .long 0, .long 1000]) (rest := [.int 1, .ref (q 0)]) ⟨hx, hb, hml, hown, hts⟩ (c_X5_in l D cI cJ y.toInt64 0 1000 _) (cwS 3 hts gX5_setDemand_X5_in rfl rfl rfl (by decide +kernel) ⟨Nat.le_of_ble_eq_true rfl, Nat.le_of_ble_eq_true rfl⟩) ⟨kB_blind, k_pre (a := []) (z := moW q cI cJ M) rfl hK hP hD⟩ rfl rfl hl.1 rfl (lv_room (Nat.le_of_ble_eq_true rfl)) dX5_setDemand_24 ⟨Nat.zero_le _, Nat.zero_le _⟩) rfl rfl rfl hP hD hS hA (fun H locs hP hD hS => ?_)
    refine lv_if_ne (tgt := 34) hx hb dX5_setDemand_27 (by decide) (fun c_27_5 => ?_) (fun c_27_5 => ?_)
    · have c_27_5 : (m_in y.toInt64 0 1000) = true := bi_n.mp c_27_5
      refine lv_iconst (v := 0) hx hb dX5_setDemand_34 (by decide) ?_
      refine k_calli (a := []) (z := []) (wc := moW q cI cJ M) (wc' := moW q cI cJ (o_setI M 2 1)) (w' := moW q cI cJ (o_setI M 2 1)) (va_runV (As := [.int 1, .int 0]) (rest := []) ⟨hx, hb, hml, hown, hts⟩ (c_X5_goes1 l D q cI cJ M 0 _) (cwV 2 hts gX5_setDemand_X5_goes rfl rfl rfl (by decide +kernel) ⟨Nat.le_of_ble_eq_true rfl, Nat.le_of_ble_eq_true rfl⟩) ⟨kB_blind, va_recv hK hP (ci := 5) (q0 := 0) rfl rfl, k_pre (a := []) (z := []) (k_w0 _) hK hP hD⟩ rfl rfl hl.1 rfl (lv_room (Nat.le_of_ble_eq_true rfl)) dX5_setDemand_35 ⟨Nat.zero_le _, Nat.zero_le _⟩) (k_w0 _) (k_w0 _) (moW_ad _ _ _ _ _) hP hD hS hA (fun H locs hP hD hS => ?_)
      refine lv_if_eq (tgt := 53) hx hb dX5_setDemand_38 (by decide) (fun _ => ?_) (fun h => absurd h (by decide))
      refine lv_iconst (v := 0) hx hb dX5_setDemand_53 (by decide) ?_
      exact k_iret hx hb hr hlk hP hS dX5_setDemand_54 rfl (by rw [A_X5_setDemand_r, if_neg (bi_nt c_10_0), if_pos c_27_5]) (k_P (congrArg (fun T9 => moW q cI cJ T9) (show (o_setI M 2 1) = (A_X5_setDemand_s0 M st x y) from by rw [A_X5_setDemand_s0, if_neg (bi_nt c_10_0), if_pos c_27_5])))
    · have c_27_5 : (m_in y.toInt64 0 1000) = false := bi_0.mp c_27_5
      refine lv_iconst (v := 1) hx hb dX5_setDemand_30 (by decide) ?_
      refine lv_goto (tgt := 35) hx hb dX5_setDemand_31 (by decide) ?_
      refine k_calli (a := []) (z := []) (wc := moW q cI cJ M) (wc' := moW q cI cJ (o_setI M 2 1)) (w' := moW q cI cJ (o_setI M 2 1)) (va_runV (As := [.int 1, .int 1]) (rest := []) ⟨hx, hb, hml, hown, hts⟩ (c_X5_goes1 l D q cI cJ M 1 _) (cwV 2 hts gX5_setDemand_X5_goes rfl rfl rfl (by decide +kernel) ⟨Nat.le_of_ble_eq_true rfl, Nat.le_of_ble_eq_true rfl⟩) ⟨kB_blind, va_recv hK hP (ci := 5) (q0 := 0) rfl rfl, k_pre (a := []) (z := []) (k_w0 _) hK hP hD⟩ rfl rfl hl.1 rfl (lv_room (Nat.le_of_ble_eq_true rfl)) dX5_setDemand_35 ⟨Nat.zero_le _, Nat.zero_le _⟩) (k_w0 _) (k_w0 _) (moW_ad _ _ _ _ _) hP hD hS hA (fun H locs hP hD hS => ?_)
      refine lv_if_eq (tgt := 53) hx hb dX5_setDemand_38 (by decide) (fun _ => ?_) (fun h => absurd h (by decide))
      refine lv_iconst (v := 0) hx hb dX5_setDemand_53 (by decide) ?_
      exact k_iret hx hb hr hlk hP hS dX5_setDemand_54 rfl (by rw [A_X5_setDemand_r, if_neg (bi_nt c_10_0), if_neg (bi_nt c_27_5)]) (k_P (congrArg (fun T9 => moW q cI cJ T9) (show (o_setI M 2 1) = (A_X5_setDemand_s0 M st x y) from by rw [A_X5_setDemand_s0, if_neg (bi_nt c_10_0), if_neg (bi_nt c_27_5)])))
