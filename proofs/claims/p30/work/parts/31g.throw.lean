def c_isSet (x y : Int32) : Bool := decide (¬ x < 0 ∧ ¬ 3 ≤ x ∧ ¬ y < c_least x.toNatClampNeg ∧ ¬ c_most x.toNatClampNeg < y)

set_option maxHeartbeats 1000000 in
set_option maxRecDepth 100000 in
theorem c_X3_isSettingValue (l : Launch) (D : va_G) (cI cJ : ClassId) (x y : Int32)  : kTI l yX3_isSettingValue wsX3_isSettingValue ({ frames := 0, cells := 0, slots := 0, locals := 0 } : Room) D [(cI, .int), (cJ, .long)] [.int x, .int y] ([]) (bi (c_isSet x y)) ([]) := by
  refine kTBody.met (cc := cX3_isSettingValue) (maxL := 2) (ret := (some .boolean)) (by decide) rfl (Nat.le_of_ble_eq_true rfl) ?_
  intro p9 e9 s9 m9 below meth c9 A9 ls hx hb hr hml hts hown hlk hK hP hD hA hTT hl
  have hown : s9.vm.findClass RX3 = some m9.cls := hown
  have hS : va_S A9 s9.heap s9.heap [] := va_S.rf
  have hl : lv_has ls 2 [(0, .int x), (1, .int y)] := hl
  obtain ⟨⟨tL, zL, aL⟩, ⟨tG, zG, aG⟩⟩ := hTT.2.2.2.2.2
  refine lv_iload_n hx hb dX3_isSettingValue_0 rfl (lv_at hl 0 rfl) ?_
  refine lv_if_lt (tgt := 31) hx hb dX3_isSettingValue_1 (by decide) (fun c_1_0 => ?_) (fun c_1_0 => ?_)
  · have c_1_0 : x < 0 := c_1_0
    refine lv_iconst (v := 0) hx hb dX3_isSettingValue_31 (by decide) ?_
    exact k_iret hx hb hr hlk hP hS dX3_isSettingValue_32 rfl (by simp [c_isSet, bi, c_1_0]) (fun h => h)
  · have c_1_0 : ¬ x < 0 := c_1_0
    refine lv_iload_n hx hb dX3_isSettingValue_4 rfl (lv_at hl 0 rfl) ?_
    refine lv_iconst (v := 3) hx hb dX3_isSettingValue_5 (by decide) ?_
    refine lv_icmp_ge (tgt := 31) hx hb dX3_isSettingValue_6 (by decide) (fun c_6_1 => ?_) (fun c_6_1 => ?_)
    · have c_6_1 : 3 ≤ x := c_6_1
      refine lv_iconst (v := 0) hx hb dX3_isSettingValue_31 (by decide) ?_
      exact k_iret hx hb hr hlk hP hS dX3_isSettingValue_32 rfl (by simp [c_isSet, bi, c_1_0, c_6_1]) (fun h => h)
    · have c_6_1 : ¬ 3 ≤ x := c_6_1
      have hin := k_in0 (N := 3) rfl c_1_0 c_6_1
      refine lv_iload_n hx hb dX3_isSettingValue_9 rfl (lv_at hl 1 rfl) ?_
      refine va_gets hx hb zL hS hown (hts (.fieldLink RX3 81 "PumpOaths$Station" "LEAST_SETTING" "[I") (List.mem_of_getElem? (i := 1) rfl)) (fun _ h9 => h9) dX3_isSettingValue_10 ?_
      refine lv_iload_n hx hb dX3_isSettingValue_13 rfl (lv_at hl 0 rfl) ?_
      refine va_ti hx hb aL hS hin rfl dX3_isSettingValue_14 ?_
      refine lv_icmp_lt (tgt := 31) hx hb dX3_isSettingValue_15 (by decide) (fun c_15_2 => ?_) (fun c_15_2 => ?_)
      · have c_15_2 : y < (c_least x.toNatClampNeg) := c_15_2
        refine lv_iconst (v := 0) hx hb dX3_isSettingValue_31 (by decide) ?_
        exact k_iret hx hb hr hlk hP hS dX3_isSettingValue_32 rfl (by simp [c_isSet, bi, c_1_0, c_6_1, c_15_2]) (fun h => h)
      · have c_15_2 : ¬ y < (c_least x.toNatClampNeg) := c_15_2
        refine lv_iload_n hx hb dX3_isSettingValue_18 rfl (lv_at hl 1 rfl) ?_
        refine va_gets hx hb zG hS hown (hts (.fieldLink RX3 84 "PumpOaths$Station" "GREATEST_SETTING" "[I") (List.mem_of_getElem? (i := 2) rfl)) (fun _ h9 => h9) dX3_isSettingValue_19 ?_
        refine lv_iload_n hx hb dX3_isSettingValue_22 rfl (lv_at hl 0 rfl) ?_
        refine va_ti hx hb aG hS hin rfl dX3_isSettingValue_23 ?_
        refine lv_icmp_gt (tgt := 31) hx hb dX3_isSettingValue_24 (by decide) (fun c_24_3 => ?_) (fun c_24_3 => ?_)
        · have c_24_3 : (c_most x.toNatClampNeg) < y := c_24_3
          refine lv_iconst (v := 0) hx hb dX3_isSettingValue_31 (by decide) ?_
          exact k_iret hx hb hr hlk hP hS dX3_isSettingValue_32 rfl (by simp [c_isSet, bi, c_1_0, c_6_1, c_15_2, c_24_3]) (fun h => h)
        · have c_24_3 : ¬ (c_most x.toNatClampNeg) < y := c_24_3
          refine lv_iconst (v := 1) hx hb dX3_isSettingValue_27 (by decide) ?_
          refine lv_goto (tgt := 32) hx hb dX3_isSettingValue_28 (by decide) ?_
          exact k_iret hx hb hr hlk hP hS dX3_isSettingValue_32 rfl (by simp [c_isSet, bi, c_1_0, c_6_1, c_15_2, c_24_3]) (fun h => h)

def A_X4_set_r (S1 S2 S3 S4 S5 S6 : SS) (T : TS) (sv : Int32) (x y : Int32) : Int32 := (if (c_isSet x y) = true then s_set S2 x else 0)
def A_X4_set_s0 (S1 S2 S3 S4 S5 S6 : SS) (T : TS) (sv : Int32) (x y : Int32) : Int32 := (if (c_isSet x y) = true then (c_sv sv) else sv)
def A_X4_set_s2 (S1 S2 S3 S4 S5 S6 : SS) (T : TS) (sv : Int32) (x y : Int32) : SS := (if (c_isSet x y) = true then (s_chS S2 x y) else S2)
def A_X4_set_s3 (S1 S2 S3 S4 S5 S6 : SS) (T : TS) (sv : Int32) (x y : Int32) : SS := (if (c_isSet x y) = true then S2 else S3)
def A_X4_set_s4 (S1 S2 S3 S4 S5 S6 : SS) (T : TS) (sv : Int32) (x y : Int32) : SS := (if (c_isSet x y) = true then S3 else S4)
def A_X4_set_s5 (S1 S2 S3 S4 S5 S6 : SS) (T : TS) (sv : Int32) (x y : Int32) : SS := (if (c_isSet x y) = true then S4 else S5)
def A_X4_set_s6 (S1 S2 S3 S4 S5 S6 : SS) (T : TS) (sv : Int32) (x y : Int32) : SS := (if (c_isSet x y) = true then S5 else S6)
def A_X4_set_t (S1 S2 S3 S4 S5 S6 : SS) (T : TS) (sv : Int32) (x y : Int32) : Option String := (if (c_isSet x y) = true then none else some "java/lang/IllegalArgumentException")
set_option maxHeartbeats 1000000 in
set_option maxRecDepth 100000 in
theorem c_X4_set (l : Launch) (D : va_G) (o : Nat) (q1 q2 q3 q4 q5 q6 qt : Nat → Nat) (cI cJ : ClassId) (S1 S2 S3 S4 S5 S6 : SS) (T : TS) (sv : Int32) (x y : Int32)  (hst : l.stackTraces = false) : kxI l yX4_set wsX4_set ({ frames := 6, cells := 1, slots := 6, locals := 102 } : Room) D [(cI, .int), (cJ, .long)] [.ref o, .int x, .int y] (poC o q1 q2 q3 q4 q5 q6 qt sv ++ (stW q1 cI cJ S1 ++ (stW q2 cI cJ S2 ++ (stW q3 cI cJ S3 ++ (stW q4 cI cJ S4 ++ (stW q5 cI cJ S5 ++ (stW q6 cI cJ S6 ++ (txW qt cI T)))))))) (A_X4_set_t S1 S2 S3 S4 S5 S6 T sv x y) (A_X4_set_r S1 S2 S3 S4 S5 S6 T sv x y) (poC o q1 q2 q3 q4 q5 q6 qt (A_X4_set_s0 S1 S2 S3 S4 S5 S6 T sv x y) ++ (stW q1 cI cJ S1 ++ (stW q2 cI cJ (A_X4_set_s2 S1 S2 S3 S4 S5 S6 T sv x y) ++ (stW q3 cI cJ (A_X4_set_s3 S1 S2 S3 S4 S5 S6 T sv x y) ++ (stW q4 cI cJ (A_X4_set_s4 S1 S2 S3 S4 S5 S6 T sv x y) ++ (stW q5 cI cJ (A_X4_set_s5 S1 S2 S3 S4 S5 S6 T sv x y) ++ (stW q6 cI cJ (A_X4_set_s6 S1 S2 S3 S4 S5 S6 T sv x y) ++ (txW qt cI T)))))))) := by
  refine kxBody.met (cc := cX4_set) (maxL := 3) (ret := (some .int)) (by decide) rfl (Nat.le_of_ble_eq_true rfl) ?_
  intro p9 e9 s9 m9 below meth c9 A9 ls hx hb hr hml hts hown hlk hK hP hD hA hTT htb hl
  have hown : s9.vm.findClass RX4 = some m9.cls := hown
  have inX0 : ∀ w ∈ wsX00, w ∈ wsX4_set := fun w h => List.mem_cons_of_mem _ (List.mem_append_left _ (List.mem_append_right _ (h)))
  have inX2 : ∀ w ∈ wsX20, w ∈ wsX4_set := fun w h => List.mem_cons_of_mem _ (List.mem_append_left _ (List.mem_append_left _ (List.mem_append_right _ (h))))
  have inX3 : ∀ w ∈ wsX30, w ∈ wsX4_set := fun w h => List.mem_cons_of_mem _ (List.mem_append_left _ (List.mem_append_left _ (List.mem_append_left _ (List.mem_append_right _ (h)))))
  have inX4 : ∀ w ∈ wsX40, w ∈ wsX4_set := fun w h => List.mem_cons_of_mem _ (List.mem_append_left _ (List.mem_append_left _ (List.mem_append_left _ (List.mem_append_left _ (List.mem_append_right _ (h))))))
  have hS : va_S A9 s9.heap s9.heap [] := va_S.rf
  have hl : lv_has ls 3 [(0, .ref o), (1, .int x), (2, .int y)] := hl
  refine lv_iload_n hx hb dX4_set_0 rfl (lv_at hl 1 rfl) ?_
  refine lv_iload_n hx hb dX4_set_1 rfl (lv_at hl 2 rfl) ?_
  refine k_calli (a := []) (z := (poC o q1 q2 q3 q4 q5 q6 qt sv ++ (stW q1 cI cJ S1 ++ (stW q2 cI cJ S2 ++ (stW q3 cI cJ S3 ++ (stW q4 cI cJ S4 ++ (stW q5 cI cJ S5 ++ (stW q6 cI cJ S6 ++ (txW qt cI T))))))))) (wc := []) (wc' := []) (w' := (poC o q1 q2 q3 q4 q5 q6 qt sv ++ (stW q1 cI cJ S1 ++ (stW q2 cI cJ S2 ++ (stW q3 cI cJ S3 ++ (stW q4 cI cJ S4 ++ (stW q5 cI cJ S5 ++ (stW q6 cI cJ S6 ++ (txW qt cI T))))))))) (va_runS (As := [.int x, .int y]) (rest := []) ⟨hx, hb, hml, hown, hts⟩ (c_X3_isSettingValue l D cI cJ x y _) (va_cwS 2 hts gX4_set_X3_isSettingValue rfl rfl rfl (by decide +kernel) ⟨Nat.le_of_ble_eq_true rfl, Nat.le_of_ble_eq_true rfl⟩) ⟨kBT_blind, k_preT (a := []) (z := (poC o q1 q2 q3 q4 q5 q6 qt sv ++ (stW q1 cI cJ S1 ++ (stW q2 cI cJ S2 ++ (stW q3 cI cJ S3 ++ (stW q4 cI cJ S4 ++ (stW q5 cI cJ S5 ++ (stW q6 cI cJ S6 ++ (txW qt cI T))))))))) rfl hK hP hD hS hA hTT⟩ rfl rfl hl.1 rfl (lv_room (Nat.le_of_ble_eq_true rfl)) dX4_set_2 ⟨Nat.zero_le _, Nat.zero_le _⟩) rfl rfl rfl hP hD hS hA (fun H locs hP hD hS => ?_)
  refine lv_if_ne (tgt := 18) hx hb dX4_set_5 (by decide) (fun c_5_0 => ?_) (fun c_5_0 => ?_)
  · have c_5_0 : (c_isSet x y) = true := bi_n.mp c_5_0
    refine lv_aload_n hx hb dX4_set_18 rfl (lv_at hl 0 rfl) ?_
    refine k_callv (a := []) (z := []) (wc := (poC o q1 q2 q3 q4 q5 q6 qt sv ++ (stW q1 cI cJ S1 ++ (stW q2 cI cJ S2 ++ (stW q3 cI cJ S3 ++ (stW q4 cI cJ S4 ++ (stW q5 cI cJ S5 ++ (stW q6 cI cJ S6 ++ (txW qt cI T))))))))) (wc' := (poC o q1 q2 q3 q4 q5 q6 qt (c_sv sv) ++ (stW q1 cI cJ S1 ++ (stW q2 cI cJ S2 ++ (stW q3 cI cJ S2 ++ (stW q4 cI cJ S3 ++ (stW q5 cI cJ S4 ++ (stW q6 cI cJ S5 ++ (txW qt cI T))))))))) (w' := (poC o q1 q2 q3 q4 q5 q6 qt (c_sv sv) ++ (stW q1 cI cJ S1 ++ (stW q2 cI cJ S2 ++ (stW q3 cI cJ S2 ++ (stW q4 cI cJ S3 ++ (stW q5 cI cJ S4 ++ (stW q6 cI cJ S5 ++ (txW qt cI T))))))))) (va_runV (As := []) (rest := []) ⟨hx, hb, hml, hown, hts⟩ (c_X4_save l D o q1 q2 q3 q4 q5 q6 qt cI cJ S1 S2 S3 S4 S5 S6 T sv  _) (cwV 0 hts gX4_set_X4_save rfl rfl rfl (by decide +kernel) ⟨Nat.le_of_ble_eq_true rfl, Nat.le_of_ble_eq_true rfl⟩) ⟨kB_blind, va_recv hK hP (ci := 4) (q0 := 0) rfl rfl, k_pre (a := []) (z := []) (k_w0 _) hK hP hD⟩ rfl rfl hl.1 rfl (lv_room (Nat.le_of_ble_eq_true rfl)) dX4_set_19 ⟨Nat.zero_le _, Nat.zero_le _⟩) (k_w0 _) (k_w0 _) rfl hP hD hS hA (fun H locs hP hD hS => ?_)
    obtain ⟨T_2, hT_2⟩ : ∃ T9, T9 = c_sv sv := ⟨_, rfl⟩
    rw [← hT_2] at hP hD
    refine lv_aload_n hx hb dX4_set_22 rfl (lv_at hl 0 rfl) ?_
    refine va_get (D := D) (ci := 4) (v := .ref (q2 0)) (C := RX4) (T := TX4) (N := 8) hx hb hts inX4 hown hK hP 0 rfl rfl 0 (by decide) (hts (.fieldLink RX4 10 "PumpOaths" "now" "LPumpOaths$Station;") (List.mem_of_getElem? (i := 3) rfl)) (fun _ h9 => h9) rfl dX4_set_23 ?_
    refine lv_iload_n hx hb dX4_set_26 rfl (lv_at hl 1 rfl) ?_
    refine lv_iload_n hx hb dX4_set_27 rfl (lv_at hl 2 rfl) ?_
    refine k_calli (a := (poC o q1 q2 q3 q4 q5 q6 qt T_2 ++ (stW q1 cI cJ S1))) (z := (stW q3 cI cJ S2 ++ (stW q4 cI cJ S3 ++ (stW q5 cI cJ S4 ++ (stW q6 cI cJ S5 ++ (txW qt cI T)))))) (wc := stW q2 cI cJ S2) (wc' := stW q2 cI cJ (s_chS S2 x y)) (w' := (poC o q1 q2 q3 q4 q5 q6 qt T_2 ++ (stW q1 cI cJ S1 ++ (stW q2 cI cJ (s_chS S2 x y) ++ (stW q3 cI cJ S2 ++ (stW q4 cI cJ S3 ++ (stW q5 cI cJ S4 ++ (stW q6 cI cJ S5 ++ (txW qt cI T))))))))) (va_runV (As := [.int x, .int y]) (rest := []) ⟨hx, hb, hml, hown, hts⟩ (c_X3_changeSetting l D q2 cI cJ S2 x y _) (cwV 2 hts gX4_set_X3_changeSetting rfl rfl rfl (by decide +kernel) ⟨Nat.le_of_ble_eq_true rfl, Nat.le_of_ble_eq_true rfl⟩) ⟨kB_blind, va_recv hK hP (ci := 3) (q0 := 16) rfl rfl, k_pre (a := (poC o q1 q2 q3 q4 q5 q6 qt T_2 ++ (stW q1 cI cJ S1))) (z := (stW q3 cI cJ S2 ++ (stW q4 cI cJ S3 ++ (stW q5 cI cJ S4 ++ (stW q6 cI cJ S5 ++ (txW qt cI T)))))) rfl hK hP hD⟩ rfl rfl hl.1 rfl (lv_room (Nat.le_of_ble_eq_true rfl)) dX4_set_28 ⟨Nat.zero_le _, Nat.zero_le _⟩) rfl rfl (stW_ad _ _ _ _ _) hP hD hS hA (fun H locs hP hD hS => ?_)
    obtain ⟨T_3, hT_3⟩ : ∃ T9, T9 = s_chS S2 x y := ⟨_, rfl⟩
    rw [← hT_3] at hP hD
    exact k_xiret hx hb hr hlk hP hS dX4_set_31 rfl (by rw [A_X4_set_t, if_pos c_5_0]) (by rw [A_X4_set_r, if_pos c_5_0]) (k_P ((((((congrArg (fun T9 => (poC o q1 q2 q3 q4 q5 q6 qt T9 ++ (stW q1 cI cJ S1 ++ (stW q2 cI cJ T_3 ++ (stW q3 cI cJ S2 ++ (stW q4 cI cJ S3 ++ (stW q5 cI cJ S4 ++ (stW q6 cI cJ S5 ++ (txW qt cI T))))))))) (show T_2 = (A_X4_set_s0 S1 S2 S3 S4 S5 S6 T sv x y) from by rw [hT_2, A_X4_set_s0, if_pos c_5_0])).trans (congrArg (fun T9 => (poC o q1 q2 q3 q4 q5 q6 qt (A_X4_set_s0 S1 S2 S3 S4 S5 S6 T sv x y) ++ (stW q1 cI cJ S1 ++ (stW q2 cI cJ T9 ++ (stW q3 cI cJ S2 ++ (stW q4 cI cJ S3 ++ (stW q5 cI cJ S4 ++ (stW q6 cI cJ S5 ++ (txW qt cI T))))))))) (show T_3 = (A_X4_set_s2 S1 S2 S3 S4 S5 S6 T sv x y) from by rw [hT_3, A_X4_set_s2, if_pos c_5_0]))).trans (congrArg (fun T9 => (poC o q1 q2 q3 q4 q5 q6 qt (A_X4_set_s0 S1 S2 S3 S4 S5 S6 T sv x y) ++ (stW q1 cI cJ S1 ++ (stW q2 cI cJ (A_X4_set_s2 S1 S2 S3 S4 S5 S6 T sv x y) ++ (stW q3 cI cJ T9 ++ (stW q4 cI cJ S3 ++ (stW q5 cI cJ S4 ++ (stW q6 cI cJ S5 ++ (txW qt cI T))))))))) (show S2 = (A_X4_set_s3 S1 S2 S3 S4 S5 S6 T sv x y) from by rw [A_X4_set_s3, if_pos c_5_0]))).trans (congrArg (fun T9 => (poC o q1 q2 q3 q4 q5 q6 qt (A_X4_set_s0 S1 S2 S3 S4 S5 S6 T sv x y) ++ (stW q1 cI cJ S1 ++ (stW q2 cI cJ (A_X4_set_s2 S1 S2 S3 S4 S5 S6 T sv x y) ++ (stW q3 cI cJ (A_X4_set_s3 S1 S2 S3 S4 S5 S6 T sv x y) ++ (stW q4 cI cJ T9 ++ (stW q5 cI cJ S4 ++ (stW q6 cI cJ S5 ++ (txW qt cI T))))))))) (show S3 = (A_X4_set_s4 S1 S2 S3 S4 S5 S6 T sv x y) from by rw [A_X4_set_s4, if_pos c_5_0]))).trans (congrArg (fun T9 => (poC o q1 q2 q3 q4 q5 q6 qt (A_X4_set_s0 S1 S2 S3 S4 S5 S6 T sv x y) ++ (stW q1 cI cJ S1 ++ (stW q2 cI cJ (A_X4_set_s2 S1 S2 S3 S4 S5 S6 T sv x y) ++ (stW q3 cI cJ (A_X4_set_s3 S1 S2 S3 S4 S5 S6 T sv x y) ++ (stW q4 cI cJ (A_X4_set_s4 S1 S2 S3 S4 S5 S6 T sv x y) ++ (stW q5 cI cJ T9 ++ (stW q6 cI cJ S5 ++ (txW qt cI T))))))))) (show S4 = (A_X4_set_s5 S1 S2 S3 S4 S5 S6 T sv x y) from by rw [A_X4_set_s5, if_pos c_5_0]))).trans (congrArg (fun T9 => (poC o q1 q2 q3 q4 q5 q6 qt (A_X4_set_s0 S1 S2 S3 S4 S5 S6 T sv x y) ++ (stW q1 cI cJ S1 ++ (stW q2 cI cJ (A_X4_set_s2 S1 S2 S3 S4 S5 S6 T sv x y) ++ (stW q3 cI cJ (A_X4_set_s3 S1 S2 S3 S4 S5 S6 T sv x y) ++ (stW q4 cI cJ (A_X4_set_s4 S1 S2 S3 S4 S5 S6 T sv x y) ++ (stW q5 cI cJ (A_X4_set_s5 S1 S2 S3 S4 S5 S6 T sv x y) ++ (stW q6 cI cJ T9 ++ (txW qt cI T))))))))) (show S5 = (A_X4_set_s6 S1 S2 S3 S4 S5 S6 T sv x y) from by rw [A_X4_set_s6, if_pos c_5_0]))))
  · have c_5_0 : (c_isSet x y) = false := bi_0.mp c_5_0
    exact k_throw (E := "java/lang/IllegalArgumentException") (ik := 47) (is := 86) (ic := 51) (text := "what or value is out of range") hx hb hst hown hTT htb (hml.trans hl.1.symm).symm hlk hP hS (List.mem_of_getElem? (i := 0) rfl) (by decide) (List.mem_of_getElem? (i := 6) rfl) (hts (.classLink RX4 47 "java/lang/IllegalArgumentException") (List.mem_of_getElem? (i := 1) rfl)) (hts (.initialized "java/lang/IllegalArgumentException") (List.mem_of_getElem? (i := 2) rfl)) (fun w h => hts w ((fun w h => List.mem_cons_of_mem _ (List.mem_append_right _ (h))) w h)) k_badIAE (fun w h => (List.mem_cons.mp h).elim (fun e => by rw [e]; rfl) (fun h => (List.mem_cons.mp h).elim (fun e => by rw [e]; rfl) (k_otIAE w))) dX4_set_8 dX4_set_11 dX4_set_12 dX4_set_14 dX4_set_17 (Nat.le_of_ble_eq_true rfl) (Nat.le_of_ble_eq_true rfl) (Nat.le_of_ble_eq_true rfl) (Nat.le_of_ble_eq_true rfl) (by rw [A_X4_set_t, if_neg (bi_nt c_5_0)])
