/-! THE CLASS: what its calls share -/
def c_in (x lo hi : Int32) : Bool := decide (¬ x < lo ∧ ¬ hi < x)
def c_svc (S : SS) (p : Int32) : Bool := p_has S p && decide (¬ S.2.2.1 4 p.toNatClampNeg = 2)
def c_time (S : SS) (w : Int32) : Bool := decide (¬ 1000000 < S.1 4 + w)
theorem p_swear_8 (S : SS) (n : Nat) (o : Int32) : (p_swear S n o).1 8 = S.1 8 := rfl
theorem p_out_8 (S : SS) (n : Nat) : (p_out S n).1 8 = S.1 8 := rfl
def c_wkAt (S : SS) (n : Nat) (o : Int32) (w : Nat) : Nat := frst (fun i => decide (¬ (s_pass (p_swear S n o) n (i + 1)).1 5 = S.1 5)) w
def c_wk (S : SS) (n : Nat) (o : Int32) (w : Nat) : SS := if c_wkAt S n o w < w then s_pass (p_swear S n o) n (c_wkAt S n o w + 1) else s_pass (p_swear S n o) n w
def c_wkR (S : SS) (n : Nat) (o : Int32) (w : Nat) : Bool := decide (¬ c_wkAt S n o w < w)
def c_emAt (S : SS) (n : Nat) : Nat := frst (fun i => decide ((s_pass (p_out S n) n i).1 1 = 0)) 1441
def c_em (S : SS) (n : Nat) : SS := s_pass (p_out S n) n (c_emAt S n)
def c_emR (S : SS) (n : Nat) : Int32 := if c_emAt S n < 1441 then nI (c_emAt S n) else -1
def c_nsAt (S : SS) (n : Nat) : Nat := frst (fun i => decide (¬ s_minR (s_pass S n i) n = -1)) 1440
def c_ns (S : SS) (n : Nat) : SS := if c_nsAt S n < 1440 then s_pass S n (c_nsAt S n + 1) else s_pass S n 1440
def c_nsR (S : SS) (n : Nat) : Int32 := if c_nsAt S n < 1440 then s_minR (s_pass S n (c_nsAt S n)) n else -1
theorem s_pass_s (S : SS) (n k : Nat) : s_pass S n (k + 1) = s_min (s_pass S n k) n := rfl

set_option maxHeartbeats 1000000 in
set_option maxRecDepth 100000 in
theorem c_X4_isIn (l : Launch) (D : va_G) (cI cJ : ClassId) (x y z : Int32)  : kI l yX4_isIn wsX4_isIn ({ frames := 0, cells := 0, slots := 0, locals := 0 } : Room) D [(cI, .int), (cJ, .long)] [.int x, .int y, .int z] ([]) (bi (c_in x y z)) ([]) := by
  refine kBody.met (cc := cX4_isIn) (maxL := 3) (ret := (some .boolean)) (by decide) rfl (Nat.le_of_ble_eq_true rfl) ?_
  intro p9 e9 s9 m9 below meth c9 A9 ls hx hb hr hml hts hown hlk hK hP hD hA hl
  have hown : s9.vm.findClass RX4 = some m9.cls := hown
  have hS : va_S A9 s9.heap s9.heap [] := va_S.rf
  have hl : lv_has ls 3 [(0, .int x), (1, .int y), (2, .int z)] := hl
  refine lv_iload_n hx hb dX4_isIn_0 rfl (lv_at hl 0 rfl) ?_
  refine lv_iload_n hx hb dX4_isIn_1 rfl (lv_at hl 1 rfl) ?_
  refine lv_icmp_lt (tgt := 14) hx hb dX4_isIn_2 (by decide) (fun c_2_0 => ?_) (fun c_2_0 => ?_)
  · have c_2_0 : x < y := c_2_0
    refine lv_iconst (v := 0) hx hb dX4_isIn_14 (by decide) ?_
    exact k_iret hx hb hr hlk hP hS dX4_isIn_15 rfl (by simp [c_in, bi, c_2_0]) (fun h => h)
  · have c_2_0 : ¬ x < y := c_2_0
    refine lv_iload_n hx hb dX4_isIn_5 rfl (lv_at hl 0 rfl) ?_
    refine lv_iload_n hx hb dX4_isIn_6 rfl (lv_at hl 2 rfl) ?_
    refine lv_icmp_gt (tgt := 14) hx hb dX4_isIn_7 (by decide) (fun c_7_1 => ?_) (fun c_7_1 => ?_)
    · have c_7_1 : z < x := c_7_1
      refine lv_iconst (v := 0) hx hb dX4_isIn_14 (by decide) ?_
      exact k_iret hx hb hr hlk hP hS dX4_isIn_15 rfl (by simp [c_in, bi, c_2_0, c_7_1]) (fun h => h)
    · have c_7_1 : ¬ z < x := c_7_1
      refine lv_iconst (v := 1) hx hb dX4_isIn_10 (by decide) ?_
      refine lv_goto (tgt := 15) hx hb dX4_isIn_11 (by decide) ?_
      exact k_iret hx hb hr hlk hP hS dX4_isIn_15 rfl (by simp [c_in, bi, c_2_0, c_7_1]) (fun h => h)

set_option maxHeartbeats 1000000 in
set_option maxRecDepth 100000 in
theorem c_X4_isHour (l : Launch) (D : va_G) (cI cJ : ClassId) (x : Int32)  : kI l yX4_isHour wsX4_isHour ({ frames := 1, cells := 0, slots := 0, locals := 22 } : Room) D [(cI, .int), (cJ, .long)] [.int x] ([]) (bi (c_in x 0 23)) ([]) := by
  refine kBody.met (cc := cX4_isHour) (maxL := 1) (ret := (some .boolean)) (by decide) rfl (Nat.le_of_ble_eq_true rfl) ?_
  intro p9 e9 s9 m9 below meth c9 A9 ls hx hb hr hml hts hown hlk hK hP hD hA hl
  have hown : s9.vm.findClass RX4 = some m9.cls := hown
  have hS : va_S A9 s9.heap s9.heap [] := va_S.rf
  have hl : lv_has ls 1 [(0, .int x)] := hl
  refine lv_iload_n hx hb dX4_isHour_0 rfl (lv_at hl 0 rfl) ?_
  refine lv_iconst (v := 0) hx hb dX4_isHour_1 (by decide) ?_
  refine lv_bipush (v := 23) hx hb dX4_isHour_2 (by decide) ?_
  refine k_calli (a := []) (z := []) (wc := []) (wc' := []) (w' := []) (va_runS (As := [.int x, .int 0, .int 23]) (rest := []) ⟨hx, hb, hml, hown, hts⟩ (c_X4_isIn l D cI cJ x 0 23 _) (cwS 3 hts gX4_isHour_X4_isIn rfl rfl rfl (by decide +kernel) ⟨Nat.le_of_ble_eq_true rfl, Nat.le_of_ble_eq_true rfl⟩) ⟨kB_blind, k_pre (a := []) (z := []) rfl hK hP hD⟩ rfl rfl hl.1 rfl (lv_room (Nat.le_of_ble_eq_true rfl)) dX4_isHour_4 ⟨Nat.zero_le _, Nat.zero_le _⟩) rfl rfl rfl hP hD hS hA (fun H locs hP hD hS => ?_)
  exact k_iret hx hb hr hlk hP hS dX4_isHour_7 (bi_nar _) rfl (fun h => h)

set_option maxHeartbeats 1000000 in
set_option maxRecDepth 100000 in
theorem c_X4_isOath (l : Launch) (D : va_G) (cI cJ : ClassId) (x : Int32)  : kI l yX4_isOath wsX4_isOath ({ frames := 1, cells := 0, slots := 0, locals := 22 } : Room) D [(cI, .int), (cJ, .long)] [.int x] ([]) (bi (c_in x 1 12)) ([]) := by
  refine kBody.met (cc := cX4_isOath) (maxL := 1) (ret := (some .boolean)) (by decide) rfl (Nat.le_of_ble_eq_true rfl) ?_
  intro p9 e9 s9 m9 below meth c9 A9 ls hx hb hr hml hts hown hlk hK hP hD hA hl
  have hown : s9.vm.findClass RX4 = some m9.cls := hown
  have hS : va_S A9 s9.heap s9.heap [] := va_S.rf
  have hl : lv_has ls 1 [(0, .int x)] := hl
  refine lv_iload_n hx hb dX4_isOath_0 rfl (lv_at hl 0 rfl) ?_
  refine lv_iconst (v := 1) hx hb dX4_isOath_1 (by decide) ?_
  refine lv_bipush (v := 12) hx hb dX4_isOath_2 (by decide) ?_
  refine k_calli (a := []) (z := []) (wc := []) (wc' := []) (w' := []) (va_runS (As := [.int x, .int 1, .int 12]) (rest := []) ⟨hx, hb, hml, hown, hts⟩ (c_X4_isIn l D cI cJ x 1 12 _) (cwS 3 hts gX4_isOath_X4_isIn rfl rfl rfl (by decide +kernel) ⟨Nat.le_of_ble_eq_true rfl, Nat.le_of_ble_eq_true rfl⟩) ⟨kB_blind, k_pre (a := []) (z := []) rfl hK hP hD⟩ rfl rfl hl.1 rfl (lv_room (Nat.le_of_ble_eq_true rfl)) dX4_isOath_4 ⟨Nat.zero_le _, Nat.zero_le _⟩) rfl rfl rfl hP hD hS hA (fun H locs hP hD hS => ?_)
  exact k_iret hx hb hr hlk hP hS dX4_isOath_7 (bi_nar _) rfl (fun h => h)

set_option maxHeartbeats 1000000 in
set_option maxRecDepth 100000 in
theorem c_X4_isPump (l : Launch) (D : va_G) (o : Nat) (q1 q2 q3 q4 q5 q6 qt : Nat → Nat) (cI cJ : ClassId) (S1 S2 S3 S4 S5 S6 : SS) (T : TS) (sv : Int32) (x : Int32)  : kI l yX4_isPump wsX4_isPump ({ frames := 1, cells := 0, slots := 0, locals := 21 } : Room) D [(cI, .int), (cJ, .long)] [.ref o, .int x] (poC o q1 q2 q3 q4 q5 q6 qt sv ++ (stW q1 cI cJ S1 ++ (stW q2 cI cJ S2 ++ (stW q3 cI cJ S3 ++ (stW q4 cI cJ S4 ++ (stW q5 cI cJ S5 ++ (stW q6 cI cJ S6 ++ (txW qt cI T)))))))) (bi (p_has S2 x)) (poC o q1 q2 q3 q4 q5 q6 qt sv ++ (stW q1 cI cJ S1 ++ (stW q2 cI cJ S2 ++ (stW q3 cI cJ S3 ++ (stW q4 cI cJ S4 ++ (stW q5 cI cJ S5 ++ (stW q6 cI cJ S6 ++ (txW qt cI T)))))))) := by
  refine kBody.met (cc := cX4_isPump) (maxL := 2) (ret := (some .boolean)) (by decide) rfl (Nat.le_of_ble_eq_true rfl) ?_
  intro p9 e9 s9 m9 below meth c9 A9 ls hx hb hr hml hts hown hlk hK hP hD hA hl
  have hown : s9.vm.findClass RX4 = some m9.cls := hown
  have inX2 : ∀ w ∈ wsX20, w ∈ wsX4_isPump := fun w h => List.mem_cons_of_mem _ (List.mem_append_right _ (h))
  have inX3 : ∀ w ∈ wsX30, w ∈ wsX4_isPump := fun w h => List.mem_cons_of_mem _ (List.mem_append_left _ (List.mem_append_right _ (h)))
  have inX4 : ∀ w ∈ wsX40, w ∈ wsX4_isPump := fun w h => List.mem_cons_of_mem _ (List.mem_append_left _ (List.mem_append_left _ (List.mem_append_right _ (h))))
  have hS : va_S A9 s9.heap s9.heap [] := va_S.rf
  have hl : lv_has ls 2 [(0, .ref o), (1, .int x)] := hl
  refine lv_aload_n hx hb dX4_isPump_0 rfl (lv_at hl 0 rfl) ?_
  refine va_get (D := D) (ci := 4) (v := .ref (q2 0)) (C := RX4) (T := TX4) (N := 8) hx hb hts inX4 hown hK hP 0 rfl rfl 0 (by decide) (hts (.fieldLink RX4 10 "PumpOaths" "now" "LPumpOaths$Station;") (List.mem_of_getElem? (i := 1) rfl)) (fun _ h9 => h9) rfl dX4_isPump_1 ?_
  refine va_get (D := D) (ci := 3) (v := .ref (q2 4)) (C := RX3) (T := TX3) (N := 15) hx hb hts inX3 hown hK hP 16 rfl rfl 13 (by decide) (hts (.fieldLink RX4 111 "PumpOaths$Station" "pumps" "LPumpOaths$Pumps;") (List.mem_of_getElem? (i := 2) rfl)) (fun _ h9 => h9) rfl dX4_isPump_4 ?_
  refine lv_iload_n hx hb dX4_isPump_7 rfl (lv_at hl 1 rfl) ?_
  refine k_calli (a := (poC o q1 q2 q3 q4 q5 q6 qt sv ++ (stW q1 cI cJ S1))) (z := (stW q3 cI cJ S3 ++ (stW q4 cI cJ S4 ++ (stW q5 cI cJ S5 ++ (stW q6 cI cJ S6 ++ (txW qt cI T)))))) (wc := stW q2 cI cJ S2) (wc' := stW q2 cI cJ S2) (w' := (poC o q1 q2 q3 q4 q5 q6 qt sv ++ (stW q1 cI cJ S1 ++ (stW q2 cI cJ S2 ++ (stW q3 cI cJ S3 ++ (stW q4 cI cJ S4 ++ (stW q5 cI cJ S5 ++ (stW q6 cI cJ S6 ++ (txW qt cI T))))))))) (va_runV (As := [.int x]) (rest := []) ⟨hx, hb, hml, hown, hts⟩ (c_X2_has l D q2 cI cJ S2 x _) (cwV 1 hts gX4_isPump_X2_has rfl rfl rfl (by decide +kernel) ⟨Nat.le_of_ble_eq_true rfl, Nat.le_of_ble_eq_true rfl⟩) ⟨kB_blind, va_recv hK hP (ci := 2) (q0 := 20) rfl rfl, k_pre (a := (poC o q1 q2 q3 q4 q5 q6 qt sv ++ (stW q1 cI cJ S1))) (z := (stW q3 cI cJ S3 ++ (stW q4 cI cJ S4 ++ (stW q5 cI cJ S5 ++ (stW q6 cI cJ S6 ++ (txW qt cI T)))))) rfl hK hP hD⟩ rfl rfl hl.1 rfl (lv_room (Nat.le_of_ble_eq_true rfl)) dX4_isPump_8 ⟨Nat.zero_le _, Nat.zero_le _⟩) rfl rfl (stW_ad _ _ _ _ _) hP hD hS hA (fun H locs hP hD hS => ?_)
  exact k_iret hx hb hr hlk hP hS dX4_isPump_11 (bi_nar _) rfl (fun h => h)

set_option maxHeartbeats 1000000 in
set_option maxRecDepth 100000 in
theorem c_X4_isInService (l : Launch) (D : va_G) (o : Nat) (q1 q2 q3 q4 q5 q6 qt : Nat → Nat) (cI cJ : ClassId) (S1 S2 S3 S4 S5 S6 : SS) (T : TS) (sv : Int32) (x : Int32) (n : Nat) (hn : S2.1 8 = nI n) (hn6 : n ≤ 6) : kI l yX4_isInService wsX4_isInService ({ frames := 2, cells := 0, slots := 0, locals := 42 } : Room) D [(cI, .int), (cJ, .long)] [.ref o, .int x] (poC o q1 q2 q3 q4 q5 q6 qt sv ++ (stW q1 cI cJ S1 ++ (stW q2 cI cJ S2 ++ (stW q3 cI cJ S3 ++ (stW q4 cI cJ S4 ++ (stW q5 cI cJ S5 ++ (stW q6 cI cJ S6 ++ (txW qt cI T)))))))) (bi (c_svc S2 x)) (poC o q1 q2 q3 q4 q5 q6 qt sv ++ (stW q1 cI cJ S1 ++ (stW q2 cI cJ S2 ++ (stW q3 cI cJ S3 ++ (stW q4 cI cJ S4 ++ (stW q5 cI cJ S5 ++ (stW q6 cI cJ S6 ++ (txW qt cI T)))))))) := by
  refine kBody.met (cc := cX4_isInService) (maxL := 2) (ret := (some .boolean)) (by decide) rfl (Nat.le_of_ble_eq_true rfl) ?_
  intro p9 e9 s9 m9 below meth c9 A9 ls hx hb hr hml hts hown hlk hK hP hD hA hl
  have hown : s9.vm.findClass RX4 = some m9.cls := hown
  have inX2 : ∀ w ∈ wsX20, w ∈ wsX4_isInService := fun w h => List.mem_cons_of_mem _ (List.mem_append_right _ (h))
  have inX3 : ∀ w ∈ wsX30, w ∈ wsX4_isInService := fun w h => List.mem_cons_of_mem _ (List.mem_append_left _ (List.mem_append_right _ (h)))
  have inX4 : ∀ w ∈ wsX40, w ∈ wsX4_isInService := fun w h => List.mem_cons_of_mem _ (List.mem_append_left _ (List.mem_append_left _ (List.mem_append_right _ (h))))
  have hS : va_S A9 s9.heap s9.heap [] := va_S.rf
  have hl : lv_has ls 2 [(0, .ref o), (1, .int x)] := hl
  refine lv_aload_n hx hb dX4_isInService_0 rfl (lv_at hl 0 rfl) ?_
  refine lv_iload_n hx hb dX4_isInService_1 rfl (lv_at hl 1 rfl) ?_
  refine k_calli (a := []) (z := []) (wc := (poC o q1 q2 q3 q4 q5 q6 qt sv ++ (stW q1 cI cJ S1 ++ (stW q2 cI cJ S2 ++ (stW q3 cI cJ S3 ++ (stW q4 cI cJ S4 ++ (stW q5 cI cJ S5 ++ (stW q6 cI cJ S6 ++ (txW qt cI T))))))))) (wc' := (poC o q1 q2 q3 q4 q5 q6 qt sv ++ (stW q1 cI cJ S1 ++ (stW q2 cI cJ S2 ++ (stW q3 cI cJ S3 ++ (stW q4 cI cJ S4 ++ (stW q5 cI cJ S5 ++ (stW q6 cI cJ S6 ++ (txW qt cI T))))))))) (w' := (poC o q1 q2 q3 q4 q5 q6 qt sv ++ (stW q1 cI cJ S1 ++ (stW q2 cI cJ S2 ++ (stW q3 cI cJ S3 ++ (stW q4 cI cJ S4 ++ (stW q5 cI cJ S5 ++ (stW q6 cI cJ S6 ++ (txW qt cI T))))))))) (va_runV (As := [.int x]) (rest := []) ⟨hx, hb, hml, hown, hts⟩ (c_X4_isPump l D o q1 q2 q3 q4 q5 q6 qt cI cJ S1 S2 S3 S4 S5 S6 T sv x _) (cwV 1 hts gX4_isInService_X4_isPump rfl rfl rfl (by decide +kernel) ⟨Nat.le_of_ble_eq_true rfl, Nat.le_of_ble_eq_true rfl⟩) ⟨kB_blind, va_recv hK hP (ci := 4) (q0 := 0) rfl rfl, k_pre (a := []) (z := []) (k_w0 _) hK hP hD⟩ rfl rfl hl.1 rfl (lv_room (Nat.le_of_ble_eq_true rfl)) dX4_isInService_2 ⟨Nat.zero_le _, Nat.zero_le _⟩) (k_w0 _) (k_w0 _) rfl hP hD hS hA (fun H locs hP hD hS => ?_)
  refine lv_if_eq (tgt := 28) hx hb dX4_isInService_5 (by decide) (fun c_5_0 => ?_) (fun c_5_0 => ?_)
  · have c_5_0 : (p_has S2 x) = false := bi_0.mp c_5_0
    refine lv_iconst (v := 0) hx hb dX4_isInService_28 (by decide) ?_
    exact k_iret hx hb hr hlk hP hS dX4_isInService_29 rfl (by simp [c_svc, bi, c_5_0]) (fun h => h)
  · have c_5_0 : (p_has S2 x) = true := bi_n.mp c_5_0
    have hin := p_hasIn c_5_0 hn hn6
    refine lv_aload_n hx hb dX4_isInService_8 rfl (lv_at hl 0 rfl) ?_
    refine va_get (D := D) (ci := 4) (v := .ref (q2 0)) (C := RX4) (T := TX4) (N := 8) hx hb hts inX4 hown hK hP 0 rfl rfl 0 (by decide) (hts (.fieldLink RX4 10 "PumpOaths" "now" "LPumpOaths$Station;") (List.mem_of_getElem? (i := 1) rfl)) (fun _ h9 => h9) rfl dX4_isInService_9 ?_
    refine va_get (D := D) (ci := 3) (v := .ref (q2 4)) (C := RX3) (T := TX3) (N := 15) hx hb hts inX3 hown hK hP 16 rfl rfl 13 (by decide) (hts (.fieldLink RX4 111 "PumpOaths$Station" "pumps" "LPumpOaths$Pumps;") (List.mem_of_getElem? (i := 2) rfl)) (fun _ h9 => h9) rfl dX4_isInService_12 ?_
    refine va_get (D := D) (ci := 2) (v := .ref (q2 7)) (C := RX2) (T := TX2) (N := 9) hx hb hts inX2 hown hK hP 20 rfl rfl 3 (by decide) (hts (.fieldLink RX4 141 "PumpOaths$Pumps" "mode" "[I") (List.mem_of_getElem? (i := 3) rfl)) (fun _ h9 => h9) rfl dX4_isInService_15 ?_
    refine lv_iload_n hx hb dX4_isInService_18 rfl (lv_at hl 1 rfl) ?_
    refine va_iald (f := S2.2.2.1 4) hx hb hK hP 23 0 rfl rfl (hin) dX4_isInService_19 ?_
    refine lv_iconst (v := 2) hx hb dX4_isInService_20 (by decide) ?_
    refine lv_icmp_eq (tgt := 28) hx hb dX4_isInService_21 (by decide) (fun c_21_1 => ?_) (fun c_21_1 => ?_)
    · have c_21_1 : ((S2.2.2.1 4) x.toNatClampNeg) = 2 := c_21_1
      refine lv_iconst (v := 0) hx hb dX4_isInService_28 (by decide) ?_
      exact k_iret hx hb hr hlk hP hS dX4_isInService_29 rfl (by simp [c_svc, bi, c_5_0, c_21_1]) (fun h => h)
    · have c_21_1 : ¬ ((S2.2.2.1 4) x.toNatClampNeg) = 2 := c_21_1
      refine lv_iconst (v := 1) hx hb dX4_isInService_24 (by decide) ?_
      refine lv_goto (tgt := 29) hx hb dX4_isInService_25 (by decide) ?_
      exact k_iret hx hb hr hlk hP hS dX4_isInService_29 rfl (by simp [c_svc, bi, c_5_0, c_21_1]) (fun h => h)

set_option maxHeartbeats 1000000 in
set_option maxRecDepth 100000 in
theorem c_X4_hasTimeFor (l : Launch) (D : va_G) (o : Nat) (q1 q2 q3 q4 q5 q6 qt : Nat → Nat) (cI cJ : ClassId) (S1 S2 S3 S4 S5 S6 : SS) (T : TS) (sv : Int32) (x : Int32)  : kI l yX4_hasTimeFor wsX4_hasTimeFor ({ frames := 0, cells := 0, slots := 0, locals := 0 } : Room) D [(cI, .int), (cJ, .long)] [.ref o, .int x] (poC o q1 q2 q3 q4 q5 q6 qt sv ++ (stW q1 cI cJ S1 ++ (stW q2 cI cJ S2 ++ (stW q3 cI cJ S3 ++ (stW q4 cI cJ S4 ++ (stW q5 cI cJ S5 ++ (stW q6 cI cJ S6 ++ (txW qt cI T)))))))) (bi (c_time S2 x)) (poC o q1 q2 q3 q4 q5 q6 qt sv ++ (stW q1 cI cJ S1 ++ (stW q2 cI cJ S2 ++ (stW q3 cI cJ S3 ++ (stW q4 cI cJ S4 ++ (stW q5 cI cJ S5 ++ (stW q6 cI cJ S6 ++ (txW qt cI T)))))))) := by
  refine kBody.met (cc := cX4_hasTimeFor) (maxL := 2) (ret := (some .boolean)) (by decide) rfl (Nat.le_of_ble_eq_true rfl) ?_
  intro p9 e9 s9 m9 below meth c9 A9 ls hx hb hr hml hts hown hlk hK hP hD hA hl
  have hown : s9.vm.findClass RX4 = some m9.cls := hown
  have inX3 : ∀ w ∈ wsX30, w ∈ wsX4_hasTimeFor := fun w h => List.mem_cons_of_mem _ (List.mem_append_right _ (h))
  have inX4 : ∀ w ∈ wsX40, w ∈ wsX4_hasTimeFor := fun w h => List.mem_cons_of_mem _ (List.mem_append_left _ (List.mem_append_right _ (h)))
  have hS : va_S A9 s9.heap s9.heap [] := va_S.rf
  have hl : lv_has ls 2 [(0, .ref o), (1, .int x)] := hl
  refine lv_aload_n hx hb dX4_hasTimeFor_0 rfl (lv_at hl 0 rfl) ?_
  refine va_get (D := D) (ci := 4) (v := .ref (q2 0)) (C := RX4) (T := TX4) (N := 8) hx hb hts inX4 hown hK hP 0 rfl rfl 0 (by decide) (hts (.fieldLink RX4 10 "PumpOaths" "now" "LPumpOaths$Station;") (List.mem_of_getElem? (i := 1) rfl)) (fun _ h9 => h9) rfl dX4_hasTimeFor_1 ?_
  refine va_get (D := D) (ci := 3) (v := .int (S2.1 4)) (C := RX3) (T := TX3) (N := 15) hx hb hts inX3 hown hK hP 16 rfl rfl 4 (by decide) (hts (.fieldLink RX4 250 "PumpOaths$Station" "time" "I") (List.mem_of_getElem? (i := 2) rfl)) (fun _ h9 => h9) rfl dX4_hasTimeFor_4 ?_
  refine lv_iload_n hx hb dX4_hasTimeFor_7 rfl (lv_at hl 1 rfl) ?_
  refine lv_iadd hx hb dX4_hasTimeFor_8 ?_
  refine lv_ldc (v := 1000000) hx hb hown (hts (.constant RX4 253 (1000000)) (List.mem_of_getElem? (i := 3) rfl)) dX4_hasTimeFor_9 ?_
  refine lv_icmp_gt (tgt := 18) hx hb dX4_hasTimeFor_11 (by decide) (fun c_11_0 => ?_) (fun c_11_0 => ?_)
  · have c_11_0 : 1000000 < ((S2.1 4) + x) := c_11_0
    refine lv_iconst (v := 0) hx hb dX4_hasTimeFor_18 (by decide) ?_
    exact k_iret hx hb hr hlk hP hS dX4_hasTimeFor_19 rfl (by simp [c_time, bi, c_11_0]) (fun h => h)
  · have c_11_0 : ¬ 1000000 < ((S2.1 4) + x) := c_11_0
    refine lv_iconst (v := 1) hx hb dX4_hasTimeFor_14 (by decide) ?_
    refine lv_goto (tgt := 19) hx hb dX4_hasTimeFor_15 (by decide) ?_
    exact k_iret hx hb hr hlk hP hS dX4_hasTimeFor_19 rfl (by simp [c_time, bi, c_11_0]) (fun h => h)
