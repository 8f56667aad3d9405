/-! THE STATION -/
def s_set (S : SS) (w : Int32) : Int32 := if ¬ w < 0 ∧ ¬ 3 ≤ w then S.2.2.1 0 w.toNatClampNeg else 0
def s_dem (S : SS) (w : Int32) : Int32 := if ¬ w < 0 ∧ ¬ 24 ≤ w then S.2.2.1 1 w.toNatClampNeg else 0
def s_wat (S : SS) (w : Int32) : Int64 := if ¬ w < 0 ∧ ¬ 5 ≤ w then S.2.2.2 w.toNatClampNeg else 0
def s_chS (S : SS) (w v : Int32) : SS := if ¬ w < 0 ∧ ¬ 3 ≤ w then setA S 0 (upd (S.2.2.1 0) w.toNatClampNeg v) else S
def s_chD (S : SS) (w v : Int32) : SS := if ¬ w < 0 ∧ ¬ 24 ≤ w then setA S 1 (upd (S.2.2.1 1) w.toNatClampNeg v) else S
def s_hour (S : SS) : Int32 := S.1 4 / 60 - S.1 4 / 60 / 24 * 24
def s_bal (S : SS) : Int64 := S.2.2.2 0 - S.2.2.2 1 - S.2.2.2 2 - (S.1 1).toInt64
def s_num (S : SS) (n : Nat) (w : Int32) : Int32 := if w = 0 then S.1 0 else if w = 1 then S.1 1 else if w = 2 then S.1 2 else if w = 3 then S.1 3 else if w = 4 then S.1 8 else if w = 5 then p_count S n 1 else if w = 6 then p_count S n 2 else if w = 7 then S.1 4 else if w = 8 then s_hour S else if w = 9 then S.1 5 else if w = 10 then S.1 6 else if w = 11 then p_lead S n else if w = 12 then S.1 7 else S.1 9
def s_wantB (S : SS) (k : Nat) (r : Int32) : Int32 := if S.1 2 - nI k * S.2.2.1 0 0 ≤ S.1 1 then r else r + 1
def s_want (S : SS) (n : Nat) : Int32 := itr (s_wantB S) n 0
def s_force (S : SS) : Int32 := if S.2.2.1 0 2 = 1 then 1 else 0
def s_cand (S : SS) (n : Nat) : Int32 := p_next S n (s_force S)
def s_sw (S : SS) (n : Nat) : Int32 := if S.1 1 < S.1 3 then (if p_count S n 1 < s_want S n then (if p_has S (s_cand S n) = true then s_cand S n else -1) else -1) else -1
def s_swP (S : SS) (c : Int32) : SS := if p_breaks S c = true then b_put (setI (p_start S c) 5 ((p_start S c).1 5 + 1)) c ((p_start S c).1 4) ((p_start S c).2.2.1 6 c.toNatClampNeg) else p_start S c
def s_swS (S : SS) (n : Nat) : SS := if S.1 1 < S.1 3 then (if p_count S n 1 < s_want S n then (if p_has S (s_cand S n) = true then s_swP S (s_cand S n) else S) else S) else p_stop S n
theorem p_stop_I (S : SS) (n : Nat) : (p_stop S n).1 = S.1 := by
  unfold p_stop
  split <;> rfl
theorem p_start_I (S : SS) (p : Int32) : (p_start S p).1 = S.1 := by
  unfold p_start
  split
  · split <;> rfl
  · rfl
theorem b_put_8 (S : SS) (a b c : Int32) : (b_put S a b c).1 8 = S.1 8 := by
  unfold b_put
  split <;> rfl
theorem s_swP_8 (S : SS) (c : Int32) : (s_swP S c).1 8 = S.1 8 := by
  unfold s_swP
  split
  · rw [b_put_8]
    show (p_start S c).1 8 = _
    rw [p_start_I]
  · rw [p_start_I]
theorem s_swS_8 (S : SS) (n : Nat) : (s_swS S n).1 8 = S.1 8 := by
  unfold s_swS
  split
  · split
    · split
      · exact s_swP_8 _ _
      · rfl
    · rfl
  · rw [p_stop_I]
def s_l1 (S : SS) (n : Nat) : Int32 := S.1 1 + ((p_runR S n).2 - (if 0 < S.1 1 + (p_runR S n).2 - S.1 0 then S.1 1 + (p_runR S n).2 - S.1 0 else 0))
def s_ov (S : SS) (n : Nat) : Int32 := if 0 < S.1 1 + (p_runR S n).2 - S.1 0 then S.1 1 + (p_runR S n).2 - S.1 0 else 0
def s_d (S : SS) : Int32 := s_dem S (s_hour S)
def s_tak (S : SS) (n : Nat) : Int32 := if s_l1 S n < s_d S then s_l1 S n else s_d S
def s_l2 (S : SS) (n : Nat) : Int32 := s_l1 S n - s_tak S n
def s_lk (S : SS) (n : Nat) : Int32 := if s_l2 S n < S.2.2.1 0 1 then s_l2 S n else S.2.2.1 0 1
def s_w4 (S : SS) (n : Nat) : Nat → Int64 :=
  vp_updL (vp_updL (vp_updL (vp_updL (vp_updL S.2.2.2 0 (S.2.2.2 0 + (p_runR S n).2.toInt64)) 1 (S.2.2.2 1 + (s_ov S n).toInt64)) 2 (S.2.2.2 2 + (s_tak S n).toInt64)) 3 (S.2.2.2 3 + (s_d S - s_tak S n).toInt64)) 4 (S.2.2.2 4 + (s_lk S n).toInt64)
def s_move (S : SS) (n : Nat) : SS := setV (setI (setA S 8 (p_runR S n).1) 1 (s_l2 S n - s_lk S n)) (s_w4 S n)
def s_day (S : SS) : Int32 := S.1 4 - S.1 4 / 1440 * 1440
def s_m1 (S : SS) : SS := if s_day S = 1320 then setL S 0 (s_bal S) else S
def s_m2 (S : SS) (n : Nat) : SS := if S.1 4 - S.1 4 / 60 * 60 = 0 then p_hour S n else S
def s_m3 (S : SS) : SS := if S.1 2 ≤ S.1 1 then S else setI S 6 (S.1 6 + 1)
def s_m4 (d : Int32) (S : SS) : SS := if d = 359 then (if S.1 4 ≤ 1440 then S else setI (setL S 1 (s_bal S - S.2.1 0)) 7 (S.1 7 + 1)) else S
def s_pre (S : SS) (n : Nat) : SS := s_m2 (s_m1 S) n
def s_mid (S : SS) (n : Nat) : SS := s_move (s_swS (s_pre S n) n) n
def s_end (d : Int32) (S : SS) : SS := setI (s_m4 d (s_m3 S)) 4 ((s_m4 d (s_m3 S)).1 4 + 1)
def s_min (S : SS) (n : Nat) : SS := s_end (s_day S) (s_mid S n)
def s_minR (S : SS) (n : Nat) : Int32 := s_sw (s_pre S n) n
theorem s_m1_8 (S : SS) : (s_m1 S).1 8 = S.1 8 := by unfold s_m1; split <;> rfl
theorem s_pre_8 (S : SS) (n : Nat) : (s_pre S n).1 8 = S.1 8 := by
  unfold s_pre s_m2
  split
  · exact s_m1_8 S
  · exact s_m1_8 S
theorem s_mid_8 (S : SS) (n : Nat) : (s_mid S n).1 8 = S.1 8 := (s_swS_8 _ _).trans (s_pre_8 S n)
theorem s_end_8 (d : Int32) (S : SS) : (s_end d S).1 8 = S.1 8 := by
  unfold s_end s_m4 s_m3
  split
  · split <;> (split <;> rfl)
  · split <;> rfl
theorem s_min_8 (S : SS) (n : Nat) : (s_min S n).1 8 = S.1 8 := (s_end_8 _ _).trans (s_mid_8 S n)
def s_go (n : Nat) (k : Nat) (S : SS) : SS := s_min S n
def s_pass (S : SS) (n : Nat) (w : Nat) : SS := itr (s_go n) w S
theorem s_pass_8 (S : SS) (n : Nat) : ∀ w : Nat, (s_pass S n w).1 8 = S.1 8
  | 0 => rfl
  | w + 1 => (s_min_8 _ _).trans (s_pass_8 S n w)
def s_dgN (S : SS) (n : Nat) (k : Nat) (h : Int64) : Int64 := 31 * h + (s_num S n (nI k)).toInt64
def s_dgA (S : SS) (j : Nat) (k : Nat) (h : Int64) : Int64 := 31 * h + (S.2.2.1 j k).toInt64
def s_dgV (S : SS) (k : Nat) (h : Int64) : Int64 := 31 * h + S.2.2.2 k
def s_dig (S : SS) (n m : Nat) (h : Int64) : Int64 := b_dig S m (p_dig S n (31 * itr (s_dgV S) 5 (itr (s_dgA S 1) 24 (itr (s_dgA S 0) 3 (itr (s_dgN S n) 14 h))) + S.2.1 1))

set_option maxHeartbeats 1000000 in
set_option maxRecDepth 100000 in
theorem c_X3_settingAt (l : Launch) (D : va_G) (q : Nat → Nat) (cI cJ : ClassId) (S : SS) (w : Int32)  : kI l yX3_settingAt wsX3_settingAt ({ frames := 0, cells := 0, slots := 0, locals := 0 } : Room) D [(cI, .int), (cJ, .long)] [.ref (q 0), .int w] (stW q cI cJ S) (s_set S w) (stW q cI cJ S) := by
  refine kBody.met (cc := cX3_settingAt) (maxL := 2) (ret := (some .int)) (by decide) rfl (Nat.le_of_ble_eq_true rfl) ?_
  intro p9 e9 s9 m9 below meth c9 A9 ls hx hb hr hml hts hown hlk hK hP hD hA hl
  have hown : s9.vm.findClass RX3 = some m9.cls := hown
  have inX3 : ∀ w ∈ wsX30, w ∈ wsX3_settingAt := fun w h => List.mem_cons_of_mem _ (List.mem_append_right _ (h))
  have hS : va_S A9 s9.heap s9.heap [] := va_S.rf
  have hl : lv_has ls 2 [(0, .ref (q 0)), (1, .int w)] := hl
  refine lv_iload_n hx hb dX3_settingAt_0 rfl (lv_at hl 1 rfl) ?_
  refine lv_if_lt (tgt := 18) hx hb dX3_settingAt_1 (by decide) (fun c_1_0 => ?_) (fun c_1_0 => ?_)
  · have c_1_0 : w < 0 := c_1_0
    refine lv_iconst (v := 0) hx hb dX3_settingAt_18 (by decide) ?_
    exact k_iret hx hb hr hlk hP hS dX3_settingAt_19 rfl (by simp [s_set, c_1_0]) (fun h => h)
  · have c_1_0 : ¬ w < 0 := c_1_0
    refine lv_iload_n hx hb dX3_settingAt_4 rfl (lv_at hl 1 rfl) ?_
    refine lv_iconst (v := 3) hx hb dX3_settingAt_5 (by decide) ?_
    refine lv_icmp_ge (tgt := 18) hx hb dX3_settingAt_6 (by decide) (fun c_6_1 => ?_) (fun c_6_1 => ?_)
    · have c_6_1 : 3 ≤ w := c_6_1
      refine lv_iconst (v := 0) hx hb dX3_settingAt_18 (by decide) ?_
      exact k_iret hx hb hr hlk hP hS dX3_settingAt_19 rfl (by simp [s_set, c_1_0, c_6_1]) (fun h => h)
    · have c_6_1 : ¬ 3 ≤ w := c_6_1
      have hin := k_in0 (N := 3) rfl c_1_0 c_6_1
      refine lv_aload_n hx hb dX3_settingAt_9 rfl (lv_at hl 0 rfl) ?_
      refine va_get (D := D) (ci := 3) (v := .ref (q 1)) (C := RX3) (T := TX3) (N := 15) hx hb hts inX3 hown hK hP 0 rfl rfl 10 (by decide) (hts (.fieldLink RX3 24 "PumpOaths$Station" "settings" "[I") (List.mem_of_getElem? (i := 1) rfl)) (fun _ h9 => h9) rfl dX3_settingAt_10 ?_
      refine lv_iload_n hx hb dX3_settingAt_13 rfl (lv_at hl 1 rfl) ?_
      refine va_iald (f := S.2.2.1 0) hx hb hK hP 1 0 rfl rfl (hin) dX3_settingAt_14 ?_
      refine lv_goto (tgt := 19) hx hb dX3_settingAt_15 (by decide) ?_
      exact k_iret hx hb hr hlk hP hS dX3_settingAt_19 rfl (by simp [s_set, c_1_0, c_6_1]) (fun h => h)

set_option maxHeartbeats 1000000 in
set_option maxRecDepth 100000 in
theorem c_X3_demandAt (l : Launch) (D : va_G) (q : Nat → Nat) (cI cJ : ClassId) (S : SS) (w : Int32)  : kI l yX3_demandAt wsX3_demandAt ({ frames := 0, cells := 0, slots := 0, locals := 0 } : Room) D [(cI, .int), (cJ, .long)] [.ref (q 0), .int w] (stW q cI cJ S) (s_dem S w) (stW q cI cJ S) := by
  refine kBody.met (cc := cX3_demandAt) (maxL := 2) (ret := (some .int)) (by decide) rfl (Nat.le_of_ble_eq_true rfl) ?_
  intro p9 e9 s9 m9 below meth c9 A9 ls hx hb hr hml hts hown hlk hK hP hD hA hl
  have hown : s9.vm.findClass RX3 = some m9.cls := hown
  have inX3 : ∀ w ∈ wsX30, w ∈ wsX3_demandAt := fun w h => List.mem_cons_of_mem _ (List.mem_append_right _ (h))
  have hS : va_S A9 s9.heap s9.heap [] := va_S.rf
  have hl : lv_has ls 2 [(0, .ref (q 0)), (1, .int w)] := hl
  refine lv_iload_n hx hb dX3_demandAt_0 rfl (lv_at hl 1 rfl) ?_
  refine lv_if_lt (tgt := 19) hx hb dX3_demandAt_1 (by decide) (fun c_1_0 => ?_) (fun c_1_0 => ?_)
  · have c_1_0 : w < 0 := c_1_0
    refine lv_iconst (v := 0) hx hb dX3_demandAt_19 (by decide) ?_
    exact k_iret hx hb hr hlk hP hS dX3_demandAt_20 rfl (by simp [s_dem, c_1_0]) (fun h => h)
  · have c_1_0 : ¬ w < 0 := c_1_0
    refine lv_iload_n hx hb dX3_demandAt_4 rfl (lv_at hl 1 rfl) ?_
    refine lv_bipush (v := 24) hx hb dX3_demandAt_5 (by decide) ?_
    refine lv_icmp_ge (tgt := 19) hx hb dX3_demandAt_7 (by decide) (fun c_7_1 => ?_) (fun c_7_1 => ?_)
    · have c_7_1 : 24 ≤ w := c_7_1
      refine lv_iconst (v := 0) hx hb dX3_demandAt_19 (by decide) ?_
      exact k_iret hx hb hr hlk hP hS dX3_demandAt_20 rfl (by simp [s_dem, c_1_0, c_7_1]) (fun h => h)
    · have c_7_1 : ¬ 24 ≤ w := c_7_1
      have hin := k_in0 (N := 24) rfl c_1_0 c_7_1
      refine lv_aload_n hx hb dX3_demandAt_10 rfl (lv_at hl 0 rfl) ?_
      refine va_get (D := D) (ci := 3) (v := .ref (q 2)) (C := RX3) (T := TX3) (N := 15) hx hb hts inX3 hown hK hP 0 rfl rfl 11 (by decide) (hts (.fieldLink RX3 28 "PumpOaths$Station" "demands" "[I") (List.mem_of_getElem? (i := 1) rfl)) (fun _ h9 => h9) rfl dX3_demandAt_11 ?_
      refine lv_iload_n hx hb dX3_demandAt_14 rfl (lv_at hl 1 rfl) ?_
      refine va_iald (f := S.2.2.1 1) hx hb hK hP 2 0 rfl rfl (hin) dX3_demandAt_15 ?_
      refine lv_goto (tgt := 20) hx hb dX3_demandAt_16 (by decide) ?_
      exact k_iret hx hb hr hlk hP hS dX3_demandAt_20 rfl (by simp [s_dem, c_1_0, c_7_1]) (fun h => h)

set_option maxHeartbeats 1000000 in
set_option maxRecDepth 100000 in
theorem c_X3_waterAt (l : Launch) (D : va_G) (q : Nat → Nat) (cI cJ : ClassId) (S : SS) (w : Int32)  : kL l yX3_waterAt wsX3_waterAt ({ frames := 0, cells := 0, slots := 0, locals := 0 } : Room) D [(cI, .int), (cJ, .long)] [.ref (q 0), .int w] (stW q cI cJ S) (s_wat S w) (stW q cI cJ S) := by
  refine kBody.met (cc := cX3_waterAt) (maxL := 2) (ret := (some .long)) (by decide) rfl (Nat.le_of_ble_eq_true rfl) ?_
  intro p9 e9 s9 m9 below meth c9 A9 ls hx hb hr hml hts hown hlk hK hP hD hA hl
  have hown : s9.vm.findClass RX3 = some m9.cls := hown
  have inX3 : ∀ w ∈ wsX30, w ∈ wsX3_waterAt := fun w h => List.mem_cons_of_mem _ (List.mem_append_right _ (h))
  have hS : va_S A9 s9.heap s9.heap [] := va_S.rf
  have hl : lv_has ls 2 [(0, .ref (q 0)), (1, .int w)] := hl
  refine lv_iload_n hx hb dX3_waterAt_0 rfl (lv_at hl 1 rfl) ?_
  refine lv_if_lt (tgt := 18) hx hb dX3_waterAt_1 (by decide) (fun c_1_0 => ?_) (fun c_1_0 => ?_)
  · have c_1_0 : w < 0 := c_1_0
    refine lv_lconst (v := 0) hx hb dX3_waterAt_18 (by decide) ?_
    exact k_lret hx hb hr hlk hP hS dX3_waterAt_19 (by simp [s_wat, c_1_0]) (fun h => h)
  · have c_1_0 : ¬ w < 0 := c_1_0
    refine lv_iload_n hx hb dX3_waterAt_4 rfl (lv_at hl 1 rfl) ?_
    refine lv_iconst (v := 5) hx hb dX3_waterAt_5 (by decide) ?_
    refine lv_icmp_ge (tgt := 18) hx hb dX3_waterAt_6 (by decide) (fun c_6_1 => ?_) (fun c_6_1 => ?_)
    · have c_6_1 : 5 ≤ w := c_6_1
      refine lv_lconst (v := 0) hx hb dX3_waterAt_18 (by decide) ?_
      exact k_lret hx hb hr hlk hP hS dX3_waterAt_19 (by simp [s_wat, c_1_0, c_6_1]) (fun h => h)
    · have c_6_1 : ¬ 5 ≤ w := c_6_1
      have hin := k_in0 (N := 5) rfl c_1_0 c_6_1
      refine lv_aload_n hx hb dX3_waterAt_9 rfl (lv_at hl 0 rfl) ?_
      refine va_get (D := D) (ci := 3) (v := .ref (q 3)) (C := RX3) (T := TX3) (N := 15) hx hb hts inX3 hown hK hP 0 rfl rfl 12 (by decide) (hts (.fieldLink RX3 31 "PumpOaths$Station" "waters" "[J") (List.mem_of_getElem? (i := 1) rfl)) (fun _ h9 => h9) rfl dX3_waterAt_10 ?_
      refine lv_iload_n hx hb dX3_waterAt_13 rfl (lv_at hl 1 rfl) ?_
      refine va_lald (f := S.2.2.2) hx hb hK hP 3 1 rfl rfl (hin) dX3_waterAt_14 ?_
      refine lv_goto (tgt := 19) hx hb dX3_waterAt_15 (by decide) ?_
      exact k_lret hx hb hr hlk hP hS dX3_waterAt_19 (by simp [s_wat, c_1_0, c_6_1]) (fun h => h)

set_option maxHeartbeats 1000000 in
set_option maxRecDepth 100000 in
theorem c_X3_changeSetting (l : Launch) (D : va_G) (q : Nat → Nat) (cI cJ : ClassId) (S : SS) (w v : Int32)  : kI l yX3_changeSetting wsX3_changeSetting ({ frames := 1, cells := 0, slots := 0, locals := 21 } : Room) D [(cI, .int), (cJ, .long)] [.ref (q 0), .int w, .int v] (stW q cI cJ S) (s_set S w) (stW q cI cJ (s_chS S w v)) := by
  refine kBody.met (cc := cX3_changeSetting) (maxL := 4) (ret := (some .int)) (by decide) rfl (Nat.le_of_ble_eq_true rfl) ?_
  intro p9 e9 s9 m9 below meth c9 A9 ls hx hb hr hml hts hown hlk hK hP hD hA hl
  have hown : s9.vm.findClass RX3 = some m9.cls := hown
  have inX3 : ∀ w ∈ wsX30, w ∈ wsX3_changeSetting := fun w h => List.mem_cons_of_mem _ (List.mem_append_right _ (h))
  have hS : va_S A9 s9.heap s9.heap [] := va_S.rf
  have hl : lv_has ls 4 [(0, .ref (q 0)), (1, .int w), (2, .int v)] := hl
  refine lv_aload_n hx hb dX3_changeSetting_0 rfl (lv_at hl 0 rfl) ?_
  refine lv_iload_n hx hb dX3_changeSetting_1 rfl (lv_at hl 1 rfl) ?_
  refine k_calli (a := []) (z := []) (wc := stW q cI cJ S) (wc' := stW q cI cJ S) (w' := stW q cI cJ S) (va_runV (As := [.int w]) (rest := []) ⟨hx, hb, hml, hown, hts⟩ (c_X3_settingAt l D q cI cJ S w _) (cwV 1 hts gX3_changeSetting_X3_settingAt rfl rfl rfl (by decide +kernel) ⟨Nat.le_of_ble_eq_true rfl, Nat.le_of_ble_eq_true rfl⟩) ⟨kB_blind, va_recv hK hP (ci := 3) (q0 := 0) rfl rfl, k_pre (a := []) (z := []) (k_w0 _) hK hP hD⟩ rfl rfl hl.1 rfl (lv_room (Nat.le_of_ble_eq_true rfl)) dX3_changeSetting_2 ⟨Nat.zero_le _, Nat.zero_le _⟩) (k_w0 _) (k_w0 _) (stW_ad _ _ _ _ _) hP hD hS hA (fun H locs hP hD hS => ?_)
  refine lv_istore_n (lv' := [(3, .int (s_set S w)), (0, .ref (q 0)), (1, .int w), (2, .int v)]) hx hb dX3_changeSetting_5 rfl hl (by decide) rfl (fun ls hl => ?_)
  refine lv_iload_n hx hb dX3_changeSetting_6 rfl (lv_at hl 2 rfl) ?_
  refine lv_if_lt (tgt := 22) hx hb dX3_changeSetting_7 (by decide) (fun c_7_0 => ?_) (fun c_7_0 => ?_)
  · have c_7_0 : w < 0 := c_7_0
    refine lv_iload_n hx hb dX3_changeSetting_22 rfl (lv_at hl 0 rfl) ?_
    exact k_iret hx hb hr hlk hP hS dX3_changeSetting_23 rfl (by first | rfl | (simp only [c_7_0]; done) | (simp [c_7_0]; done)) (k_P (by simp [s_chS, c_7_0]))
  · have c_7_0 : ¬ w < 0 := c_7_0
    refine lv_iload_n hx hb dX3_changeSetting_10 rfl (lv_at hl 2 rfl) ?_
    refine lv_iconst (v := 3) hx hb dX3_changeSetting_11 (by decide) ?_
    refine lv_icmp_ge (tgt := 22) hx hb dX3_changeSetting_12 (by decide) (fun c_12_1 => ?_) (fun c_12_1 => ?_)
    · have c_12_1 : 3 ≤ w := c_12_1
      refine lv_iload_n hx hb dX3_changeSetting_22 rfl (lv_at hl 0 rfl) ?_
      exact k_iret hx hb hr hlk hP hS dX3_changeSetting_23 rfl (by first | rfl | (simp only [c_7_0, c_12_1]; done) | (simp [c_7_0, c_12_1]; done)) (k_P (by simp [s_chS, c_7_0, c_12_1]))
    · have c_12_1 : ¬ 3 ≤ w := c_12_1
      have hin := k_in0 (N := 3) rfl c_7_0 c_12_1
      refine lv_aload_n hx hb dX3_changeSetting_15 rfl (lv_at hl 1 rfl) ?_
      refine va_get (D := D) (ci := 3) (v := .ref (q 1)) (C := RX3) (T := TX3) (N := 15) hx hb hts inX3 hown hK hP 0 rfl rfl 10 (by decide) (hts (.fieldLink RX3 24 "PumpOaths$Station" "settings" "[I") (List.mem_of_getElem? (i := 1) rfl)) (fun _ h9 => h9) rfl dX3_changeSetting_16 ?_
      refine lv_iload_n hx hb dX3_changeSetting_19 rfl (lv_at hl 2 rfl) ?_
      refine lv_iload_n hx hb dX3_changeSetting_20 rfl (lv_at hl 3 rfl) ?_
      refine va_iast (f := S.2.2.1 0) hx hb hK hP hD hS 1 0 rfl rfl (hin) dX3_changeSetting_21 (fun H locs hP hD hS => ?_)
      have hP : va_P D vwCl (stW q cI cJ (setA S 0 (upd (S.2.2.1 0) w.toNatClampNeg v))) H := hP
      have hD : va_D A9 (stW q cI cJ (setA S 0 (upd (S.2.2.1 0) w.toNatClampNeg v))) := hD
      refine lv_iload_n hx hb dX3_changeSetting_22 rfl (lv_at hl 0 rfl) ?_
      exact k_iret hx hb hr hlk hP hS dX3_changeSetting_23 rfl (by first | rfl | (simp only [c_7_0, c_12_1]; done) | (simp [c_7_0, c_12_1]; done)) (k_P (by simp [s_chS, c_7_0, c_12_1]))

set_option maxHeartbeats 1000000 in
set_option maxRecDepth 100000 in
theorem c_X3_changeDemand (l : Launch) (D : va_G) (q : Nat → Nat) (cI cJ : ClassId) (S : SS) (w v : Int32)  : kI l yX3_changeDemand wsX3_changeDemand ({ frames := 1, cells := 0, slots := 0, locals := 21 } : Room) D [(cI, .int), (cJ, .long)] [.ref (q 0), .int w, .int v] (stW q cI cJ S) (s_dem S w) (stW q cI cJ (s_chD S w v)) := by
  refine kBody.met (cc := cX3_changeDemand) (maxL := 4) (ret := (some .int)) (by decide) rfl (Nat.le_of_ble_eq_true rfl) ?_
  intro p9 e9 s9 m9 below meth c9 A9 ls hx hb hr hml hts hown hlk hK hP hD hA hl
  have hown : s9.vm.findClass RX3 = some m9.cls := hown
  have inX3 : ∀ w ∈ wsX30, w ∈ wsX3_changeDemand := fun w h => List.mem_cons_of_mem _ (List.mem_append_right _ (h))
  have hS : va_S A9 s9.heap s9.heap [] := va_S.rf
  have hl : lv_has ls 4 [(0, .ref (q 0)), (1, .int w), (2, .int v)] := hl
  refine lv_aload_n hx hb dX3_changeDemand_0 rfl (lv_at hl 0 rfl) ?_
  refine lv_iload_n hx hb dX3_changeDemand_1 rfl (lv_at hl 1 rfl) ?_
  refine k_calli (a := []) (z := []) (wc := stW q cI cJ S) (wc' := stW q cI cJ S) (w' := stW q cI cJ S) (va_runV (As := [.int w]) (rest := []) ⟨hx, hb, hml, hown, hts⟩ (c_X3_demandAt l D q cI cJ S w _) (cwV 1 hts gX3_changeDemand_X3_demandAt rfl rfl rfl (by decide +kernel) ⟨Nat.le_of_ble_eq_true rfl, Nat.le_of_ble_eq_true rfl⟩) ⟨kB_blind, va_recv hK hP (ci := 3) (q0 := 0) rfl rfl, k_pre (a := []) (z := []) (k_w0 _) hK hP hD⟩ rfl rfl hl.1 rfl (lv_room (Nat.le_of_ble_eq_true rfl)) dX3_changeDemand_2 ⟨Nat.zero_le _, Nat.zero_le _⟩) (k_w0 _) (k_w0 _) (stW_ad _ _ _ _ _) hP hD hS hA (fun H locs hP hD hS => ?_)
  refine lv_istore_n (lv' := [(3, .int (s_dem S w)), (0, .ref (q 0)), (1, .int w), (2, .int v)]) hx hb dX3_changeDemand_5 rfl hl (by decide) rfl (fun ls hl => ?_)
  refine lv_iload_n hx hb dX3_changeDemand_6 rfl (lv_at hl 2 rfl) ?_
  refine lv_if_lt (tgt := 23) hx hb dX3_changeDemand_7 (by decide) (fun c_7_0 => ?_) (fun c_7_0 => ?_)
  · have c_7_0 : w < 0 := c_7_0
    refine lv_iload_n hx hb dX3_changeDemand_23 rfl (lv_at hl 0 rfl) ?_
    exact k_iret hx hb hr hlk hP hS dX3_changeDemand_24 rfl (by first | rfl | (simp only [c_7_0]; done) | (simp [c_7_0]; done)) (k_P (by simp [s_chD, c_7_0]))
  · have c_7_0 : ¬ w < 0 := c_7_0
    refine lv_iload_n hx hb dX3_changeDemand_10 rfl (lv_at hl 2 rfl) ?_
    refine lv_bipush (v := 24) hx hb dX3_changeDemand_11 (by decide) ?_
    refine lv_icmp_ge (tgt := 23) hx hb dX3_changeDemand_13 (by decide) (fun c_13_1 => ?_) (fun c_13_1 => ?_)
    · have c_13_1 : 24 ≤ w := c_13_1
      refine lv_iload_n hx hb dX3_changeDemand_23 rfl (lv_at hl 0 rfl) ?_
      exact k_iret hx hb hr hlk hP hS dX3_changeDemand_24 rfl (by first | rfl | (simp only [c_7_0, c_13_1]; done) | (simp [c_7_0, c_13_1]; done)) (k_P (by simp [s_chD, c_7_0, c_13_1]))
    · have c_13_1 : ¬ 24 ≤ w := c_13_1
      have hin := k_in0 (N := 24) rfl c_7_0 c_13_1
      refine lv_aload_n hx hb dX3_changeDemand_16 rfl (lv_at hl 1 rfl) ?_
      refine va_get (D := D) (ci := 3) (v := .ref (q 2)) (C := RX3) (T := TX3) (N := 15) hx hb hts inX3 hown hK hP 0 rfl rfl 11 (by decide) (hts (.fieldLink RX3 28 "PumpOaths$Station" "demands" "[I") (List.mem_of_getElem? (i := 1) rfl)) (fun _ h9 => h9) rfl dX3_changeDemand_17 ?_
      refine lv_iload_n hx hb dX3_changeDemand_20 rfl (lv_at hl 2 rfl) ?_
      refine lv_iload_n hx hb dX3_changeDemand_21 rfl (lv_at hl 3 rfl) ?_
      refine va_iast (f := S.2.2.1 1) hx hb hK hP hD hS 2 0 rfl rfl (hin) dX3_changeDemand_22 (fun H locs hP hD hS => ?_)
      have hP : va_P D vwCl (stW q cI cJ (setA S 1 (upd (S.2.2.1 1) w.toNatClampNeg v))) H := hP
      have hD : va_D A9 (stW q cI cJ (setA S 1 (upd (S.2.2.1 1) w.toNatClampNeg v))) := hD
      refine lv_iload_n hx hb dX3_changeDemand_23 rfl (lv_at hl 0 rfl) ?_
      exact k_iret hx hb hr hlk hP hS dX3_changeDemand_24 rfl (by first | rfl | (simp only [c_7_0, c_13_1]; done) | (simp [c_7_0, c_13_1]; done)) (k_P (by simp [s_chD, c_7_0, c_13_1]))

set_option maxHeartbeats 1000000 in
set_option maxRecDepth 100000 in
theorem c_X3_hourNow (l : Launch) (D : va_G) (q : Nat → Nat) (cI cJ : ClassId) (S : SS)  : kI l yX3_hourNow wsX3_hourNow ({ frames := 0, cells := 0, slots := 0, locals := 0 } : Room) D [(cI, .int), (cJ, .long)] [.ref (q 0)] (stW q cI cJ S) (s_hour S) (stW q cI cJ S) := by
  refine kBody.met (cc := cX3_hourNow) (maxL := 1) (ret := (some .int)) (by decide) rfl (Nat.le_of_ble_eq_true rfl) ?_
  intro p9 e9 s9 m9 below meth c9 A9 ls hx hb hr hml hts hown hlk hK hP hD hA hl
  have hown : s9.vm.findClass RX3 = some m9.cls := hown
  have inX3 : ∀ w ∈ wsX30, w ∈ wsX3_hourNow := fun w h => List.mem_cons_of_mem _ (List.mem_append_right _ (h))
  have hS : va_S A9 s9.heap s9.heap [] := va_S.rf
  have hl : lv_has ls 1 [(0, .ref (q 0))] := hl
  refine lv_aload_n hx hb dX3_hourNow_0 rfl (lv_at hl 0 rfl) ?_
  refine va_get (D := D) (ci := 3) (v := .int (S.1 4)) (C := RX3) (T := TX3) (N := 15) hx hb hts inX3 hown hK hP 0 rfl rfl 4 (by decide) (hts (.fieldLink RX3 49 "PumpOaths$Station" "time" "I") (List.mem_of_getElem? (i := 1) rfl)) (fun _ h9 => h9) rfl dX3_hourNow_1 ?_
  refine lv_bipush (v := 60) hx hb dX3_hourNow_4 (by decide) ?_
  refine lv_idiv hx hb dX3_hourNow_6 (by decide) ?_
  refine lv_bipush (v := 24) hx hb dX3_hourNow_7 (by decide) ?_
  refine lv_irem hx hb dX3_hourNow_9 (by decide) ?_
  exact k_iret hx hb hr hlk hP hS dX3_hourNow_10 rfl (by first | rfl | (simp only []; done) | (simp []; done)) (fun h => h)

set_option maxHeartbeats 1000000 in
set_option maxRecDepth 100000 in
theorem c_X3_balance (l : Launch) (D : va_G) (q : Nat → Nat) (cI cJ : ClassId) (S : SS)  : kL l yX3_balance wsX3_balance ({ frames := 0, cells := 0, slots := 0, locals := 0 } : Room) D [(cI, .int), (cJ, .long)] [.ref (q 0)] (stW q cI cJ S) (s_bal S) (stW q cI cJ S) := by
  refine kBody.met (cc := cX3_balance) (maxL := 1) (ret := (some .long)) (by decide) rfl (Nat.le_of_ble_eq_true rfl) ?_
  intro p9 e9 s9 m9 below meth c9 A9 ls hx hb hr hml hts hown hlk hK hP hD hA hl
  have hown : s9.vm.findClass RX3 = some m9.cls := hown
  have inX3 : ∀ w ∈ wsX30, w ∈ wsX3_balance := fun w h => List.mem_cons_of_mem _ (List.mem_append_right _ (h))
  have hS : va_S A9 s9.heap s9.heap [] := va_S.rf
  have hl : lv_has ls 1 [(0, .ref (q 0))] := hl
  refine lv_aload_n hx hb dX3_balance_0 rfl (lv_at hl 0 rfl) ?_
  refine va_get (D := D) (ci := 3) (v := .ref (q 3)) (C := RX3) (T := TX3) (N := 15) hx hb hts inX3 hown hK hP 0 rfl rfl 12 (by decide) (hts (.fieldLink RX3 31 "PumpOaths$Station" "waters" "[J") (List.mem_of_getElem? (i := 1) rfl)) (fun _ h9 => h9) rfl dX3_balance_1 ?_
  refine lv_iconst (v := 0) hx hb dX3_balance_4 (by decide) ?_
  refine va_lald (f := S.2.2.2) hx hb hK hP 3 1 rfl rfl (k_in (k := 0) rfl (by decide) (by decide)) dX3_balance_5 ?_
  rw [show (0 : Int32).toNatClampNeg = 0 from rfl]
  refine lv_aload_n hx hb dX3_balance_6 rfl (lv_at hl 0 rfl) ?_
  refine va_get (D := D) (ci := 3) (v := .ref (q 3)) (C := RX3) (T := TX3) (N := 15) hx hb hts inX3 hown hK hP 0 rfl rfl 12 (by decide) (hts (.fieldLink RX3 31 "PumpOaths$Station" "waters" "[J") (List.mem_of_getElem? (i := 1) rfl)) (fun _ h9 => h9) rfl dX3_balance_7 ?_
  refine lv_iconst (v := 1) hx hb dX3_balance_10 (by decide) ?_
  refine va_lald (f := S.2.2.2) hx hb hK hP 3 1 rfl rfl (k_in (k := 1) rfl (by decide) (by decide)) dX3_balance_11 ?_
  rw [show (1 : Int32).toNatClampNeg = 1 from rfl]
  refine lv_lsub hx hb dX3_balance_12 ?_
  refine lv_aload_n hx hb dX3_balance_13 rfl (lv_at hl 0 rfl) ?_
  refine va_get (D := D) (ci := 3) (v := .ref (q 3)) (C := RX3) (T := TX3) (N := 15) hx hb hts inX3 hown hK hP 0 rfl rfl 12 (by decide) (hts (.fieldLink RX3 31 "PumpOaths$Station" "waters" "[J") (List.mem_of_getElem? (i := 1) rfl)) (fun _ h9 => h9) rfl dX3_balance_14 ?_
  refine lv_iconst (v := 2) hx hb dX3_balance_17 (by decide) ?_
  refine va_lald (f := S.2.2.2) hx hb hK hP 3 1 rfl rfl (k_in (k := 2) rfl (by decide) (by decide)) dX3_balance_18 ?_
  rw [show (2 : Int32).toNatClampNeg = 2 from rfl]
  refine lv_lsub hx hb dX3_balance_19 ?_
  refine lv_aload_n hx hb dX3_balance_20 rfl (lv_at hl 0 rfl) ?_
  refine va_get (D := D) (ci := 3) (v := .int (S.1 1)) (C := RX3) (T := TX3) (N := 15) hx hb hts inX3 hown hK hP 0 rfl rfl 1 (by decide) (hts (.fieldLink RX3 15 "PumpOaths$Station" "level" "I") (List.mem_of_getElem? (i := 2) rfl)) (fun _ h9 => h9) rfl dX3_balance_21 ?_
  refine lv_i2l hx hb dX3_balance_24 rfl ?_
  refine lv_lsub hx hb dX3_balance_25 ?_
  exact k_lret hx hb hr hlk hP hS dX3_balance_26 (by first | rfl | (simp only []; done) | (simp []; done)) (fun h => h)

set_option maxHeartbeats 1000000 in
set_option maxRecDepth 100000 in
theorem c_X3_numberAt (l : Launch) (D : va_G) (q : Nat → Nat) (cI cJ : ClassId) (S : SS) (w : Int32) (n : Nat) (hn : S.1 8 = nI n) (hn6 : n ≤ 6) : kI l yX3_numberAt wsX3_numberAt ({ frames := 1, cells := 0, slots := 0, locals := 23 } : Room) D [(cI, .int), (cJ, .long)] [.ref (q 0), .int w] (stW q cI cJ S) (s_num S n w) (stW q cI cJ S) := by
  refine kBody.met (cc := cX3_numberAt) (maxL := 2) (ret := (some .int)) (by decide) rfl (Nat.le_of_ble_eq_true rfl) ?_
  intro p9 e9 s9 m9 below meth c9 A9 ls hx hb hr hml hts hown hlk hK hP hD hA hl
  have hown : s9.vm.findClass RX3 = some m9.cls := hown
  have inX0 : ∀ w ∈ wsX00, w ∈ wsX3_numberAt := fun w h => List.mem_cons_of_mem _ (List.mem_append_right _ (h))
  have inX2 : ∀ w ∈ wsX20, w ∈ wsX3_numberAt := fun w h => List.mem_cons_of_mem _ (List.mem_append_left _ (List.mem_append_right _ (h)))
  have inX3 : ∀ w ∈ wsX30, w ∈ wsX3_numberAt := fun w h => List.mem_cons_of_mem _ (List.mem_append_left _ (List.mem_append_left _ (List.mem_append_right _ (h))))
  have hS : va_S A9 s9.heap s9.heap [] := va_S.rf
  have hl : lv_has ls 2 [(0, .ref (q 0)), (1, .int w)] := hl
  refine lv_iload_n hx hb dX3_numberAt_0 rfl (lv_at hl 1 rfl) ?_
  by_cases c_1_0 : w = 0
  · refine lv_tableIn (off := 67) (tgt := 68) hx hb dX3_numberAt_1 (by rw [c_1_0]; decide) (by rw [c_1_0]; decide) (by rw [c_1_0]; rfl) (by decide) ?_
    refine lv_aload_n hx hb dX3_numberAt_68 rfl (lv_at hl 0 rfl) ?_
    refine va_get (D := D) (ci := 3) (v := .int (S.1 0)) (C := RX3) (T := TX3) (N := 15) hx hb hts inX3 hown hK hP 0 rfl rfl 0 (by decide) (hts (.fieldLink RX3 11 "PumpOaths$Station" "size" "I") (List.mem_of_getElem? (i := 1) rfl)) (fun _ h9 => h9) rfl dX3_numberAt_69 ?_
    exact k_iret hx hb hr hlk hP hS dX3_numberAt_72 rfl (by simp [s_num, c_1_0]) (fun h => h)
  by_cases c_1_1 : w = 1
  · refine lv_tableIn (off := 72) (tgt := 73) hx hb dX3_numberAt_1 (by rw [c_1_1]; decide) (by rw [c_1_1]; decide) (by rw [c_1_1]; rfl) (by decide) ?_
    refine lv_aload_n hx hb dX3_numberAt_73 rfl (lv_at hl 0 rfl) ?_
    refine va_get (D := D) (ci := 3) (v := .int (S.1 1)) (C := RX3) (T := TX3) (N := 15) hx hb hts inX3 hown hK hP 0 rfl rfl 1 (by decide) (hts (.fieldLink RX3 15 "PumpOaths$Station" "level" "I") (List.mem_of_getElem? (i := 2) rfl)) (fun _ h9 => h9) rfl dX3_numberAt_74 ?_
    exact k_iret hx hb hr hlk hP hS dX3_numberAt_77 rfl (by simp [s_num, c_1_0, c_1_1]) (fun h => h)
  by_cases c_1_2 : w = 2
  · refine lv_tableIn (off := 77) (tgt := 78) hx hb dX3_numberAt_1 (by rw [c_1_2]; decide) (by rw [c_1_2]; decide) (by rw [c_1_2]; rfl) (by decide) ?_
    refine lv_aload_n hx hb dX3_numberAt_78 rfl (lv_at hl 0 rfl) ?_
    refine va_get (D := D) (ci := 3) (v := .int (S.1 2)) (C := RX3) (T := TX3) (N := 15) hx hb hts inX3 hown hK hP 0 rfl rfl 2 (by decide) (hts (.fieldLink RX3 18 "PumpOaths$Station" "low" "I") (List.mem_of_getElem? (i := 3) rfl)) (fun _ h9 => h9) rfl dX3_numberAt_79 ?_
    exact k_iret hx hb hr hlk hP hS dX3_numberAt_82 rfl (by simp [s_num, c_1_0, c_1_1, c_1_2]) (fun h => h)
  by_cases c_1_3 : w = 3
  · refine lv_tableIn (off := 82) (tgt := 83) hx hb dX3_numberAt_1 (by rw [c_1_3]; decide) (by rw [c_1_3]; decide) (by rw [c_1_3]; rfl) (by decide) ?_
    refine lv_aload_n hx hb dX3_numberAt_83 rfl (lv_at hl 0 rfl) ?_
    refine va_get (D := D) (ci := 3) (v := .int (S.1 3)) (C := RX3) (T := TX3) (N := 15) hx hb hts inX3 hown hK hP 0 rfl rfl 3 (by decide) (hts (.fieldLink RX3 21 "PumpOaths$Station" "high" "I") (List.mem_of_getElem? (i := 4) rfl)) (fun _ h9 => h9) rfl dX3_numberAt_84 ?_
    exact k_iret hx hb hr hlk hP hS dX3_numberAt_87 rfl (by simp [s_num, c_1_0, c_1_1, c_1_2, c_1_3]) (fun h => h)
  by_cases c_1_4 : w = 4
  · refine lv_tableIn (off := 87) (tgt := 88) hx hb dX3_numberAt_1 (by rw [c_1_4]; decide) (by rw [c_1_4]; decide) (by rw [c_1_4]; rfl) (by decide) ?_
    refine lv_aload_n hx hb dX3_numberAt_88 rfl (lv_at hl 0 rfl) ?_
    refine va_get (D := D) (ci := 3) (v := .ref (q 4)) (C := RX3) (T := TX3) (N := 15) hx hb hts inX3 hown hK hP 0 rfl rfl 13 (by decide) (hts (.fieldLink RX3 38 "PumpOaths$Station" "pumps" "LPumpOaths$Pumps;") (List.mem_of_getElem? (i := 5) rfl)) (fun _ h9 => h9) rfl dX3_numberAt_89 ?_
    refine va_get (D := D) (ci := 2) (v := .int (S.1 8)) (C := RX2) (T := TX2) (N := 9) hx hb hts inX2 hown hK hP 4 rfl rfl 0 (by decide) (hts (.fieldLink RX3 94 "PumpOaths$Pumps" "count" "I") (List.mem_of_getElem? (i := 6) rfl)) (fun _ h9 => h9) rfl dX3_numberAt_92 ?_
    exact k_iret hx hb hr hlk hP hS dX3_numberAt_95 rfl (by simp [s_num, c_1_0, c_1_1, c_1_2, c_1_3, c_1_4]) (fun h => h)
  by_cases c_1_5 : w = 5
  · refine lv_tableIn (off := 95) (tgt := 96) hx hb dX3_numberAt_1 (by rw [c_1_5]; decide) (by rw [c_1_5]; decide) (by rw [c_1_5]; rfl) (by decide) ?_
    refine lv_aload_n hx hb dX3_numberAt_96 rfl (lv_at hl 0 rfl) ?_
    refine va_get (D := D) (ci := 3) (v := .ref (q 4)) (C := RX3) (T := TX3) (N := 15) hx hb hts inX3 hown hK hP 0 rfl rfl 13 (by decide) (hts (.fieldLink RX3 38 "PumpOaths$Station" "pumps" "LPumpOaths$Pumps;") (List.mem_of_getElem? (i := 5) rfl)) (fun _ h9 => h9) rfl dX3_numberAt_97 ?_
    refine lv_iconst (v := 1) hx hb dX3_numberAt_100 (by decide) ?_
    refine k_calli (a := []) (z := []) (wc := stW q cI cJ S) (wc' := stW q cI cJ S) (w' := stW q cI cJ S) (va_runV (As := [.int 1]) (rest := []) ⟨hx, hb, hml, hown, hts⟩ (c_X2_countIn l D q cI cJ S 1 n hn hn6 _) (cwV 1 hts gX3_numberAt_X2_countIn rfl rfl rfl (by decide +kernel) ⟨Nat.le_of_ble_eq_true rfl, Nat.le_of_ble_eq_true rfl⟩) ⟨kB_blind, va_recv hK hP (ci := 2) (q0 := 4) rfl rfl, k_pre (a := []) (z := []) (k_w0 _) hK hP hD⟩ rfl rfl hl.1 rfl (lv_room (Nat.le_of_ble_eq_true rfl)) dX3_numberAt_101 ⟨Nat.zero_le _, Nat.zero_le _⟩) (k_w0 _) (k_w0 _) (stW_ad _ _ _ _ _) hP hD hS hA (fun H locs hP hD hS => ?_)
    exact k_iret hx hb hr hlk hP hS dX3_numberAt_104 rfl (by simp [s_num, c_1_0, c_1_1, c_1_2, c_1_3, c_1_4, c_1_5]) (fun h => h)
  by_cases c_1_6 : w = 6
  · refine lv_tableIn (off := 104) (tgt := 105) hx hb dX3_numberAt_1 (by rw [c_1_6]; decide) (by rw [c_1_6]; decide) (by rw [c_1_6]; rfl) (by decide) ?_
    refine lv_aload_n hx hb dX3_numberAt_105 rfl (lv_at hl 0 rfl) ?_
    refine va_get (D := D) (ci := 3) (v := .ref (q 4)) (C := RX3) (T := TX3) (N := 15) hx hb hts inX3 hown hK hP 0 rfl rfl 13 (by decide) (hts (.fieldLink RX3 38 "PumpOaths$Station" "pumps" "LPumpOaths$Pumps;") (List.mem_of_getElem? (i := 5) rfl)) (fun _ h9 => h9) rfl dX3_numberAt_106 ?_
    refine lv_iconst (v := 2) hx hb dX3_numberAt_109 (by decide) ?_
    refine k_calli (a := []) (z := []) (wc := stW q cI cJ S) (wc' := stW q cI cJ S) (w' := stW q cI cJ S) (va_runV (As := [.int 2]) (rest := []) ⟨hx, hb, hml, hown, hts⟩ (c_X2_countIn l D q cI cJ S 2 n hn hn6 _) (cwV 1 hts gX3_numberAt_X2_countIn rfl rfl rfl (by decide +kernel) ⟨Nat.le_of_ble_eq_true rfl, Nat.le_of_ble_eq_true rfl⟩) ⟨kB_blind, va_recv hK hP (ci := 2) (q0 := 4) rfl rfl, k_pre (a := []) (z := []) (k_w0 _) hK hP hD⟩ rfl rfl hl.1 rfl (lv_room (Nat.le_of_ble_eq_true rfl)) dX3_numberAt_110 ⟨Nat.zero_le _, Nat.zero_le _⟩) (k_w0 _) (k_w0 _) (stW_ad _ _ _ _ _) hP hD hS hA (fun H locs hP hD hS => ?_)
    exact k_iret hx hb hr hlk hP hS dX3_numberAt_113 rfl (by simp [s_num, c_1_0, c_1_1, c_1_2, c_1_3, c_1_4, c_1_5, c_1_6]) (fun h => h)
  by_cases c_1_7 : w = 7
  · refine lv_tableIn (off := 113) (tgt := 114) hx hb dX3_numberAt_1 (by rw [c_1_7]; decide) (by rw [c_1_7]; decide) (by rw [c_1_7]; rfl) (by decide) ?_
    refine lv_aload_n hx hb dX3_numberAt_114 rfl (lv_at hl 0 rfl) ?_
    refine va_get (D := D) (ci := 3) (v := .int (S.1 4)) (C := RX3) (T := TX3) (N := 15) hx hb hts inX3 hown hK hP 0 rfl rfl 4 (by decide) (hts (.fieldLink RX3 49 "PumpOaths$Station" "time" "I") (List.mem_of_getElem? (i := 7) rfl)) (fun _ h9 => h9) rfl dX3_numberAt_115 ?_
    exact k_iret hx hb hr hlk hP hS dX3_numberAt_118 rfl (by simp [s_num, c_1_0, c_1_1, c_1_2, c_1_3, c_1_4, c_1_5, c_1_6, c_1_7]) (fun h => h)
  by_cases c_1_8 : w = 8
  · refine lv_tableIn (off := 118) (tgt := 119) hx hb dX3_numberAt_1 (by rw [c_1_8]; decide) (by rw [c_1_8]; decide) (by rw [c_1_8]; rfl) (by decide) ?_
    refine lv_aload_n hx hb dX3_numberAt_119 rfl (lv_at hl 0 rfl) ?_
    refine k_calli (a := []) (z := []) (wc := stW q cI cJ S) (wc' := stW q cI cJ S) (w' := stW q cI cJ S) (va_runV (As := []) (rest := []) ⟨hx, hb, hml, hown, hts⟩ (c_X3_hourNow l D q cI cJ S  _) (cwV 0 hts gX3_numberAt_X3_hourNow rfl rfl rfl (by decide +kernel) ⟨Nat.le_of_ble_eq_true rfl, Nat.le_of_ble_eq_true rfl⟩) ⟨kB_blind, va_recv hK hP (ci := 3) (q0 := 0) rfl rfl, k_pre (a := []) (z := []) (k_w0 _) hK hP hD⟩ rfl rfl hl.1 rfl (lv_room (Nat.le_of_ble_eq_true rfl)) dX3_numberAt_120 ⟨Nat.zero_le _, Nat.zero_le _⟩) (k_w0 _) (k_w0 _) (stW_ad _ _ _ _ _) hP hD hS hA (fun H locs hP hD hS => ?_)
    exact k_iret hx hb hr hlk hP hS dX3_numberAt_123 rfl (by simp [s_num, c_1_0, c_1_1, c_1_2, c_1_3, c_1_4, c_1_5, c_1_6, c_1_7, c_1_8]) (fun h => h)
  by_cases c_1_9 : w = 9
  · refine lv_tableIn (off := 123) (tgt := 124) hx hb dX3_numberAt_1 (by rw [c_1_9]; decide) (by rw [c_1_9]; decide) (by rw [c_1_9]; rfl) (by decide) ?_
    refine lv_aload_n hx hb dX3_numberAt_124 rfl (lv_at hl 0 rfl) ?_
    refine va_get (D := D) (ci := 3) (v := .int (S.1 5)) (C := RX3) (T := TX3) (N := 15) hx hb hts inX3 hown hK hP 0 rfl rfl 5 (by decide) (hts (.fieldLink RX3 52 "PumpOaths$Station" "brokenOaths" "I") (List.mem_of_getElem? (i := 8) rfl)) (fun _ h9 => h9) rfl dX3_numberAt_125 ?_
    exact k_iret hx hb hr hlk hP hS dX3_numberAt_128 rfl (by simp [s_num, c_1_0, c_1_1, c_1_2, c_1_3, c_1_4, c_1_5, c_1_6, c_1_7, c_1_8, c_1_9]) (fun h => h)
  by_cases c_1_10 : w = 10
  · refine lv_tableIn (off := 128) (tgt := 129) hx hb dX3_numberAt_1 (by rw [c_1_10]; decide) (by rw [c_1_10]; decide) (by rw [c_1_10]; rfl) (by decide) ?_
    refine lv_aload_n hx hb dX3_numberAt_129 rfl (lv_at hl 0 rfl) ?_
    refine va_get (D := D) (ci := 3) (v := .int (S.1 6)) (C := RX3) (T := TX3) (N := 15) hx hb hts inX3 hown hK hP 0 rfl rfl 6 (by decide) (hts (.fieldLink RX3 55 "PumpOaths$Station" "minutesBelow" "I") (List.mem_of_getElem? (i := 9) rfl)) (fun _ h9 => h9) rfl dX3_numberAt_130 ?_
    exact k_iret hx hb hr hlk hP hS dX3_numberAt_133 rfl (by simp [s_num, c_1_0, c_1_1, c_1_2, c_1_3, c_1_4, c_1_5, c_1_6, c_1_7, c_1_8, c_1_9, c_1_10]) (fun h => h)
  by_cases c_1_11 : w = 11
  · refine lv_tableIn (off := 133) (tgt := 134) hx hb dX3_numberAt_1 (by rw [c_1_11]; decide) (by rw [c_1_11]; decide) (by rw [c_1_11]; rfl) (by decide) ?_
    refine lv_aload_n hx hb dX3_numberAt_134 rfl (lv_at hl 0 rfl) ?_
    refine va_get (D := D) (ci := 3) (v := .ref (q 4)) (C := RX3) (T := TX3) (N := 15) hx hb hts inX3 hown hK hP 0 rfl rfl 13 (by decide) (hts (.fieldLink RX3 38 "PumpOaths$Station" "pumps" "LPumpOaths$Pumps;") (List.mem_of_getElem? (i := 5) rfl)) (fun _ h9 => h9) rfl dX3_numberAt_135 ?_
    refine k_calli (a := []) (z := []) (wc := stW q cI cJ S) (wc' := stW q cI cJ S) (w' := stW q cI cJ S) (va_runV (As := []) (rest := []) ⟨hx, hb, hml, hown, hts⟩ (c_X2_lead l D q cI cJ S n hn hn6 _) (cwV 0 hts gX3_numberAt_X2_lead rfl rfl rfl (by decide +kernel) ⟨Nat.le_of_ble_eq_true rfl, Nat.le_of_ble_eq_true rfl⟩) ⟨kB_blind, va_recv hK hP (ci := 2) (q0 := 4) rfl rfl, k_pre (a := []) (z := []) (k_w0 _) hK hP hD⟩ rfl rfl hl.1 rfl (lv_room (Nat.le_of_ble_eq_true rfl)) dX3_numberAt_138 ⟨Nat.zero_le _, Nat.zero_le _⟩) (k_w0 _) (k_w0 _) (stW_ad _ _ _ _ _) hP hD hS hA (fun H locs hP hD hS => ?_)
    exact k_iret hx hb hr hlk hP hS dX3_numberAt_141 rfl (by simp [s_num, c_1_0, c_1_1, c_1_2, c_1_3, c_1_4, c_1_5, c_1_6, c_1_7, c_1_8, c_1_9, c_1_10, c_1_11]) (fun h => h)
  by_cases c_1_12 : w = 12
  · refine lv_tableIn (off := 141) (tgt := 142) hx hb dX3_numberAt_1 (by rw [c_1_12]; decide) (by rw [c_1_12]; decide) (by rw [c_1_12]; rfl) (by decide) ?_
    refine lv_aload_n hx hb dX3_numberAt_142 rfl (lv_at hl 0 rfl) ?_
    refine va_get (D := D) (ci := 3) (v := .int (S.1 7)) (C := RX3) (T := TX3) (N := 15) hx hb hts inX3 hown hK hP 0 rfl rfl 7 (by decide) (hts (.fieldLink RX3 58 "PumpOaths$Station" "nights" "I") (List.mem_of_getElem? (i := 10) rfl)) (fun _ h9 => h9) rfl dX3_numberAt_143 ?_
    exact k_iret hx hb hr hlk hP hS dX3_numberAt_146 rfl (by simp [s_num, c_1_0, c_1_1, c_1_2, c_1_3, c_1_4, c_1_5, c_1_6, c_1_7, c_1_8, c_1_9, c_1_10, c_1_11, c_1_12]) (fun h => h)
  refine lv_tableOut (tgt := 147) hx hb dX3_numberAt_1 (k_out13 c_1_0 c_1_1 c_1_2 c_1_3 c_1_4 c_1_5 c_1_6 c_1_7 c_1_8 c_1_9 c_1_10 c_1_11 c_1_12) (by decide) ?_
  refine lv_aload_n hx hb dX3_numberAt_147 rfl (lv_at hl 0 rfl) ?_
  refine va_get (D := D) (ci := 3) (v := .ref (q 13)) (C := RX3) (T := TX3) (N := 15) hx hb hts inX3 hown hK hP 0 rfl rfl 14 (by decide) (hts (.fieldLink RX3 45 "PumpOaths$Station" "log" "LPumpOaths$BreachLog;") (List.mem_of_getElem? (i := 11) rfl)) (fun _ h9 => h9) rfl dX3_numberAt_148 ?_
  refine va_get (D := D) (ci := 0) (v := .int (S.1 9)) (C := RX0) (T := TX0) (N := 2) hx hb hts inX0 hown hK hP 13 rfl rfl 1 (by decide) (hts (.fieldLink RX3 107 "PumpOaths$BreachLog" "count" "I") (List.mem_of_getElem? (i := 12) rfl)) (fun _ h9 => h9) rfl dX3_numberAt_151 ?_
  exact k_iret hx hb hr hlk hP hS dX3_numberAt_154 rfl (by simp [s_num, c_1_0, c_1_1, c_1_2, c_1_3, c_1_4, c_1_5, c_1_6, c_1_7, c_1_8, c_1_9, c_1_10, c_1_11, c_1_12]) (fun h => h)

set_option maxHeartbeats 1000000 in
set_option maxRecDepth 100000 in
theorem c_X3_wanted (l : Launch) (D : va_G) (q : Nat → Nat) (cI cJ : ClassId) (S : SS) (n : Nat) (hn : S.1 8 = nI n) (hn6 : n ≤ 6) : kI l yX3_wanted wsX3_wanted ({ frames := 0, cells := 0, slots := 0, locals := 0 } : Room) D [(cI, .int), (cJ, .long)] [.ref (q 0)] (stW q cI cJ S) (s_want S n) (stW q cI cJ S) := by
  refine kBody.met (cc := cX3_wanted) (maxL := 3) (ret := (some .int)) (by decide) rfl (Nat.le_of_ble_eq_true rfl) ?_
  intro p9 e9 s9 m9 below meth c9 A9 ls hx hb hr hml hts hown hlk hK hP hD hA hl
  have hown : s9.vm.findClass RX3 = some m9.cls := hown
  have inX2 : ∀ w ∈ wsX20, w ∈ wsX3_wanted := fun w h => List.mem_cons_of_mem _ (List.mem_append_right _ (h))
  have inX3 : ∀ w ∈ wsX30, w ∈ wsX3_wanted := fun w h => List.mem_cons_of_mem _ (List.mem_append_left _ (List.mem_append_right _ (h)))
  have hS : va_S A9 s9.heap s9.heap [] := va_S.rf
  have hl : lv_has ls 3 [(0, .ref (q 0))] := hl
  refine lv_iconst (v := 0) hx hb dX3_wanted_0 (by decide) ?_
  refine lv_istore_n (lv' := [(1, .int 0), (0, .ref (q 0))]) hx hb dX3_wanted_1 rfl hl (by decide) rfl (fun ls hl => ?_)
  refine lv_iconst (v := 0) hx hb dX3_wanted_2 (by decide) ?_
  refine lv_istore_n (lv' := [(2, .int 0), (1, .int 0), (0, .ref (q 0))]) hx hb dX3_wanted_3 rfl hl (by decide) rfl (fun ls hl => ?_)
  have L_4_0 : ∀ (d : Nat) (k : Nat) (x : Int32), n < k + d → k ≤ n → ∀  (e4 : itr (s_wantB S) k 0 = x) (H : Heap) (locs : List Loc) (ls : Array Slot), va_P D vwCl (stW q cI cJ S) H → va_D A9 (stW q cI cJ S) → va_S A9 s9.heap H locs → lv_has ls 3 [(0, .ref (q 0)), (1, .int x), (2, .int (nI k))] → W p9 l e9 ({ frames := 0, cells := 0, slots := 0, locals := 0 } : Room) s9 m9 (List.toArray [.ref (q 0)]) below meth c9 H locs 0 0 (MQ below (va_Qi (fun r (_ : Unit) => r = (s_want S n)) (fun _ t9 => va_P D vwCl (stW q cI cJ S) t9.heap) A9) (List.toArray [.ref (q 0)]) s9 0 0 A9) (F0 m9 4 ls []) := by
    intro d
    induction d with
    | zero =>
      intro k x hf
      intro hkn; exact absurd hf (by omega)
    | succ d ih_4 =>
      intro k x hf_4 hkn_4 e4 H locs ls hP hD hS hl
      refine lv_iload_n hx hb dX3_wanted_4 rfl (lv_at hl 2 rfl) ?_
      refine lv_aload_n hx hb dX3_wanted_5 rfl (lv_at hl 0 rfl) ?_
      refine va_get (D := D) (ci := 3) (v := .ref (q 4)) (C := RX3) (T := TX3) (N := 15) hx hb hts inX3 hown hK hP 0 rfl rfl 13 (by decide) (hts (.fieldLink RX3 38 "PumpOaths$Station" "pumps" "LPumpOaths$Pumps;") (List.mem_of_getElem? (i := 1) rfl)) (fun _ h9 => h9) rfl dX3_wanted_6 ?_
      refine va_get (D := D) (ci := 2) (v := .int (S.1 8)) (C := RX2) (T := TX2) (N := 9) hx hb hts inX2 hown hK hP 4 rfl rfl 0 (by decide) (hts (.fieldLink RX3 94 "PumpOaths$Pumps" "count" "I") (List.mem_of_getElem? (i := 2) rfl)) (fun _ h9 => h9) rfl dX3_wanted_9 ?_
      refine lv_icmp_ge (tgt := 44) hx hb dX3_wanted_12 (by decide) (fun c_12_1 => ?_) (fun c_12_1 => ?_)
      · have c_12_1 : (S.1 8) ≤ (nI k) := c_12_1
        have hke_4 : n = k := (k_exitN c_12_1 hn hkn_4 (by omega)).symm
        subst hke_4
        refine lv_iload_n hx hb dX3_wanted_44 rfl (lv_at hl 1 rfl) ?_
        exact k_iret hx hb hr hlk hP hS dX3_wanted_45 rfl (by rw [s_want, e4]) (fun h => h)
      · have c_12_1 : ¬ (S.1 8) ≤ (nI k) := c_12_1
        have hkl_4 : k < n := k_bodyN c_12_1 hn hkn_4 (by omega)
        refine lv_aload_n hx hb dX3_wanted_15 rfl (lv_at hl 0 rfl) ?_
        refine va_get (D := D) (ci := 3) (v := .int (S.1 1)) (C := RX3) (T := TX3) (N := 15) hx hb hts inX3 hown hK hP 0 rfl rfl 1 (by decide) (hts (.fieldLink RX3 15 "PumpOaths$Station" "level" "I") (List.mem_of_getElem? (i := 3) rfl)) (fun _ h9 => h9) rfl dX3_wanted_16 ?_
        refine lv_aload_n hx hb dX3_wanted_19 rfl (lv_at hl 0 rfl) ?_
        refine va_get (D := D) (ci := 3) (v := .int (S.1 2)) (C := RX3) (T := TX3) (N := 15) hx hb hts inX3 hown hK hP 0 rfl rfl 2 (by decide) (hts (.fieldLink RX3 18 "PumpOaths$Station" "low" "I") (List.mem_of_getElem? (i := 4) rfl)) (fun _ h9 => h9) rfl dX3_wanted_20 ?_
        refine lv_iload_n hx hb dX3_wanted_23 rfl (lv_at hl 2 rfl) ?_
        refine lv_aload_n hx hb dX3_wanted_24 rfl (lv_at hl 0 rfl) ?_
        refine va_get (D := D) (ci := 3) (v := .ref (q 1)) (C := RX3) (T := TX3) (N := 15) hx hb hts inX3 hown hK hP 0 rfl rfl 10 (by decide) (hts (.fieldLink RX3 24 "PumpOaths$Station" "settings" "[I") (List.mem_of_getElem? (i := 5) rfl)) (fun _ h9 => h9) rfl dX3_wanted_25 ?_
        refine lv_iconst (v := 0) hx hb dX3_wanted_28 (by decide) ?_
        refine va_iald (f := S.2.2.1 0) hx hb hK hP 1 0 rfl rfl (k_in (k := 0) rfl (by decide) (by decide)) dX3_wanted_29 ?_
        rw [show (0 : Int32).toNatClampNeg = 0 from rfl]
        refine lv_imul hx hb dX3_wanted_30 ?_
        refine lv_isub hx hb dX3_wanted_31 ?_
        refine lv_icmp_ge (tgt := 38) hx hb dX3_wanted_32 (by decide) (fun c_32_2 => ?_) (fun c_32_2 => ?_)
        · have c_32_2 : ((S.1 2) - ((nI k) * ((S.2.2.1 0) 0))) ≤ (S.1 1) := c_32_2
          refine lv_iinc (v := (nI k) + 1) (lv' := [(2, .int ((nI k) + 1)), (0, .ref (q 0)), (1, .int x)]) hx hb dX3_wanted_38 hl (k := 2) rfl rfl (by decide) rfl (fun ls hl => ?_)
          refine lv_goto (tgt := 4) hx hb dX3_wanted_41 (by decide) ?_
          rw [show ((nI k) + 1) = (nI (k + 1)) from nI_1 _] at hl
          exact ih_4 (k + 1) x (by omega) (by omega) (by rw [itr_s, e4]; simp [s_wantB, c_12_1, c_32_2]) _ _ _ hP hD hS (lv_sub hl [1, 2, 0] rfl)
        · have c_32_2 : ¬ ((S.1 2) - ((nI k) * ((S.2.2.1 0) 0))) ≤ (S.1 1) := c_32_2
          refine lv_iinc (v := x + 1) (lv' := [(1, .int (x + 1)), (0, .ref (q 0)), (2, .int (nI k))]) hx hb dX3_wanted_35 hl (k := 1) rfl rfl (by decide) rfl (fun ls hl => ?_)
          refine lv_iinc (v := (nI k) + 1) (lv' := [(2, .int ((nI k) + 1)), (1, .int (x + 1)), (0, .ref (q 0))]) hx hb dX3_wanted_38 hl (k := 2) rfl rfl (by decide) rfl (fun ls hl => ?_)
          refine lv_goto (tgt := 4) hx hb dX3_wanted_41 (by decide) ?_
          rw [show ((nI k) + 1) = (nI (k + 1)) from nI_1 _] at hl
          exact ih_4 (k + 1) (x + 1) (by omega) (by omega) (by rw [itr_s, e4]; simp [s_wantB, c_12_1, c_32_2]) _ _ _ hP hD hS (lv_sub hl [2, 1, 0] rfl)
  exact L_4_0 (n + 1) 0 0 (by omega) (by omega) (rfl) _ _ _ hP hD hS (lv_sub hl [2, 1, 0] rfl)

set_option maxHeartbeats 1000000 in
set_option maxRecDepth 100000 in
theorem c_X3_switchPumps (l : Launch) (D : va_G) (q : Nat → Nat) (cI cJ : ClassId) (S : SS) (n : Nat) (hn : S.1 8 = nI n) (hn6 : n ≤ 6) : kI l yX3_switchPumps wsX3_switchPumps ({ frames := 2, cells := 0, slots := 0, locals := 63 } : Room) D [(cI, .int), (cJ, .long)] [.ref (q 0)] (stW q cI cJ S) (s_sw S n) (stW q cI cJ (s_swS S n)) := by
  refine kBody.met (cc := cX3_switchPumps) (maxL := 2) (ret := (some .int)) (by decide) rfl (Nat.le_of_ble_eq_true rfl) ?_
  intro p9 e9 s9 m9 below meth c9 A9 ls hx hb hr hml hts hown hlk hK hP hD hA hl
  have hown : s9.vm.findClass RX3 = some m9.cls := hown
  have inX0 : ∀ w ∈ wsX00, w ∈ wsX3_switchPumps := fun w h => List.mem_cons_of_mem _ (List.mem_append_right _ (h))
  have inX2 : ∀ w ∈ wsX20, w ∈ wsX3_switchPumps := fun w h => List.mem_cons_of_mem _ (List.mem_append_left _ (List.mem_append_right _ (h)))
  have inX3 : ∀ w ∈ wsX30, w ∈ wsX3_switchPumps := fun w h => List.mem_cons_of_mem _ (List.mem_append_left _ (List.mem_append_left _ (List.mem_append_right _ (h))))
  have hS : va_S A9 s9.heap s9.heap [] := va_S.rf
  have hl : lv_has ls 2 [(0, .ref (q 0))] := hl
  refine lv_aload_n hx hb dX3_switchPumps_0 rfl (lv_at hl 0 rfl) ?_
  refine va_get (D := D) (ci := 3) (v := .int (S.1 1)) (C := RX3) (T := TX3) (N := 15) hx hb hts inX3 hown hK hP 0 rfl rfl 1 (by decide) (hts (.fieldLink RX3 15 "PumpOaths$Station" "level" "I") (List.mem_of_getElem? (i := 1) rfl)) (fun _ h9 => h9) rfl dX3_switchPumps_1 ?_
  refine lv_aload_n hx hb dX3_switchPumps_4 rfl (lv_at hl 0 rfl) ?_
  refine va_get (D := D) (ci := 3) (v := .int (S.1 3)) (C := RX3) (T := TX3) (N := 15) hx hb hts inX3 hown hK hP 0 rfl rfl 3 (by decide) (hts (.fieldLink RX3 21 "PumpOaths$Station" "high" "I") (List.mem_of_getElem? (i := 2) rfl)) (fun _ h9 => h9) rfl dX3_switchPumps_5 ?_
  refine lv_icmp_lt (tgt := 20) hx hb dX3_switchPumps_8 (by decide) (fun c_8_0 => ?_) (fun c_8_0 => ?_)
  · have c_8_0 : (S.1 1) < (S.1 3) := c_8_0
    refine lv_aload_n hx hb dX3_switchPumps_20 rfl (lv_at hl 0 rfl) ?_
    refine va_get (D := D) (ci := 3) (v := .ref (q 4)) (C := RX3) (T := TX3) (N := 15) hx hb hts inX3 hown hK hP 0 rfl rfl 13 (by decide) (hts (.fieldLink RX3 38 "PumpOaths$Station" "pumps" "LPumpOaths$Pumps;") (List.mem_of_getElem? (i := 3) rfl)) (fun _ h9 => h9) rfl dX3_switchPumps_21 ?_
    refine lv_iconst (v := 1) hx hb dX3_switchPumps_24 (by decide) ?_
    refine k_calli (a := []) (z := []) (wc := stW q cI cJ S) (wc' := stW q cI cJ S) (w' := stW q cI cJ S) (va_runV (As := [.int 1]) (rest := []) ⟨hx, hb, hml, hown, hts⟩ (c_X2_countIn l D q cI cJ S 1 n hn hn6 _) (cwV 1 hts gX3_switchPumps_X2_countIn rfl rfl rfl (by decide +kernel) ⟨Nat.le_of_ble_eq_true rfl, Nat.le_of_ble_eq_true rfl⟩) ⟨kB_blind, va_recv hK hP (ci := 2) (q0 := 4) rfl rfl, k_pre (a := []) (z := []) (k_w0 _) hK hP hD⟩ rfl rfl hl.1 rfl (lv_room (Nat.le_of_ble_eq_true rfl)) dX3_switchPumps_25 ⟨Nat.zero_le _, Nat.zero_le _⟩) (k_w0 _) (k_w0 _) (stW_ad _ _ _ _ _) hP hD hS hA (fun H locs hP hD hS => ?_)
    refine lv_aload_n hx hb dX3_switchPumps_28 rfl (lv_at hl 0 rfl) ?_
    refine k_calli (a := []) (z := []) (wc := stW q cI cJ S) (wc' := stW q cI cJ S) (w' := stW q cI cJ S) (va_runV (As := []) (rest := [.int (p_count S n 1)]) ⟨hx, hb, hml, hown, hts⟩ (c_X3_wanted l D q cI cJ S n hn hn6 _) (cwV 0 hts gX3_switchPumps_X3_wanted rfl rfl rfl (by decide +kernel) ⟨Nat.le_of_ble_eq_true rfl, Nat.le_of_ble_eq_true rfl⟩) ⟨kB_blind, va_recv hK hP (ci := 3) (q0 := 0) rfl rfl, k_pre (a := []) (z := []) (k_w0 _) hK hP hD⟩ rfl rfl hl.1 rfl (lv_room (Nat.le_of_ble_eq_true rfl)) dX3_switchPumps_29 ⟨Nat.zero_le _, Nat.zero_le _⟩) (k_w0 _) (k_w0 _) (stW_ad _ _ _ _ _) hP hD hS hA (fun H locs hP hD hS => ?_)
    refine lv_icmp_lt (tgt := 37) hx hb dX3_switchPumps_32 (by decide) (fun c_32_1 => ?_) (fun c_32_1 => ?_)
    · have c_32_1 : (p_count S n 1) < (s_want S n) := c_32_1
      refine lv_aload_n hx hb dX3_switchPumps_37 rfl (lv_at hl 0 rfl) ?_
      refine va_get (D := D) (ci := 3) (v := .ref (q 4)) (C := RX3) (T := TX3) (N := 15) hx hb hts inX3 hown hK hP 0 rfl rfl 13 (by decide) (hts (.fieldLink RX3 38 "PumpOaths$Station" "pumps" "LPumpOaths$Pumps;") (List.mem_of_getElem? (i := 3) rfl)) (fun _ h9 => h9) rfl dX3_switchPumps_38 ?_
      refine lv_aload_n hx hb dX3_switchPumps_41 rfl (lv_at hl 0 rfl) ?_
      refine va_get (D := D) (ci := 3) (v := .ref (q 1)) (C := RX3) (T := TX3) (N := 15) hx hb hts inX3 hown hK hP 0 rfl rfl 10 (by decide) (hts (.fieldLink RX3 24 "PumpOaths$Station" "settings" "[I") (List.mem_of_getElem? (i := 4) rfl)) (fun _ h9 => h9) rfl dX3_switchPumps_42 ?_
      refine lv_iconst (v := 2) hx hb dX3_switchPumps_45 (by decide) ?_
      refine va_iald (f := S.2.2.1 0) hx hb hK hP 1 0 rfl rfl (k_in (k := 2) rfl (by decide) (by decide)) dX3_switchPumps_46 ?_
      rw [show (2 : Int32).toNatClampNeg = 2 from rfl]
      refine lv_iconst (v := 1) hx hb dX3_switchPumps_47 (by decide) ?_
      refine lv_icmp_ne (tgt := 55) hx hb dX3_switchPumps_48 (by decide) (fun c_48_2 => ?_) (fun c_48_2 => ?_)
      · have c_48_2 : ¬ ((S.2.2.1 0) 2) = 1 := c_48_2
        refine lv_iconst (v := 0) hx hb dX3_switchPumps_55 (by decide) ?_
        refine k_calli (a := []) (z := []) (wc := stW q cI cJ S) (wc' := stW q cI cJ S) (w' := stW q cI cJ S) (va_runV (As := [.int 0]) (rest := []) ⟨hx, hb, hml, hown, hts⟩ (c_X2_nextToStart l D q cI cJ S 0 n hn hn6 _) (cwV 1 hts gX3_switchPumps_X2_nextToStart rfl rfl rfl (by decide +kernel) ⟨Nat.le_of_ble_eq_true rfl, Nat.le_of_ble_eq_true rfl⟩) ⟨kB_blind, va_recv hK hP (ci := 2) (q0 := 4) rfl rfl, k_pre (a := []) (z := []) (k_w0 _) hK hP hD⟩ rfl rfl hl.1 rfl (lv_room (Nat.le_of_ble_eq_true rfl)) dX3_switchPumps_56 ⟨Nat.zero_le _, Nat.zero_le _⟩) (k_w0 _) (k_w0 _) (stW_ad _ _ _ _ _) hP hD hS hA (fun H locs hP hD hS => ?_)
        refine lv_istore_n (lv' := [(1, .int (p_next S n 0)), (0, .ref (q 0))]) hx hb dX3_switchPumps_59 rfl hl (by decide) rfl (fun ls hl => ?_)
        refine lv_aload_n hx hb dX3_switchPumps_60 rfl (lv_at hl 1 rfl) ?_
        refine va_get (D := D) (ci := 3) (v := .ref (q 4)) (C := RX3) (T := TX3) (N := 15) hx hb hts inX3 hown hK hP 0 rfl rfl 13 (by decide) (hts (.fieldLink RX3 38 "PumpOaths$Station" "pumps" "LPumpOaths$Pumps;") (List.mem_of_getElem? (i := 3) rfl)) (fun _ h9 => h9) rfl dX3_switchPumps_61 ?_
        refine lv_iload_n hx hb dX3_switchPumps_64 rfl (lv_at hl 0 rfl) ?_
        refine k_calli (a := []) (z := []) (wc := stW q cI cJ S) (wc' := stW q cI cJ S) (w' := stW q cI cJ S) (va_runV (As := [.int (p_next S n 0)]) (rest := []) ⟨hx, hb, hml, hown, hts⟩ (c_X2_has l D q cI cJ S (p_next S n 0) _) (cwV 1 hts gX3_switchPumps_X2_has rfl rfl rfl (by decide +kernel) ⟨Nat.le_of_ble_eq_true rfl, Nat.le_of_ble_eq_true rfl⟩) ⟨kB_blind, va_recv hK hP (ci := 2) (q0 := 4) rfl rfl, k_pre (a := []) (z := []) (k_w0 _) hK hP hD⟩ rfl rfl hl.1 rfl (lv_room (Nat.le_of_ble_eq_true rfl)) dX3_switchPumps_65 ⟨Nat.zero_le _, Nat.zero_le _⟩) (k_w0 _) (k_w0 _) (stW_ad _ _ _ _ _) hP hD hS hA (fun H locs hP hD hS => ?_)
        refine lv_if_ne (tgt := 73) hx hb dX3_switchPumps_68 (by decide) (fun c_68_3 => ?_) (fun c_68_3 => ?_)
        · have c_68_3 : (p_has S (p_next S n 0)) = true := bi_n.mp c_68_3
          have hin := p_hasIn c_68_3 hn hn6
          refine lv_aload_n hx hb dX3_switchPumps_73 rfl (lv_at hl 1 rfl) ?_
          refine va_get (D := D) (ci := 3) (v := .ref (q 4)) (C := RX3) (T := TX3) (N := 15) hx hb hts inX3 hown hK hP 0 rfl rfl 13 (by decide) (hts (.fieldLink RX3 38 "PumpOaths$Station" "pumps" "LPumpOaths$Pumps;") (List.mem_of_getElem? (i := 3) rfl)) (fun _ h9 => h9) rfl dX3_switchPumps_74 ?_
          refine lv_iload_n hx hb dX3_switchPumps_77 rfl (lv_at hl 0 rfl) ?_
          refine k_calli (a := []) (z := []) (wc := stW q cI cJ S) (wc' := stW q cI cJ (p_start S (p_next S n 0))) (w' := stW q cI cJ (p_start S (p_next S n 0))) (va_runV (As := [.int (p_next S n 0)]) (rest := []) ⟨hx, hb, hml, hown, hts⟩ (c_X2_start l D q cI cJ S (p_next S n 0) n hn hn6 _) (cwV 1 hts gX3_switchPumps_X2_start rfl rfl rfl (by decide +kernel) ⟨Nat.le_of_ble_eq_true rfl, Nat.le_of_ble_eq_true rfl⟩) ⟨kB_blind, va_recv hK hP (ci := 2) (q0 := 4) rfl rfl, k_pre (a := []) (z := []) (k_w0 _) hK hP hD⟩ rfl rfl hl.1 rfl (lv_room (Nat.le_of_ble_eq_true rfl)) dX3_switchPumps_78 ⟨Nat.zero_le _, Nat.zero_le _⟩) (k_w0 _) (k_w0 _) (stW_ad _ _ _ _ _) hP hD hS hA (fun H locs hP hD hS => ?_)
          refine lv_if_eq (tgt := 115) hx hb dX3_switchPumps_81 (by decide) (fun c_81_4 => ?_) (fun c_81_4 => ?_)
          · have c_81_4 : (p_breaks S (p_next S n 0)) = false := bi_0.mp c_81_4
            refine lv_iload_n hx hb dX3_switchPumps_115 rfl (lv_at hl 0 rfl) ?_
            exact k_iret hx hb hr hlk hP hS dX3_switchPumps_116 rfl (by simp [s_sw, s_cand, s_force, c_8_0, c_32_1, c_48_2, c_68_3, c_81_4]) (k_P (by simp [s_swS, s_swP, s_cand, s_force, c_8_0, c_32_1, c_48_2, c_68_3, c_81_4]))
          · have c_81_4 : (p_breaks S (p_next S n 0)) = true := bi_n.mp c_81_4
            refine lv_aload_n hx hb dX3_switchPumps_84 rfl (lv_at hl 1 rfl) ?_
            refine lv_dup hx hb dX3_switchPumps_85 rfl ?_
            refine va_get (D := D) (ci := 3) (v := .int ((p_start S (p_next S n 0)).1 5)) (C := RX3) (T := TX3) (N := 15) hx hb hts inX3 hown hK hP 0 rfl rfl 5 (by decide) (hts (.fieldLink RX3 52 "PumpOaths$Station" "brokenOaths" "I") (List.mem_of_getElem? (i := 5) rfl)) (fun _ h9 => h9) rfl dX3_switchPumps_86 ?_
            refine lv_iconst (v := 1) hx hb dX3_switchPumps_89 (by decide) ?_
            refine lv_iadd hx hb dX3_switchPumps_90 ?_
            refine va_put (D := D) (ci := 3) (v := .int (((p_start S (p_next S n 0)).1 5) + 1)) (ty := .int) (C := RX3) (T := TX3) (N := 15) hx hb hts inX3 tyX3 tyX3_ok nmX3 hown hK hP hD hS 0 rfl rfl 5 (by decide) (hts (.fieldLink RX3 52 "PumpOaths$Station" "brokenOaths" "I") (List.mem_of_getElem? (i := 5) rfl)) (fun _ h9 => h9) rfl (by decide +kernel) rfl rfl (Nat.le_of_ble_eq_true rfl) dX3_switchPumps_91 (fun H locs hP hD hS => ?_)
            have hP : va_P D vwCl (stW q cI cJ (setI (p_start S (p_next S n 0)) 5 (((p_start S (p_next S n 0)).1 5) + 1))) H := hP
            have hD : va_D A9 (stW q cI cJ (setI (p_start S (p_next S n 0)) 5 (((p_start S (p_next S n 0)).1 5) + 1))) := hD
            refine lv_aload_n hx hb dX3_switchPumps_94 rfl (lv_at hl 1 rfl) ?_
            refine va_get (D := D) (ci := 3) (v := .ref (q 13)) (C := RX3) (T := TX3) (N := 15) hx hb hts inX3 hown hK hP 0 rfl rfl 14 (by decide) (hts (.fieldLink RX3 45 "PumpOaths$Station" "log" "LPumpOaths$BreachLog;") (List.mem_of_getElem? (i := 6) rfl)) (fun _ h9 => h9) rfl dX3_switchPumps_95 ?_
            refine lv_iload_n hx hb dX3_switchPumps_98 rfl (lv_at hl 0 rfl) ?_
            refine lv_aload_n hx hb dX3_switchPumps_99 rfl (lv_at hl 1 rfl) ?_
            refine va_get (D := D) (ci := 3) (v := .int ((p_start S (p_next S n 0)).1 4)) (C := RX3) (T := TX3) (N := 15) hx hb hts inX3 hown hK hP 0 rfl rfl 4 (by decide) (hts (.fieldLink RX3 49 "PumpOaths$Station" "time" "I") (List.mem_of_getElem? (i := 7) rfl)) (fun _ h9 => h9) rfl dX3_switchPumps_100 ?_
            refine lv_aload_n hx hb dX3_switchPumps_103 rfl (lv_at hl 1 rfl) ?_
            refine va_get (D := D) (ci := 3) (v := .ref (q 4)) (C := RX3) (T := TX3) (N := 15) hx hb hts inX3 hown hK hP 0 rfl rfl 13 (by decide) (hts (.fieldLink RX3 38 "PumpOaths$Station" "pumps" "LPumpOaths$Pumps;") (List.mem_of_getElem? (i := 3) rfl)) (fun _ h9 => h9) rfl dX3_switchPumps_104 ?_
            refine va_get (D := D) (ci := 2) (v := .ref (q 9)) (C := RX2) (T := TX2) (N := 9) hx hb hts inX2 hown hK hP 4 rfl rfl 5 (by decide) (hts (.fieldLink RX3 141 "PumpOaths$Pumps" "hourStarts" "[I") (List.mem_of_getElem? (i := 8) rfl)) (fun _ h9 => h9) rfl dX3_switchPumps_107 ?_
            refine lv_iload_n hx hb dX3_switchPumps_110 rfl (lv_at hl 0 rfl) ?_
            refine va_iald (f := (p_start S (p_next S n 0)).2.2.1 6) hx hb hK hP 9 0 rfl rfl (hin) dX3_switchPumps_111 ?_
            refine k_callv (a := []) (z := []) (wc := stW q cI cJ (setI (p_start S (p_next S n 0)) 5 (((p_start S (p_next S n 0)).1 5) + 1))) (wc' := stW q cI cJ (b_put (setI (p_start S (p_next S n 0)) 5 (((p_start S (p_next S n 0)).1 5) + 1)) (p_next S n 0) ((p_start S (p_next S n 0)).1 4) (((p_start S (p_next S n 0)).2.2.1 6) ((p_next S n 0).toNatClampNeg)))) (w' := stW q cI cJ (b_put (setI (p_start S (p_next S n 0)) 5 (((p_start S (p_next S n 0)).1 5) + 1)) (p_next S n 0) ((p_start S (p_next S n 0)).1 4) (((p_start S (p_next S n 0)).2.2.1 6) ((p_next S n 0).toNatClampNeg)))) (va_runV (As := [.int (p_next S n 0), .int ((p_start S (p_next S n 0)).1 4), .int (((p_start S (p_next S n 0)).2.2.1 6) ((p_next S n 0).toNatClampNeg))]) (rest := []) ⟨hx, hb, hml, hown, hts⟩ (c_X0_put l D q cI cJ (setI (p_start S (p_next S n 0)) 5 (((p_start S (p_next S n 0)).1 5) + 1)) (p_next S n 0) ((p_start S (p_next S n 0)).1 4) (((p_start S (p_next S n 0)).2.2.1 6) ((p_next S n 0).toNatClampNeg)) _) (cwV 3 hts gX3_switchPumps_X0_put rfl rfl rfl (by decide +kernel) ⟨Nat.le_of_ble_eq_true rfl, Nat.le_of_ble_eq_true rfl⟩) ⟨kB_blind, va_recv hK hP (ci := 0) (q0 := 13) rfl rfl, k_pre (a := []) (z := []) (k_w0 _) hK hP hD⟩ rfl rfl hl.1 rfl (lv_room (Nat.le_of_ble_eq_true rfl)) dX3_switchPumps_112 ⟨Nat.zero_le _, Nat.zero_le _⟩) (k_w0 _) (k_w0 _) (stW_ad _ _ _ _ _) hP hD hS hA (fun H locs hP hD hS => ?_)
            refine lv_iload_n hx hb dX3_switchPumps_115 rfl (lv_at hl 0 rfl) ?_
            exact k_iret hx hb hr hlk hP hS dX3_switchPumps_116 rfl (by simp [s_sw, s_cand, s_force, c_8_0, c_32_1, c_48_2, c_68_3, c_81_4]) (k_P (by simp [s_swS, s_swP, s_cand, s_force, c_8_0, c_32_1, c_48_2, c_68_3, c_81_4]))
        · have c_68_3 : (p_has S (p_next S n 0)) = false := bi_0.mp c_68_3
          refine lv_iconst (v := (-1)) hx hb dX3_switchPumps_71 (by decide) ?_
          exact k_iret hx hb hr hlk hP hS dX3_switchPumps_72 rfl (by simp [s_sw, s_cand, s_force, c_8_0, c_32_1, c_48_2, c_68_3]) (k_P (by simp [s_swS, s_swP, s_cand, s_force, c_8_0, c_32_1, c_48_2, c_68_3]))
      · have c_48_2 : ((S.2.2.1 0) 2) = 1 := c_48_2
        refine lv_iconst (v := 1) hx hb dX3_switchPumps_51 (by decide) ?_
        refine lv_goto (tgt := 56) hx hb dX3_switchPumps_52 (by decide) ?_
        refine k_calli (a := []) (z := []) (wc := stW q cI cJ S) (wc' := stW q cI cJ S) (w' := stW q cI cJ S) (va_runV (As := [.int 1]) (rest := []) ⟨hx, hb, hml, hown, hts⟩ (c_X2_nextToStart l D q cI cJ S 1 n hn hn6 _) (cwV 1 hts gX3_switchPumps_X2_nextToStart rfl rfl rfl (by decide +kernel) ⟨Nat.le_of_ble_eq_true rfl, Nat.le_of_ble_eq_true rfl⟩) ⟨kB_blind, va_recv hK hP (ci := 2) (q0 := 4) rfl rfl, k_pre (a := []) (z := []) (k_w0 _) hK hP hD⟩ rfl rfl hl.1 rfl (lv_room (Nat.le_of_ble_eq_true rfl)) dX3_switchPumps_56 ⟨Nat.zero_le _, Nat.zero_le _⟩) (k_w0 _) (k_w0 _) (stW_ad _ _ _ _ _) hP hD hS hA (fun H locs hP hD hS => ?_)
        refine lv_istore_n (lv' := [(1, .int (p_next S n 1)), (0, .ref (q 0))]) hx hb dX3_switchPumps_59 rfl hl (by decide) rfl (fun ls hl => ?_)
        refine lv_aload_n hx hb dX3_switchPumps_60 rfl (lv_at hl 1 rfl) ?_
        refine va_get (D := D) (ci := 3) (v := .ref (q 4)) (C := RX3) (T := TX3) (N := 15) hx hb hts inX3 hown hK hP 0 rfl rfl 13 (by decide) (hts (.fieldLink RX3 38 "PumpOaths$Station" "pumps" "LPumpOaths$Pumps;") (List.mem_of_getElem? (i := 3) rfl)) (fun _ h9 => h9) rfl dX3_switchPumps_61 ?_
        refine lv_iload_n hx hb dX3_switchPumps_64 rfl (lv_at hl 0 rfl) ?_
        refine k_calli (a := []) (z := []) (wc := stW q cI cJ S) (wc' := stW q cI cJ S) (w' := stW q cI cJ S) (va_runV (As := [.int (p_next S n 1)]) (rest := []) ⟨hx, hb, hml, hown, hts⟩ (c_X2_has l D q cI cJ S (p_next S n 1) _) (cwV 1 hts gX3_switchPumps_X2_has rfl rfl rfl (by decide +kernel) ⟨Nat.le_of_ble_eq_true rfl, Nat.le_of_ble_eq_true rfl⟩) ⟨kB_blind, va_recv hK hP (ci := 2) (q0 := 4) rfl rfl, k_pre (a := []) (z := []) (k_w0 _) hK hP hD⟩ rfl rfl hl.1 rfl (lv_room (Nat.le_of_ble_eq_true rfl)) dX3_switchPumps_65 ⟨Nat.zero_le _, Nat.zero_le _⟩) (k_w0 _) (k_w0 _) (stW_ad _ _ _ _ _) hP hD hS hA (fun H locs hP hD hS => ?_)
        refine lv_if_ne (tgt := 73) hx hb dX3_switchPumps_68 (by decide) (fun c_68_5 => ?_) (fun c_68_5 => ?_)
        · have c_68_5 : (p_has S (p_next S n 1)) = true := bi_n.mp c_68_5
          have hin := p_hasIn c_68_5 hn hn6
          refine lv_aload_n hx hb dX3_switchPumps_73 rfl (lv_at hl 1 rfl) ?_
          refine va_get (D := D) (ci := 3) (v := .ref (q 4)) (C := RX3) (T := TX3) (N := 15) hx hb hts inX3 hown hK hP 0 rfl rfl 13 (by decide) (hts (.fieldLink RX3 38 "PumpOaths$Station" "pumps" "LPumpOaths$Pumps;") (List.mem_of_getElem? (i := 3) rfl)) (fun _ h9 => h9) rfl dX3_switchPumps_74 ?_
          refine lv_iload_n hx hb dX3_switchPumps_77 rfl (lv_at hl 0 rfl) ?_
          refine k_calli (a := []) (z := []) (wc := stW q cI cJ S) (wc' := stW q cI cJ (p_start S (p_next S n 1))) (w' := stW q cI cJ (p_start S (p_next S n 1))) (va_runV (As := [.int (p_next S n 1)]) (rest := []) ⟨hx, hb, hml, hown, hts⟩ (c_X2_start l D q cI cJ S (p_next S n 1) n hn hn6 _) (cwV 1 hts gX3_switchPumps_X2_start rfl rfl rfl (by decide +kernel) ⟨Nat.le_of_ble_eq_true rfl, Nat.le_of_ble_eq_true rfl⟩) ⟨kB_blind, va_recv hK hP (ci := 2) (q0 := 4) rfl rfl, k_pre (a := []) (z := []) (k_w0 _) hK hP hD⟩ rfl rfl hl.1 rfl (lv_room (Nat.le_of_ble_eq_true rfl)) dX3_switchPumps_78 ⟨Nat.zero_le _, Nat.zero_le _⟩) (k_w0 _) (k_w0 _) (stW_ad _ _ _ _ _) hP hD hS hA (fun H locs hP hD hS => ?_)
          refine lv_if_eq (tgt := 115) hx hb dX3_switchPumps_81 (by decide) (fun c_81_6 => ?_) (fun c_81_6 => ?_)
          · have c_81_6 : (p_breaks S (p_next S n 1)) = false := bi_0.mp c_81_6
            refine lv_iload_n hx hb dX3_switchPumps_115 rfl (lv_at hl 0 rfl) ?_
            exact k_iret hx hb hr hlk hP hS dX3_switchPumps_116 rfl (by simp [s_sw, s_cand, s_force, c_8_0, c_32_1, c_48_2, c_68_5, c_81_6]) (k_P (by simp [s_swS, s_swP, s_cand, s_force, c_8_0, c_32_1, c_48_2, c_68_5, c_81_6]))
          · have c_81_6 : (p_breaks S (p_next S n 1)) = true := bi_n.mp c_81_6
            refine lv_aload_n hx hb dX3_switchPumps_84 rfl (lv_at hl 1 rfl) ?_
            refine lv_dup hx hb dX3_switchPumps_85 rfl ?_
            refine va_get (D := D) (ci := 3) (v := .int ((p_start S (p_next S n 1)).1 5)) (C := RX3) (T := TX3) (N := 15) hx hb hts inX3 hown hK hP 0 rfl rfl 5 (by decide) (hts (.fieldLink RX3 52 "PumpOaths$Station" "brokenOaths" "I") (List.mem_of_getElem? (i := 5) rfl)) (fun _ h9 => h9) rfl dX3_switchPumps_86 ?_
            refine lv_iconst (v := 1) hx hb dX3_switchPumps_89 (by decide) ?_
            refine lv_iadd hx hb dX3_switchPumps_90 ?_
            refine va_put (D := D) (ci := 3) (v := .int (((p_start S (p_next S n 1)).1 5) + 1)) (ty := .int) (C := RX3) (T := TX3) (N := 15) hx hb hts inX3 tyX3 tyX3_ok nmX3 hown hK hP hD hS 0 rfl rfl 5 (by decide) (hts (.fieldLink RX3 52 "PumpOaths$Station" "brokenOaths" "I") (List.mem_of_getElem? (i := 5) rfl)) (fun _ h9 => h9) rfl (by decide +kernel) rfl rfl (Nat.le_of_ble_eq_true rfl) dX3_switchPumps_91 (fun H locs hP hD hS => ?_)
            have hP : va_P D vwCl (stW q cI cJ (setI (p_start S (p_next S n 1)) 5 (((p_start S (p_next S n 1)).1 5) + 1))) H := hP
            have hD : va_D A9 (stW q cI cJ (setI (p_start S (p_next S n 1)) 5 (((p_start S (p_next S n 1)).1 5) + 1))) := hD
            refine lv_aload_n hx hb dX3_switchPumps_94 rfl (lv_at hl 1 rfl) ?_
            refine va_get (D := D) (ci := 3) (v := .ref (q 13)) (C := RX3) (T := TX3) (N := 15) hx hb hts inX3 hown hK hP 0 rfl rfl 14 (by decide) (hts (.fieldLink RX3 45 "PumpOaths$Station" "log" "LPumpOaths$BreachLog;") (List.mem_of_getElem? (i := 6) rfl)) (fun _ h9 => h9) rfl dX3_switchPumps_95 ?_
            refine lv_iload_n hx hb dX3_switchPumps_98 rfl (lv_at hl 0 rfl) ?_
            refine lv_aload_n hx hb dX3_switchPumps_99 rfl (lv_at hl 1 rfl) ?_
            refine va_get (D := D) (ci := 3) (v := .int ((p_start S (p_next S n 1)).1 4)) (C := RX3) (T := TX3) (N := 15) hx hb hts inX3 hown hK hP 0 rfl rfl 4 (by decide) (hts (.fieldLink RX3 49 "PumpOaths$Station" "time" "I") (List.mem_of_getElem? (i := 7) rfl)) (fun _ h9 => h9) rfl dX3_switchPumps_100 ?_
            refine lv_aload_n hx hb dX3_switchPumps_103 rfl (lv_at hl 1 rfl) ?_
            refine va_get (D := D) (ci := 3) (v := .ref (q 4)) (C := RX3) (T := TX3) (N := 15) hx hb hts inX3 hown hK hP 0 rfl rfl 13 (by decide) (hts (.fieldLink RX3 38 "PumpOaths$Station" "pumps" "LPumpOaths$Pumps;") (List.mem_of_getElem? (i := 3) rfl)) (fun _ h9 => h9) rfl dX3_switchPumps_104 ?_
            refine va_get (D := D) (ci := 2) (v := .ref (q 9)) (C := RX2) (T := TX2) (N := 9) hx hb hts inX2 hown hK hP 4 rfl rfl 5 (by decide) (hts (.fieldLink RX3 141 "PumpOaths$Pumps" "hourStarts" "[I") (List.mem_of_getElem? (i := 8) rfl)) (fun _ h9 => h9) rfl dX3_switchPumps_107 ?_
            refine lv_iload_n hx hb dX3_switchPumps_110 rfl (lv_at hl 0 rfl) ?_
            refine va_iald (f := (p_start S (p_next S n 1)).2.2.1 6) hx hb hK hP 9 0 rfl rfl (hin) dX3_switchPumps_111 ?_
            refine k_callv (a := []) (z := []) (wc := stW q cI cJ (setI (p_start S (p_next S n 1)) 5 (((p_start S (p_next S n 1)).1 5) + 1))) (wc' := stW q cI cJ (b_put (setI (p_start S (p_next S n 1)) 5 (((p_start S (p_next S n 1)).1 5) + 1)) (p_next S n 1) ((p_start S (p_next S n 1)).1 4) (((p_start S (p_next S n 1)).2.2.1 6) ((p_next S n 1).toNatClampNeg)))) (w' := stW q cI cJ (b_put (setI (p_start S (p_next S n 1)) 5 (((p_start S (p_next S n 1)).1 5) + 1)) (p_next S n 1) ((p_start S (p_next S n 1)).1 4) (((p_start S (p_next S n 1)).2.2.1 6) ((p_next S n 1).toNatClampNeg)))) (va_runV (As := [.int (p_next S n 1), .int ((p_start S (p_next S n 1)).1 4), .int (((p_start S (p_next S n 1)).2.2.1 6) ((p_next S n 1).toNatClampNeg))]) (rest := []) ⟨hx, hb, hml, hown, hts⟩ (c_X0_put l D q cI cJ (setI (p_start S (p_next S n 1)) 5 (((p_start S (p_next S n 1)).1 5) + 1)) (p_next S n 1) ((p_start S (p_next S n 1)).1 4) (((p_start S (p_next S n 1)).2.2.1 6) ((p_next S n 1).toNatClampNeg)) _) (cwV 3 hts gX3_switchPumps_X0_put rfl rfl rfl (by decide +kernel) ⟨Nat.le_of_ble_eq_true rfl, Nat.le_of_ble_eq_true rfl⟩) ⟨kB_blind, va_recv hK hP (ci := 0) (q0 := 13) rfl rfl, k_pre (a := []) (z := []) (k_w0 _) hK hP hD⟩ rfl rfl hl.1 rfl (lv_room (Nat.le_of_ble_eq_true rfl)) dX3_switchPumps_112 ⟨Nat.zero_le _, Nat.zero_le _⟩) (k_w0 _) (k_w0 _) (stW_ad _ _ _ _ _) hP hD hS hA (fun H locs hP hD hS => ?_)
            refine lv_iload_n hx hb dX3_switchPumps_115 rfl (lv_at hl 0 rfl) ?_
            exact k_iret hx hb hr hlk hP hS dX3_switchPumps_116 rfl (by simp [s_sw, s_cand, s_force, c_8_0, c_32_1, c_48_2, c_68_5, c_81_6]) (k_P (by simp [s_swS, s_swP, s_cand, s_force, c_8_0, c_32_1, c_48_2, c_68_5, c_81_6]))
        · have c_68_5 : (p_has S (p_next S n 1)) = false := bi_0.mp c_68_5
          refine lv_iconst (v := (-1)) hx hb dX3_switchPumps_71 (by decide) ?_
          exact k_iret hx hb hr hlk hP hS dX3_switchPumps_72 rfl (by simp [s_sw, s_cand, s_force, c_8_0, c_32_1, c_48_2, c_68_5]) (k_P (by simp [s_swS, s_swP, s_cand, s_force, c_8_0, c_32_1, c_48_2, c_68_5]))
    · have c_32_1 : ¬ (p_count S n 1) < (s_want S n) := c_32_1
      refine lv_iconst (v := (-1)) hx hb dX3_switchPumps_35 (by decide) ?_
      exact k_iret hx hb hr hlk hP hS dX3_switchPumps_36 rfl (by simp [s_sw, s_cand, s_force, c_8_0, c_32_1]) (k_P (by simp [s_swS, s_swP, s_cand, s_force, c_8_0, c_32_1]))
  · have c_8_0 : ¬ (S.1 1) < (S.1 3) := c_8_0
    refine lv_aload_n hx hb dX3_switchPumps_11 rfl (lv_at hl 0 rfl) ?_
    refine va_get (D := D) (ci := 3) (v := .ref (q 4)) (C := RX3) (T := TX3) (N := 15) hx hb hts inX3 hown hK hP 0 rfl rfl 13 (by decide) (hts (.fieldLink RX3 38 "PumpOaths$Station" "pumps" "LPumpOaths$Pumps;") (List.mem_of_getElem? (i := 3) rfl)) (fun _ h9 => h9) rfl dX3_switchPumps_12 ?_
    refine k_callv (a := []) (z := []) (wc := stW q cI cJ S) (wc' := stW q cI cJ (p_stop S n)) (w' := stW q cI cJ (p_stop S n)) (va_runV (As := []) (rest := []) ⟨hx, hb, hml, hown, hts⟩ (c_X2_stopAll l D q cI cJ S n hn hn6 _) (cwV 0 hts gX3_switchPumps_X2_stopAll rfl rfl rfl (by decide +kernel) ⟨Nat.le_of_ble_eq_true rfl, Nat.le_of_ble_eq_true rfl⟩) ⟨kB_blind, va_recv hK hP (ci := 2) (q0 := 4) rfl rfl, k_pre (a := []) (z := []) (k_w0 _) hK hP hD⟩ rfl rfl hl.1 rfl (lv_room (Nat.le_of_ble_eq_true rfl)) dX3_switchPumps_15 ⟨Nat.zero_le _, Nat.zero_le _⟩) (k_w0 _) (k_w0 _) (stW_ad _ _ _ _ _) hP hD hS hA (fun H locs hP hD hS => ?_)
    refine lv_iconst (v := (-1)) hx hb dX3_switchPumps_18 (by decide) ?_
    exact k_iret hx hb hr hlk hP hS dX3_switchPumps_19 rfl (by simp [s_sw, s_cand, s_force, c_8_0]) (k_P (by simp [s_swS, s_swP, s_cand, s_force, c_8_0]))
