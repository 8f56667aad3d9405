set_option maxHeartbeats 1000000 in
set_option maxRecDepth 100000 in
theorem c_X2_start (l : Launch) (D : va_G) (q : Nat → Nat) (cI cJ : ClassId) (S : SS) (w : Int32) (n : Nat) (hn : S.1 8 = nI n) (hn6 : n ≤ 6) : kI l yX2_start wsX2_start ({ frames := 1, cells := 0, slots := 0, locals := 21 } : Room) D [(cI, .int), (cJ, .long)] [.ref (q 4), .int w] (stW q cI cJ S) (bi (p_breaks S w)) (stW q cI cJ (p_start S w)) := by
  refine kBody.met (cc := cX2_start) (maxL := 3) (ret := (some .boolean)) (by decide) rfl (Nat.le_of_ble_eq_true rfl) ?_
  intro p9 e9 s9 m9 below meth c9 A9 ls hx hb hr hml hts hown hlk hK hP hD hA hl
  have hown : s9.vm.findClass RX2 = some m9.cls := hown
  have inX2 : ∀ w ∈ wsX20, w ∈ wsX2_start := fun w h => List.mem_cons_of_mem _ (List.mem_append_right _ (h))
  have hS : va_S A9 s9.heap s9.heap [] := va_S.rf
  have hl : lv_has ls 3 [(0, .ref (q 4)), (1, .int w)] := hl
  refine lv_aload_n hx hb dX2_start_0 rfl (lv_at hl 0 rfl) ?_
  refine lv_iload_n hx hb dX2_start_1 rfl (lv_at hl 1 rfl) ?_
  refine k_calli (a := []) (z := []) (wc := stW q cI cJ S) (wc' := stW q cI cJ S) (w' := stW q cI cJ S) (va_runV (As := [.int w]) (rest := []) ⟨hx, hb, hml, hown, hts⟩ (c_X2_has l D q cI cJ S w _) (cwV 1 hts gX2_start_X2_has rfl rfl rfl (by decide +kernel) ⟨Nat.le_of_ble_eq_true rfl, Nat.le_of_ble_eq_true rfl⟩) ⟨kB_blind, va_recv hK hP (ci := 2) (q0 := 4) rfl rfl, k_pre (a := []) (z := []) (k_w0 _) hK hP hD⟩ rfl rfl hl.1 rfl (lv_room (Nat.le_of_ble_eq_true rfl)) dX2_start_2 ⟨Nat.zero_le _, Nat.zero_le _⟩) (k_w0 _) (k_w0 _) (stW_ad _ _ _ _ _) hP hD hS hA (fun H locs hP hD hS => ?_)
  refine lv_if_ne (tgt := 10) hx hb dX2_start_5 (by decide) (fun c_5_0 => ?_) (fun c_5_0 => ?_)
  · have c_5_0 : (p_has S w) = true := bi_n.mp c_5_0
    have hin := p_hasIn c_5_0 hn hn6
    refine lv_aload_n hx hb dX2_start_10 rfl (lv_at hl 0 rfl) ?_
    refine va_get (D := D) (ci := 2) (v := .ref (q 9)) (C := RX2) (T := TX2) (N := 9) hx hb hts inX2 hown hK hP 4 rfl rfl 5 (by decide) (hts (.fieldLink RX2 24 "PumpOaths$Pumps" "hourStarts" "[I") (List.mem_of_getElem? (i := 1) rfl)) (fun _ h9 => h9) rfl dX2_start_11 ?_
    refine lv_iload_n hx hb dX2_start_14 rfl (lv_at hl 1 rfl) ?_
    refine va_iald (f := S.2.2.1 6) hx hb hK hP 9 0 rfl rfl (hin) dX2_start_15 ?_
    refine lv_aload_n hx hb dX2_start_16 rfl (lv_at hl 0 rfl) ?_
    refine va_get (D := D) (ci := 2) (v := .ref (q 6)) (C := RX2) (T := TX2) (N := 9) hx hb hts inX2 hown hK hP 4 rfl rfl 2 (by decide) (hts (.fieldLink RX2 15 "PumpOaths$Pumps" "oath" "[I") (List.mem_of_getElem? (i := 2) rfl)) (fun _ h9 => h9) rfl dX2_start_17 ?_
    refine lv_iload_n hx hb dX2_start_20 rfl (lv_at hl 1 rfl) ?_
    refine va_iald (f := S.2.2.1 3) hx hb hK hP 6 0 rfl rfl (hin) dX2_start_21 ?_
    refine lv_icmp_lt (tgt := 29) hx hb dX2_start_22 (by decide) (fun c_22_1 => ?_) (fun c_22_1 => ?_)
    · have c_22_1 : ((S.2.2.1 6) w.toNatClampNeg) < ((S.2.2.1 3) w.toNatClampNeg) := c_22_1
      refine lv_iconst (v := 0) hx hb dX2_start_29 (by decide) ?_
      refine lv_istore_n (lv' := [(2, .int 0), (0, .ref (q 4)), (1, .int w)]) hx hb dX2_start_30 rfl hl (by decide) rfl (fun ls hl => ?_)
      refine lv_aload_n hx hb dX2_start_31 rfl (lv_at hl 1 rfl) ?_
      refine va_get (D := D) (ci := 2) (v := .ref (q 7)) (C := RX2) (T := TX2) (N := 9) hx hb hts inX2 hown hK hP 4 rfl rfl 3 (by decide) (hts (.fieldLink RX2 18 "PumpOaths$Pumps" "mode" "[I") (List.mem_of_getElem? (i := 3) rfl)) (fun _ h9 => h9) rfl dX2_start_32 ?_
      refine lv_iload_n hx hb dX2_start_35 rfl (lv_at hl 2 rfl) ?_
      refine lv_iconst (v := 1) hx hb dX2_start_36 (by decide) ?_
      refine va_iast (f := S.2.2.1 4) hx hb hK hP hD hS 7 0 rfl rfl (hin) dX2_start_37 (fun H locs hP hD hS => ?_)
      have hP : va_P D vwCl (stW q cI cJ (setA S 4 (upd (S.2.2.1 4) w.toNatClampNeg 1))) H := hP
      have hD : va_D A9 (stW q cI cJ (setA S 4 (upd (S.2.2.1 4) w.toNatClampNeg 1))) := hD
      refine lv_aload_n hx hb dX2_start_38 rfl (lv_at hl 1 rfl) ?_
      refine va_get (D := D) (ci := 2) (v := .ref (q 9)) (C := RX2) (T := TX2) (N := 9) hx hb hts inX2 hown hK hP 4 rfl rfl 5 (by decide) (hts (.fieldLink RX2 24 "PumpOaths$Pumps" "hourStarts" "[I") (List.mem_of_getElem? (i := 1) rfl)) (fun _ h9 => h9) rfl dX2_start_39 ?_
      refine lv_iload_n hx hb dX2_start_42 rfl (lv_at hl 2 rfl) ?_
      refine lv_dup2_11 hx hb dX2_start_43 rfl rfl ?_
      refine va_iald (f := S.2.2.1 6) hx hb hK hP 9 0 rfl rfl (hin) dX2_start_44 ?_
      refine lv_iconst (v := 1) hx hb dX2_start_45 (by decide) ?_
      refine lv_iadd hx hb dX2_start_46 ?_
      refine va_iast (f := S.2.2.1 6) hx hb hK hP hD hS 9 0 rfl rfl (hin) dX2_start_47 (fun H locs hP hD hS => ?_)
      have hP : va_P D vwCl (stW q cI cJ (setA (setA S 4 (upd (S.2.2.1 4) w.toNatClampNeg 1)) 6 (upd (S.2.2.1 6) w.toNatClampNeg (((S.2.2.1 6) w.toNatClampNeg) + 1)))) H := hP
      have hD : va_D A9 (stW q cI cJ (setA (setA S 4 (upd (S.2.2.1 4) w.toNatClampNeg 1)) 6 (upd (S.2.2.1 6) w.toNatClampNeg (((S.2.2.1 6) w.toNatClampNeg) + 1)))) := hD
      refine lv_aload_n hx hb dX2_start_48 rfl (lv_at hl 1 rfl) ?_
      refine va_get (D := D) (ci := 2) (v := .ref (q 10)) (C := RX2) (T := TX2) (N := 9) hx hb hts inX2 hown hK hP 4 rfl rfl 6 (by decide) (hts (.fieldLink RX2 27 "PumpOaths$Pumps" "starts" "[I") (List.mem_of_getElem? (i := 4) rfl)) (fun _ h9 => h9) rfl dX2_start_49 ?_
      refine lv_iload_n hx hb dX2_start_52 rfl (lv_at hl 2 rfl) ?_
      refine lv_dup2_11 hx hb dX2_start_53 rfl rfl ?_
      refine va_iald (f := S.2.2.1 7) hx hb hK hP 10 0 rfl rfl (hin) dX2_start_54 ?_
      refine lv_iconst (v := 1) hx hb dX2_start_55 (by decide) ?_
      refine lv_iadd hx hb dX2_start_56 ?_
      refine va_iast (f := S.2.2.1 7) hx hb hK hP hD hS 10 0 rfl rfl (hin) dX2_start_57 (fun H locs hP hD hS => ?_)
      have hP : va_P D vwCl (stW q cI cJ (setA (setA (setA S 4 (upd (S.2.2.1 4) w.toNatClampNeg 1)) 6 (upd (S.2.2.1 6) w.toNatClampNeg (((S.2.2.1 6) w.toNatClampNeg) + 1))) 7 (upd (S.2.2.1 7) w.toNatClampNeg (((S.2.2.1 7) w.toNatClampNeg) + 1)))) H := hP
      have hD : va_D A9 (stW q cI cJ (setA (setA (setA S 4 (upd (S.2.2.1 4) w.toNatClampNeg 1)) 6 (upd (S.2.2.1 6) w.toNatClampNeg (((S.2.2.1 6) w.toNatClampNeg) + 1))) 7 (upd (S.2.2.1 7) w.toNatClampNeg (((S.2.2.1 7) w.toNatClampNeg) + 1)))) := hD
      refine lv_iload_n hx hb dX2_start_58 rfl (lv_at hl 0 rfl) ?_
      refine lv_if_eq (tgt := 72) hx hb dX2_start_59 (by decide) (fun _ => ?_) (fun h => absurd h (by decide))
      refine lv_iload_n hx hb dX2_start_72 rfl (lv_at hl 0 rfl) ?_
      exact k_iret hx hb hr hlk hP hS dX2_start_73 rfl (by simp [p_breaks, bi, c_5_0, c_22_1]) (k_P (by simp [p_start, p_start1, c_5_0, c_22_1]))
    · have c_22_1 : ¬ ((S.2.2.1 6) w.toNatClampNeg) < ((S.2.2.1 3) w.toNatClampNeg) := c_22_1
      refine lv_iconst (v := 1) hx hb dX2_start_25 (by decide) ?_
      refine lv_goto (tgt := 30) hx hb dX2_start_26 (by decide) ?_
      refine lv_istore_n (lv' := [(2, .int 1), (0, .ref (q 4)), (1, .int w)]) hx hb dX2_start_30 rfl hl (by decide) rfl (fun ls hl => ?_)
      refine lv_aload_n hx hb dX2_start_31 rfl (lv_at hl 1 rfl) ?_
      refine va_get (D := D) (ci := 2) (v := .ref (q 7)) (C := RX2) (T := TX2) (N := 9) hx hb hts inX2 hown hK hP 4 rfl rfl 3 (by decide) (hts (.fieldLink RX2 18 "PumpOaths$Pumps" "mode" "[I") (List.mem_of_getElem? (i := 3) rfl)) (fun _ h9 => h9) rfl dX2_start_32 ?_
      refine lv_iload_n hx hb dX2_start_35 rfl (lv_at hl 2 rfl) ?_
      refine lv_iconst (v := 1) hx hb dX2_start_36 (by decide) ?_
      refine va_iast (f := S.2.2.1 4) hx hb hK hP hD hS 7 0 rfl rfl (hin) dX2_start_37 (fun H locs hP hD hS => ?_)
      have hP : va_P D vwCl (stW q cI cJ (setA S 4 (upd (S.2.2.1 4) w.toNatClampNeg 1))) H := hP
      have hD : va_D A9 (stW q cI cJ (setA S 4 (upd (S.2.2.1 4) w.toNatClampNeg 1))) := hD
      refine lv_aload_n hx hb dX2_start_38 rfl (lv_at hl 1 rfl) ?_
      refine va_get (D := D) (ci := 2) (v := .ref (q 9)) (C := RX2) (T := TX2) (N := 9) hx hb hts inX2 hown hK hP 4 rfl rfl 5 (by decide) (hts (.fieldLink RX2 24 "PumpOaths$Pumps" "hourStarts" "[I") (List.mem_of_getElem? (i := 1) rfl)) (fun _ h9 => h9) rfl dX2_start_39 ?_
      refine lv_iload_n hx hb dX2_start_42 rfl (lv_at hl 2 rfl) ?_
      refine lv_dup2_11 hx hb dX2_start_43 rfl rfl ?_
      refine va_iald (f := S.2.2.1 6) hx hb hK hP 9 0 rfl rfl (hin) dX2_start_44 ?_
      refine lv_iconst (v := 1) hx hb dX2_start_45 (by decide) ?_
      refine lv_iadd hx hb dX2_start_46 ?_
      refine va_iast (f := S.2.2.1 6) hx hb hK hP hD hS 9 0 rfl rfl (hin) dX2_start_47 (fun H locs hP hD hS => ?_)
      have hP : va_P D vwCl (stW q cI cJ (setA (setA S 4 (upd (S.2.2.1 4) w.toNatClampNeg 1)) 6 (upd (S.2.2.1 6) w.toNatClampNeg (((S.2.2.1 6) w.toNatClampNeg) + 1)))) H := hP
      have hD : va_D A9 (stW q cI cJ (setA (setA S 4 (upd (S.2.2.1 4) w.toNatClampNeg 1)) 6 (upd (S.2.2.1 6) w.toNatClampNeg (((S.2.2.1 6) w.toNatClampNeg) + 1)))) := hD
      refine lv_aload_n hx hb dX2_start_48 rfl (lv_at hl 1 rfl) ?_
      refine va_get (D := D) (ci := 2) (v := .ref (q 10)) (C := RX2) (T := TX2) (N := 9) hx hb hts inX2 hown hK hP 4 rfl rfl 6 (by decide) (hts (.fieldLink RX2 27 "PumpOaths$Pumps" "starts" "[I") (List.mem_of_getElem? (i := 4) rfl)) (fun _ h9 => h9) rfl dX2_start_49 ?_
      refine lv_iload_n hx hb dX2_start_52 rfl (lv_at hl 2 rfl) ?_
      refine lv_dup2_11 hx hb dX2_start_53 rfl rfl ?_
      refine va_iald (f := S.2.2.1 7) hx hb hK hP 10 0 rfl rfl (hin) dX2_start_54 ?_
      refine lv_iconst (v := 1) hx hb dX2_start_55 (by decide) ?_
      refine lv_iadd hx hb dX2_start_56 ?_
      refine va_iast (f := S.2.2.1 7) hx hb hK hP hD hS 10 0 rfl rfl (hin) dX2_start_57 (fun H locs hP hD hS => ?_)
      have hP : va_P D vwCl (stW q cI cJ (setA (setA (setA S 4 (upd (S.2.2.1 4) w.toNatClampNeg 1)) 6 (upd (S.2.2.1 6) w.toNatClampNeg (((S.2.2.1 6) w.toNatClampNeg) + 1))) 7 (upd (S.2.2.1 7) w.toNatClampNeg (((S.2.2.1 7) w.toNatClampNeg) + 1)))) H := hP
      have hD : va_D A9 (stW q cI cJ (setA (setA (setA S 4 (upd (S.2.2.1 4) w.toNatClampNeg 1)) 6 (upd (S.2.2.1 6) w.toNatClampNeg (((S.2.2.1 6) w.toNatClampNeg) + 1))) 7 (upd (S.2.2.1 7) w.toNatClampNeg (((S.2.2.1 7) w.toNatClampNeg) + 1)))) := hD
      refine lv_iload_n hx hb dX2_start_58 rfl (lv_at hl 0 rfl) ?_
      refine lv_if_eq (tgt := 72) hx hb dX2_start_59 (by decide) (fun h => absurd h (by decide)) (fun _ => ?_)
      refine lv_aload_n hx hb dX2_start_62 rfl (lv_at hl 1 rfl) ?_
      refine va_get (D := D) (ci := 2) (v := .ref (q 12)) (C := RX2) (T := TX2) (N := 9) hx hb hts inX2 hown hK hP 4 rfl rfl 8 (by decide) (hts (.fieldLink RX2 33 "PumpOaths$Pumps" "broken" "[I") (List.mem_of_getElem? (i := 5) rfl)) (fun _ h9 => h9) rfl dX2_start_63 ?_
      refine lv_iload_n hx hb dX2_start_66 rfl (lv_at hl 2 rfl) ?_
      refine lv_dup2_11 hx hb dX2_start_67 rfl rfl ?_
      refine va_iald (f := S.2.2.1 9) hx hb hK hP 12 0 rfl rfl (hin) dX2_start_68 ?_
      refine lv_iconst (v := 1) hx hb dX2_start_69 (by decide) ?_
      refine lv_iadd hx hb dX2_start_70 ?_
      refine va_iast (f := S.2.2.1 9) hx hb hK hP hD hS 12 0 rfl rfl (hin) dX2_start_71 (fun H locs hP hD hS => ?_)
      have hP : va_P D vwCl (stW q cI cJ (setA (setA (setA (setA S 4 (upd (S.2.2.1 4) w.toNatClampNeg 1)) 6 (upd (S.2.2.1 6) w.toNatClampNeg (((S.2.2.1 6) w.toNatClampNeg) + 1))) 7 (upd (S.2.2.1 7) w.toNatClampNeg (((S.2.2.1 7) w.toNatClampNeg) + 1))) 9 (upd (S.2.2.1 9) w.toNatClampNeg (((S.2.2.1 9) w.toNatClampNeg) + 1)))) H := hP
      have hD : va_D A9 (stW q cI cJ (setA (setA (setA (setA S 4 (upd (S.2.2.1 4) w.toNatClampNeg 1)) 6 (upd (S.2.2.1 6) w.toNatClampNeg (((S.2.2.1 6) w.toNatClampNeg) + 1))) 7 (upd (S.2.2.1 7) w.toNatClampNeg (((S.2.2.1 7) w.toNatClampNeg) + 1))) 9 (upd (S.2.2.1 9) w.toNatClampNeg (((S.2.2.1 9) w.toNatClampNeg) + 1)))) := hD
      refine lv_iload_n hx hb dX2_start_72 rfl (lv_at hl 0 rfl) ?_
      exact k_iret hx hb hr hlk hP hS dX2_start_73 rfl (by simp [p_breaks, bi, c_5_0, c_22_1]) (k_P (by simp [p_start, p_start1, c_5_0, c_22_1]))
  · have c_5_0 : (p_has S w) = false := bi_0.mp c_5_0
    refine lv_iconst (v := 0) hx hb dX2_start_8 (by decide) ?_
    exact k_iret hx hb hr hlk hP hS dX2_start_9 rfl (by simp [p_breaks, bi, c_5_0]) (k_P (by simp [p_start, p_start1, c_5_0]))

set_option maxHeartbeats 1000000 in
set_option maxRecDepth 100000 in
theorem c_X2_runMinute (l : Launch) (D : va_G) (q : Nat → Nat) (cI cJ : ClassId) (S : SS) (n : Nat) (hn : S.1 8 = nI n) (hn6 : n ≤ 6) : kI l yX2_runMinute wsX2_runMinute ({ frames := 0, cells := 0, slots := 0, locals := 0 } : Room) D [(cI, .int), (cJ, .long)] [.ref (q 4)] (stW q cI cJ S) ((p_runR S n).2) (stW q cI cJ (setA S 8 (p_runR S n).1)) := by
  refine kBody.met (cc := cX2_runMinute) (maxL := 3) (ret := (some .int)) (by decide) rfl (Nat.le_of_ble_eq_true rfl) ?_
  intro p9 e9 s9 m9 below meth c9 A9 ls hx hb hr hml hts hown hlk hK hP hD hA hl
  have hown : s9.vm.findClass RX2 = some m9.cls := hown
  have inX2 : ∀ w ∈ wsX20, w ∈ wsX2_runMinute := fun w h => List.mem_cons_of_mem _ (List.mem_append_right _ (h))
  have hS : va_S A9 s9.heap s9.heap [] := va_S.rf
  have hl : lv_has ls 3 [(0, .ref (q 4))] := hl
  refine lv_iconst (v := 0) hx hb dX2_runMinute_0 (by decide) ?_
  refine lv_istore_n (lv' := [(1, .int 0), (0, .ref (q 4))]) hx hb dX2_runMinute_1 rfl hl (by decide) rfl (fun ls hl => ?_)
  refine lv_iconst (v := 0) hx hb dX2_runMinute_2 (by decide) ?_
  refine lv_istore_n (lv' := [(2, .int 0), (1, .int 0), (0, .ref (q 4))]) hx hb dX2_runMinute_3 rfl hl (by decide) rfl (fun ls hl => ?_)
  have L_4_0 : ∀ (d : Nat) (k : Nat) (f : Nat → Int32) (x : Int32), n < k + d → k ≤ n → ∀  (e4 : itr (p_runB S) k (S.2.2.1 8, 0) = (f, x)) (H : Heap) (locs : List Loc) (ls : Array Slot), va_P D vwCl (stW q cI cJ (setA S 8 f)) H → va_D A9 (stW q cI cJ (setA S 8 f)) → va_S A9 s9.heap H locs → lv_has ls 3 [(0, .ref (q 4)), (1, .int x), (2, .int (nI k))] → W p9 l e9 ({ frames := 0, cells := 0, slots := 0, locals := 0 } : Room) s9 m9 (List.toArray [.ref (q 4)]) below meth c9 H locs 0 0 (MQ below (va_Qi (fun r (_ : Unit) => r = ((p_runR S n).2)) (fun _ t9 => va_P D vwCl (stW q cI cJ (setA S 8 (p_runR S n).1)) t9.heap) A9) (List.toArray [.ref (q 4)]) s9 0 0 A9) (F0 m9 4 ls []) := by
    intro d
    induction d with
    | zero =>
      intro k f x hf
      intro hkn; exact absurd hf (by omega)
    | succ d ih_4 =>
      intro k f x hf_4 hkn_4 e4 H locs ls hP hD hS hl
      refine lv_iload_n hx hb dX2_runMinute_4 rfl (lv_at hl 2 rfl) ?_
      refine lv_aload_n hx hb dX2_runMinute_5 rfl (lv_at hl 0 rfl) ?_
      refine va_get (D := D) (ci := 2) (v := .int (S.1 8)) (C := RX2) (T := TX2) (N := 9) hx hb hts inX2 hown hK hP 4 rfl rfl 0 (by decide) (hts (.fieldLink RX2 36 "PumpOaths$Pumps" "count" "I") (List.mem_of_getElem? (i := 1) rfl)) (fun _ h9 => h9) rfl dX2_runMinute_6 ?_
      refine lv_icmp_ge (tgt := 47) hx hb dX2_runMinute_9 (by decide) (fun c_9_1 => ?_) (fun c_9_1 => ?_)
      · have c_9_1 : (S.1 8) ≤ (nI k) := c_9_1
        have hke_4 : n = k := (k_exitN c_9_1 hn hkn_4 (by omega)).symm
        subst hke_4
        refine lv_iload_n hx hb dX2_runMinute_47 rfl (lv_at hl 1 rfl) ?_
        exact k_iret hx hb hr hlk hP hS dX2_runMinute_48 rfl (by rw [p_runR, e4]) (k_P (by rw [p_runR, e4]))
      · have c_9_1 : ¬ (S.1 8) ≤ (nI k) := c_9_1
        have hkl_4 : k < n := k_bodyN c_9_1 hn hkn_4 (by omega)
        refine lv_aload_n hx hb dX2_runMinute_12 rfl (lv_at hl 0 rfl) ?_
        refine va_get (D := D) (ci := 2) (v := .ref (q 7)) (C := RX2) (T := TX2) (N := 9) hx hb hts inX2 hown hK hP 4 rfl rfl 3 (by decide) (hts (.fieldLink RX2 18 "PumpOaths$Pumps" "mode" "[I") (List.mem_of_getElem? (i := 2) rfl)) (fun _ h9 => h9) rfl dX2_runMinute_13 ?_
        refine lv_iload_n hx hb dX2_runMinute_16 rfl (lv_at hl 2 rfl) ?_
        refine va_iald (f := S.2.2.1 4) hx hb hK hP 7 0 rfl rfl (k_in (k := k) rfl (by omega) (by decide)) dX2_runMinute_17 ?_
        rw [show (nI k : Int32).toNatClampNeg = k from nI_clamp (by omega)]
        refine lv_iconst (v := 1) hx hb dX2_runMinute_18 (by decide) ?_
        refine lv_icmp_ne (tgt := 41) hx hb dX2_runMinute_19 (by decide) (fun c_19_2 => ?_) (fun c_19_2 => ?_)
        · have c_19_2 : ¬ ((S.2.2.1 4) k) = 1 := c_19_2
          refine lv_iinc (v := (nI k) + 1) (lv' := [(2, .int ((nI k) + 1)), (0, .ref (q 4)), (1, .int x)]) hx hb dX2_runMinute_41 hl (k := 2) rfl rfl (by decide) rfl (fun ls hl => ?_)
          refine lv_goto (tgt := 4) hx hb dX2_runMinute_44 (by decide) ?_
          rw [show ((nI k) + 1) = (nI (k + 1)) from nI_1 _] at hl
          exact ih_4 (k + 1) f x (by omega) (by omega) (by rw [itr_s, e4]; simp [p_runB, c_9_1, c_19_2]) _ _ _ hP hD hS (lv_sub hl [1, 2, 0] rfl)
        · have c_19_2 : ((S.2.2.1 4) k) = 1 := c_19_2
          refine lv_aload_n hx hb dX2_runMinute_22 rfl (lv_at hl 0 rfl) ?_
          refine va_get (D := D) (ci := 2) (v := .ref (q 11)) (C := RX2) (T := TX2) (N := 9) hx hb hts inX2 hown hK hP 4 rfl rfl 7 (by decide) (hts (.fieldLink RX2 30 "PumpOaths$Pumps" "minutes" "[I") (List.mem_of_getElem? (i := 3) rfl)) (fun _ h9 => h9) rfl dX2_runMinute_23 ?_
          refine lv_iload_n hx hb dX2_runMinute_26 rfl (lv_at hl 2 rfl) ?_
          refine lv_dup2_11 hx hb dX2_runMinute_27 rfl rfl ?_
          refine va_iald (f := f) hx hb hK hP 11 0 rfl rfl (k_in (k := k) rfl (by omega) (by decide)) dX2_runMinute_28 ?_
          rw [show (nI k : Int32).toNatClampNeg = k from nI_clamp (by omega)]
          refine lv_iconst (v := 1) hx hb dX2_runMinute_29 (by decide) ?_
          refine lv_iadd hx hb dX2_runMinute_30 ?_
          refine va_iast (f := f) hx hb hK hP hD hS 11 0 rfl rfl (k_in (k := k) rfl (by omega) (by decide)) dX2_runMinute_31 (fun H locs hP hD hS => ?_)
          rw [show (nI k : Int32).toNatClampNeg = k from nI_clamp (by omega)] at hP hD
          have hP : va_P D vwCl (stW q cI cJ (setA S 8 (upd f k ((f k) + 1)))) H := hP
          have hD : va_D A9 (stW q cI cJ (setA S 8 (upd f k ((f k) + 1)))) := hD
          refine lv_iload_n hx hb dX2_runMinute_32 rfl (lv_at hl 1 rfl) ?_
          refine lv_aload_n hx hb dX2_runMinute_33 rfl (lv_at hl 0 rfl) ?_
          refine va_get (D := D) (ci := 2) (v := .ref (q 5)) (C := RX2) (T := TX2) (N := 9) hx hb hts inX2 hown hK hP 4 rfl rfl 1 (by decide) (hts (.fieldLink RX2 11 "PumpOaths$Pumps" "capacity" "[I") (List.mem_of_getElem? (i := 4) rfl)) (fun _ h9 => h9) rfl dX2_runMinute_34 ?_
          refine lv_iload_n hx hb dX2_runMinute_37 rfl (lv_at hl 2 rfl) ?_
          refine va_iald (f := S.2.2.1 2) hx hb hK hP 5 0 rfl rfl (k_in (k := k) rfl (by omega) (by decide)) dX2_runMinute_38 ?_
          rw [show (nI k : Int32).toNatClampNeg = k from nI_clamp (by omega)]
          refine lv_iadd hx hb dX2_runMinute_39 ?_
          refine lv_istore_n (lv' := [(1, .int (x + ((S.2.2.1 2) k))), (0, .ref (q 4)), (2, .int (nI k))]) hx hb dX2_runMinute_40 rfl hl (by decide) rfl (fun ls hl => ?_)
          refine lv_iinc (v := (nI k) + 1) (lv' := [(2, .int ((nI k) + 1)), (1, .int (x + ((S.2.2.1 2) k))), (0, .ref (q 4))]) hx hb dX2_runMinute_41 hl (k := 2) rfl rfl (by decide) rfl (fun ls hl => ?_)
          refine lv_goto (tgt := 4) hx hb dX2_runMinute_44 (by decide) ?_
          rw [show ((nI k) + 1) = (nI (k + 1)) from nI_1 _] at hl
          exact ih_4 (k + 1) (upd f k ((f k) + 1)) (x + ((S.2.2.1 2) k)) (by omega) (by omega) (by rw [itr_s, e4]; simp [p_runB, c_9_1, c_19_2]) _ _ _ hP hD hS (lv_sub hl [2, 1, 0] rfl)
  exact L_4_0 (n + 1) 0 (S.2.2.1 8) 0 (by omega) (by omega) (rfl) _ _ _ hP hD hS (lv_sub hl [2, 1, 0] rfl)

set_option maxHeartbeats 1000000 in
set_option maxRecDepth 100000 in
theorem c_X2_join (l : Launch) (D : va_G) (q : Nat → Nat) (cI cJ : ClassId) (S : SS) (a b : Int32) (n : Nat) (hn : S.1 8 = nI n) (hn6 : n ≤ 6) : kI l yX2_join wsX2_join ({ frames := 0, cells := 0, slots := 0, locals := 0 } : Room) D [(cI, .int), (cJ, .long)] [.ref (q 4), .int a, .int b] (stW q cI cJ S) (p_joinR S) (stW q cI cJ (p_join S a b)) := by
  refine kBody.met (cc := cX2_join) (maxL := 4) (ret := (some .int)) (by decide) rfl (Nat.le_of_ble_eq_true rfl) ?_
  intro p9 e9 s9 m9 below meth c9 A9 ls hx hb hr hml hts hown hlk hK hP hD hA hl
  have hown : s9.vm.findClass RX2 = some m9.cls := hown
  have inX2 : ∀ w ∈ wsX20, w ∈ wsX2_join := fun w h => List.mem_cons_of_mem _ (List.mem_append_right _ (h))
  have hS : va_S A9 s9.heap s9.heap [] := va_S.rf
  have hl : lv_has ls 4 [(0, .ref (q 4)), (1, .int a), (2, .int b)] := hl
  refine lv_aload_n hx hb dX2_join_0 rfl (lv_at hl 0 rfl) ?_
  refine va_get (D := D) (ci := 2) (v := .int (S.1 8)) (C := RX2) (T := TX2) (N := 9) hx hb hts inX2 hown hK hP 4 rfl rfl 0 (by decide) (hts (.fieldLink RX2 36 "PumpOaths$Pumps" "count" "I") (List.mem_of_getElem? (i := 1) rfl)) (fun _ h9 => h9) rfl dX2_join_1 ?_
  refine lv_istore_n (lv' := [(3, .int (S.1 8)), (0, .ref (q 4)), (1, .int a), (2, .int b)]) hx hb dX2_join_4 rfl hl (by decide) rfl (fun ls hl => ?_)
  refine lv_iload_n hx hb dX2_join_5 rfl (lv_at hl 0 rfl) ?_
  refine lv_bipush (v := 6) hx hb dX2_join_6 (by decide) ?_
  refine lv_icmp_lt (tgt := 13) hx hb dX2_join_8 (by decide) (fun c_8_0 => ?_) (fun c_8_0 => ?_)
  · have c_8_0 : (S.1 8) < 6 := c_8_0
    have hin : vp_in (S.1 8) 6 := by
      rw [hn] at c_8_0 ⊢
      exact vp_in_nI ((nI_ltI (by omega) (by decide)).mp (show nI n < nI 6 from c_8_0)) (by decide)
    refine lv_aload_n hx hb dX2_join_13 rfl (lv_at hl 1 rfl) ?_
    refine va_get (D := D) (ci := 2) (v := .ref (q 5)) (C := RX2) (T := TX2) (N := 9) hx hb hts inX2 hown hK hP 4 rfl rfl 1 (by decide) (hts (.fieldLink RX2 11 "PumpOaths$Pumps" "capacity" "[I") (List.mem_of_getElem? (i := 2) rfl)) (fun _ h9 => h9) rfl dX2_join_14 ?_
    refine lv_iload_n hx hb dX2_join_17 rfl (lv_at hl 0 rfl) ?_
    refine lv_iload_n hx hb dX2_join_18 rfl (lv_at hl 2 rfl) ?_
    refine va_iast (f := S.2.2.1 2) hx hb hK hP hD hS 5 0 rfl rfl (hin) dX2_join_19 (fun H locs hP hD hS => ?_)
    have hP : va_P D vwCl (stW q cI cJ (setA S 2 (upd (S.2.2.1 2) ((S.1 8).toNatClampNeg) a))) H := hP
    have hD : va_D A9 (stW q cI cJ (setA S 2 (upd (S.2.2.1 2) ((S.1 8).toNatClampNeg) a))) := hD
    refine lv_aload_n hx hb dX2_join_20 rfl (lv_at hl 1 rfl) ?_
    refine va_get (D := D) (ci := 2) (v := .ref (q 6)) (C := RX2) (T := TX2) (N := 9) hx hb hts inX2 hown hK hP 4 rfl rfl 2 (by decide) (hts (.fieldLink RX2 15 "PumpOaths$Pumps" "oath" "[I") (List.mem_of_getElem? (i := 3) rfl)) (fun _ h9 => h9) rfl dX2_join_21 ?_
    refine lv_iload_n hx hb dX2_join_24 rfl (lv_at hl 0 rfl) ?_
    refine lv_iload_n hx hb dX2_join_25 rfl (lv_at hl 3 rfl) ?_
    refine va_iast (f := S.2.2.1 3) hx hb hK hP hD hS 6 0 rfl rfl (hin) dX2_join_26 (fun H locs hP hD hS => ?_)
    have hP : va_P D vwCl (stW q cI cJ (setA (setA S 2 (upd (S.2.2.1 2) ((S.1 8).toNatClampNeg) a)) 3 (upd (S.2.2.1 3) ((S.1 8).toNatClampNeg) b))) H := hP
    have hD : va_D A9 (stW q cI cJ (setA (setA S 2 (upd (S.2.2.1 2) ((S.1 8).toNatClampNeg) a)) 3 (upd (S.2.2.1 3) ((S.1 8).toNatClampNeg) b))) := hD
    refine lv_aload_n hx hb dX2_join_27 rfl (lv_at hl 1 rfl) ?_
    refine va_get (D := D) (ci := 2) (v := .ref (q 8)) (C := RX2) (T := TX2) (N := 9) hx hb hts inX2 hown hK hP 4 rfl rfl 4 (by decide) (hts (.fieldLink RX2 21 "PumpOaths$Pumps" "place" "[I") (List.mem_of_getElem? (i := 4) rfl)) (fun _ h9 => h9) rfl dX2_join_28 ?_
    refine lv_iload_n hx hb dX2_join_31 rfl (lv_at hl 0 rfl) ?_
    refine lv_iload_n hx hb dX2_join_32 rfl (lv_at hl 0 rfl) ?_
    refine va_iast (f := S.2.2.1 5) hx hb hK hP hD hS 8 0 rfl rfl (hin) dX2_join_33 (fun H locs hP hD hS => ?_)
    have hP : va_P D vwCl (stW q cI cJ (setA (setA (setA S 2 (upd (S.2.2.1 2) ((S.1 8).toNatClampNeg) a)) 3 (upd (S.2.2.1 3) ((S.1 8).toNatClampNeg) b)) 5 (upd (S.2.2.1 5) ((S.1 8).toNatClampNeg) (S.1 8)))) H := hP
    have hD : va_D A9 (stW q cI cJ (setA (setA (setA S 2 (upd (S.2.2.1 2) ((S.1 8).toNatClampNeg) a)) 3 (upd (S.2.2.1 3) ((S.1 8).toNatClampNeg) b)) 5 (upd (S.2.2.1 5) ((S.1 8).toNatClampNeg) (S.1 8)))) := hD
    refine lv_aload_n hx hb dX2_join_34 rfl (lv_at hl 1 rfl) ?_
    refine lv_dup hx hb dX2_join_35 rfl ?_
    refine va_get (D := D) (ci := 2) (v := .int (S.1 8)) (C := RX2) (T := TX2) (N := 9) hx hb hts inX2 hown hK hP 4 rfl rfl 0 (by decide) (hts (.fieldLink RX2 36 "PumpOaths$Pumps" "count" "I") (List.mem_of_getElem? (i := 1) rfl)) (fun _ h9 => h9) rfl dX2_join_36 ?_
    refine lv_iconst (v := 1) hx hb dX2_join_39 (by decide) ?_
    refine lv_iadd hx hb dX2_join_40 ?_
    refine va_put (D := D) (ci := 2) (v := .int ((S.1 8) + 1)) (ty := .int) (C := RX2) (T := TX2) (N := 9) hx hb hts inX2 tyX2 tyX2_ok nmX2 hown hK hP hD hS 4 rfl rfl 0 (by decide) (hts (.fieldLink RX2 36 "PumpOaths$Pumps" "count" "I") (List.mem_of_getElem? (i := 1) rfl)) (fun _ h9 => h9) rfl (by decide +kernel) rfl rfl (Nat.le_of_ble_eq_true rfl) dX2_join_41 (fun H locs hP hD hS => ?_)
    have hP : va_P D vwCl (stW q cI cJ (setI (setA (setA (setA S 2 (upd (S.2.2.1 2) ((S.1 8).toNatClampNeg) a)) 3 (upd (S.2.2.1 3) ((S.1 8).toNatClampNeg) b)) 5 (upd (S.2.2.1 5) ((S.1 8).toNatClampNeg) (S.1 8))) 8 ((S.1 8) + 1))) H := hP
    have hD : va_D A9 (stW q cI cJ (setI (setA (setA (setA S 2 (upd (S.2.2.1 2) ((S.1 8).toNatClampNeg) a)) 3 (upd (S.2.2.1 3) ((S.1 8).toNatClampNeg) b)) 5 (upd (S.2.2.1 5) ((S.1 8).toNatClampNeg) (S.1 8))) 8 ((S.1 8) + 1))) := hD
    refine lv_iload_n hx hb dX2_join_44 rfl (lv_at hl 0 rfl) ?_
    exact k_iret hx hb hr hlk hP hS dX2_join_45 rfl (by simp [p_joinR, c_8_0]) (k_P (by simp [p_join, c_8_0]))
  · have c_8_0 : ¬ (S.1 8) < 6 := c_8_0
    refine lv_iconst (v := (-1)) hx hb dX2_join_11 (by decide) ?_
    exact k_iret hx hb hr hlk hP hS dX2_join_12 rfl (by simp [p_joinR, c_8_0]) (k_P (by simp [p_join, c_8_0]))
