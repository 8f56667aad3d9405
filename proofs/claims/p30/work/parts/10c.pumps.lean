set_option maxHeartbeats 1000000 in
set_option maxRecDepth 100000 in
theorem c_X2_stopAll (l : Launch) (D : va_G) (q : Nat → Nat) (cI cJ : ClassId) (S : SS) (n : Nat) (hn : S.1 8 = nI n) (hn6 : n ≤ 6) : kV l yX2_stopAll wsX2_stopAll ({ frames := 1, cells := 0, slots := 0, locals := 21 } : Room) D [(cI, .int), (cJ, .long)] [.ref (q 4)] (stW q cI cJ S) (stW q cI cJ (p_stop S n)) := by
  refine kBody.met (cc := cX2_stopAll) (maxL := 3) (ret := none) (by decide) rfl (Nat.le_of_ble_eq_true rfl) ?_
  intro p9 e9 s9 m9 below meth c9 A9 ls hx hb hr hml hts hown hlk hK hP hD hA hl
  have hown : s9.vm.findClass RX2 = some m9.cls := hown
  have inX2 : ∀ w ∈ wsX20, w ∈ wsX2_stopAll := fun w h => List.mem_cons_of_mem _ (List.mem_append_right _ (h))
  have hS : va_S A9 s9.heap s9.heap [] := va_S.rf
  have hl : lv_has ls 3 [(0, .ref (q 4))] := hl
  refine lv_iconst (v := 0) hx hb dX2_stopAll_0 (by decide) ?_
  refine lv_istore_n (lv' := [(1, .int 0), (0, .ref (q 4))]) hx hb dX2_stopAll_1 rfl hl (by decide) rfl (fun ls hl => ?_)
  refine lv_iconst (v := 0) hx hb dX2_stopAll_2 (by decide) ?_
  refine lv_istore_n (lv' := [(2, .int 0), (1, .int 0), (0, .ref (q 4))]) hx hb dX2_stopAll_3 rfl hl (by decide) rfl (fun ls hl => ?_)
  have L_4_0 : ∀ (d : Nat) (k : Nat) (f : Nat → Int32) (x : Int32), n < k + d → k ≤ n → ∀  (e4 : itr p_stopB k (S.2.2.1 4, 0) = (f, x)) (H : Heap) (locs : List Loc) (ls : Array Slot), va_P D vwCl (stW q cI cJ (setA S 4 f)) H → va_D A9 (stW q cI cJ (setA S 4 f)) → va_S A9 s9.heap H locs → lv_has ls 3 [(0, .ref (q 4)), (1, .int x), (2, .int (nI k))] → W p9 l e9 ({ frames := 1, cells := 0, slots := 0, locals := 21 } : Room) s9 m9 (List.toArray [.ref (q 4)]) below meth c9 H locs 0 0 (MQ below (va_Qv (fun (_ : Unit) => True) (fun _ t9 => va_P D vwCl (stW q cI cJ (p_stop S n)) t9.heap) A9) (List.toArray [.ref (q 4)]) s9 0 0 A9) (F0 m9 4 ls []) := by
    intro d
    induction d with
    | zero =>
      intro k f x hf
      intro hkn; exact absurd hf (by omega)
    | succ d ih_4 =>
      intro k f x hf_4 hkn_4 e4 H locs ls hP hD hS hl
      refine lv_iload_n hx hb dX2_stopAll_4 rfl (lv_at hl 2 rfl) ?_
      refine lv_aload_n hx hb dX2_stopAll_5 rfl (lv_at hl 0 rfl) ?_
      refine va_get (D := D) (ci := 2) (v := .int (S.1 8)) (C := RX2) (T := TX2) (N := 9) hx hb hts inX2 hown hK hP 4 rfl rfl 0 (by decide) (hts (.fieldLink RX2 36 "PumpOaths$Pumps" "count" "I") (List.mem_of_getElem? (i := 1) rfl)) (fun _ h9 => h9) rfl dX2_stopAll_6 ?_
      refine lv_icmp_ge (tgt := 37) hx hb dX2_stopAll_9 (by decide) (fun c_9_1 => ?_) (fun c_9_1 => ?_)
      · have c_9_1 : (S.1 8) ≤ (nI k) := c_9_1
        have hke_4 : n = k := (k_exitN c_9_1 hn hkn_4 (by omega)).symm
        subst hke_4
        refine lv_iload_n hx hb dX2_stopAll_37 rfl (lv_at hl 1 rfl) ?_
        refine lv_if_eq (tgt := 45) hx hb dX2_stopAll_38 (by decide) (fun c_38_2 => ?_) (fun c_38_2 => ?_)
        · have c_38_2 : x = 0 := c_38_2
          exact k_vret hx hb hr hlk hP hS dX2_stopAll_45 (k_P (by simp [p_stop, p_stopR, e4, c_9_1, c_38_2]))
        · have c_38_2 : ¬ x = 0 := c_38_2
          refine lv_aload_n hx hb dX2_stopAll_41 rfl (lv_at hl 0 rfl) ?_
          refine k_callv (a := []) (z := []) (wc := stW q cI cJ (setA S 4 f)) (wc' := stW q cI cJ (p_passOn (setA S 4 f) n)) (w' := stW q cI cJ (p_passOn (setA S 4 f) n)) (va_runV (As := []) (rest := []) ⟨hx, hb, hml, hown, hts⟩ (c_X2_passLeadOn l D q cI cJ (setA S 4 f) n hn hn6 _) (cwV 0 hts gX2_stopAll_X2_passLeadOn rfl rfl rfl (by decide +kernel) ⟨Nat.le_of_ble_eq_true rfl, Nat.le_of_ble_eq_true rfl⟩) ⟨kB_blind, va_recv hK hP (ci := 2) (q0 := 4) rfl rfl, k_pre (a := []) (z := []) (k_w0 _) hK hP hD⟩ rfl rfl hl.1 rfl (lv_room (Nat.le_of_ble_eq_true rfl)) dX2_stopAll_42 ⟨Nat.zero_le _, Nat.zero_le _⟩) (k_w0 _) (k_w0 _) (stW_ad _ _ _ _ _) hP hD hS hA (fun H locs hP hD hS => ?_)
          exact k_vret hx hb hr hlk hP hS dX2_stopAll_45 (k_P (by simp [p_stop, p_stopR, e4, c_9_1, c_38_2]))
      · have c_9_1 : ¬ (S.1 8) ≤ (nI k) := c_9_1
        have hkl_4 : k < n := k_bodyN c_9_1 hn hkn_4 (by omega)
        refine lv_aload_n hx hb dX2_stopAll_12 rfl (lv_at hl 0 rfl) ?_
        refine va_get (D := D) (ci := 2) (v := .ref (q 7)) (C := RX2) (T := TX2) (N := 9) hx hb hts inX2 hown hK hP 4 rfl rfl 3 (by decide) (hts (.fieldLink RX2 18 "PumpOaths$Pumps" "mode" "[I") (List.mem_of_getElem? (i := 2) rfl)) (fun _ h9 => h9) rfl dX2_stopAll_13 ?_
        refine lv_iload_n hx hb dX2_stopAll_16 rfl (lv_at hl 2 rfl) ?_
        refine va_iald (f := f) hx hb hK hP 7 0 rfl rfl (k_in (k := k) rfl (by omega) (by decide)) dX2_stopAll_17 ?_
        rw [show (nI k : Int32).toNatClampNeg = k from nI_clamp (by omega)]
        refine lv_iconst (v := 1) hx hb dX2_stopAll_18 (by decide) ?_
        refine lv_icmp_ne (tgt := 31) hx hb dX2_stopAll_19 (by decide) (fun c_19_3 => ?_) (fun c_19_3 => ?_)
        · have c_19_3 : ¬ (f k) = 1 := c_19_3
          refine lv_iinc (v := (nI k) + 1) (lv' := [(2, .int ((nI k) + 1)), (0, .ref (q 4)), (1, .int x)]) hx hb dX2_stopAll_31 hl (k := 2) rfl rfl (by decide) rfl (fun ls hl => ?_)
          refine lv_goto (tgt := 4) hx hb dX2_stopAll_34 (by decide) ?_
          rw [show ((nI k) + 1) = (nI (k + 1)) from nI_1 _] at hl
          exact ih_4 (k + 1) f x (by omega) (by omega) (by rw [itr_s, e4]; simp [p_stopB, c_9_1, c_19_3]) _ _ _ hP hD hS (lv_sub hl [1, 2, 0] rfl)
        · have c_19_3 : (f k) = 1 := c_19_3
          refine lv_aload_n hx hb dX2_stopAll_22 rfl (lv_at hl 0 rfl) ?_
          refine va_get (D := D) (ci := 2) (v := .ref (q 7)) (C := RX2) (T := TX2) (N := 9) hx hb hts inX2 hown hK hP 4 rfl rfl 3 (by decide) (hts (.fieldLink RX2 18 "PumpOaths$Pumps" "mode" "[I") (List.mem_of_getElem? (i := 2) rfl)) (fun _ h9 => h9) rfl dX2_stopAll_23 ?_
          refine lv_iload_n hx hb dX2_stopAll_26 rfl (lv_at hl 2 rfl) ?_
          refine lv_iconst (v := 0) hx hb dX2_stopAll_27 (by decide) ?_
          refine va_iast (f := f) hx hb hK hP hD hS 7 0 rfl rfl (k_in (k := k) rfl (by omega) (by decide)) dX2_stopAll_28 (fun H locs hP hD hS => ?_)
          rw [show (nI k : Int32).toNatClampNeg = k from nI_clamp (by omega)] at hP hD
          have hP : va_P D vwCl (stW q cI cJ (setA S 4 (upd f k 0))) H := hP
          have hD : va_D A9 (stW q cI cJ (setA S 4 (upd f k 0))) := hD
          refine lv_iconst (v := 1) hx hb dX2_stopAll_29 (by decide) ?_
          refine lv_istore_n (lv' := [(1, .int 1), (0, .ref (q 4)), (2, .int (nI k))]) hx hb dX2_stopAll_30 rfl hl (by decide) rfl (fun ls hl => ?_)
          refine lv_iinc (v := (nI k) + 1) (lv' := [(2, .int ((nI k) + 1)), (1, .int 1), (0, .ref (q 4))]) hx hb dX2_stopAll_31 hl (k := 2) rfl rfl (by decide) rfl (fun ls hl => ?_)
          refine lv_goto (tgt := 4) hx hb dX2_stopAll_34 (by decide) ?_
          rw [show ((nI k) + 1) = (nI (k + 1)) from nI_1 _] at hl
          exact ih_4 (k + 1) (upd f k 0) 1 (by omega) (by omega) (by rw [itr_s, e4]; simp [p_stopB, c_9_1, c_19_3]) _ _ _ hP hD hS (lv_sub hl [2, 1, 0] rfl)
  exact L_4_0 (n + 1) 0 (S.2.2.1 4) 0 (by omega) (by omega) (rfl) _ _ _ hP hD hS (lv_sub hl [2, 1, 0] rfl)

set_option maxHeartbeats 1000000 in
set_option maxRecDepth 100000 in
theorem c_X2_firstOff (l : Launch) (D : va_G) (q : Nat → Nat) (cI cJ : ClassId) (S : SS) (w : Int32) (n : Nat) (hn : S.1 8 = nI n) (hn6 : n ≤ 6) : kI l yX2_firstOff wsX2_firstOff ({ frames := 0, cells := 0, slots := 0, locals := 0 } : Room) D [(cI, .int), (cJ, .long)] [.ref (q 4), .int w] (stW q cI cJ S) (p_first S n w) (stW q cI cJ S) := by
  refine kBody.met (cc := cX2_firstOff) (maxL := 6) (ret := (some .int)) (by decide) rfl (Nat.le_of_ble_eq_true rfl) ?_
  intro p9 e9 s9 m9 below meth c9 A9 ls hx hb hr hml hts hown hlk hK hP hD hA hl
  have hown : s9.vm.findClass RX2 = some m9.cls := hown
  have inX2 : ∀ w ∈ wsX20, w ∈ wsX2_firstOff := fun w h => List.mem_cons_of_mem _ (List.mem_append_right _ (h))
  have hS : va_S A9 s9.heap s9.heap [] := va_S.rf
  have hl : lv_has ls 6 [(0, .ref (q 4)), (1, .int w)] := hl
  refine lv_iconst (v := (-1)) hx hb dX2_firstOff_0 (by decide) ?_
  refine lv_istore_n (lv' := [(2, .int (-1)), (0, .ref (q 4)), (1, .int w)]) hx hb dX2_firstOff_1 rfl hl (by decide) rfl (fun ls hl => ?_)
  refine lv_bipush (v := 6) hx hb dX2_firstOff_2 (by decide) ?_
  refine lv_istore_n (lv' := [(3, .int 6), (2, .int (-1)), (0, .ref (q 4)), (1, .int w)]) hx hb dX2_firstOff_4 rfl hl (by decide) rfl (fun ls hl => ?_)
  refine lv_iconst (v := 0) hx hb dX2_firstOff_5 (by decide) ?_
  refine lv_istore (lv' := [(4, .int 0), (3, .int 6), (2, .int (-1)), (0, .ref (q 4)), (1, .int w)]) hx hb dX2_firstOff_6 hl (by decide) rfl (fun ls hl => ?_)
  have L_8_0 : ∀ (d : Nat) (k : Nat) (x : Int32) (y : Int32), n < k + d → k ≤ n → ∀  (e8 : itr (p_firstB S w) k (-1, 6) = (x, y)) (H : Heap) (locs : List Loc) (ls : Array Slot), va_P D vwCl (stW q cI cJ S) H → va_D A9 (stW q cI cJ S) → va_S A9 s9.heap H locs → lv_has ls 6 [(0, .ref (q 4)), (1, .int w), (2, .int x), (3, .int y), (4, .int (nI k))] → W p9 l e9 ({ frames := 0, cells := 0, slots := 0, locals := 0 } : Room) s9 m9 (List.toArray [.ref (q 4), .int w]) below meth c9 H locs 0 0 (MQ below (va_Qi (fun r (_ : Unit) => r = (p_first S n w)) (fun _ t9 => va_P D vwCl (stW q cI cJ S) t9.heap) A9) (List.toArray [.ref (q 4), .int w]) s9 0 0 A9) (F0 m9 8 ls []) := by
    intro d
    induction d with
    | zero =>
      intro k x y hf
      intro hkn; exact absurd hf (by omega)
    | succ d ih_8 =>
      intro k x y hf_8 hkn_8 e8 H locs ls hP hD hS hl
      refine lv_iload hx hb dX2_firstOff_8 (lv_at hl 4 rfl) ?_
      refine lv_aload_n hx hb dX2_firstOff_10 rfl (lv_at hl 0 rfl) ?_
      refine va_get (D := D) (ci := 2) (v := .int (S.1 8)) (C := RX2) (T := TX2) (N := 9) hx hb hts inX2 hown hK hP 4 rfl rfl 0 (by decide) (hts (.fieldLink RX2 36 "PumpOaths$Pumps" "count" "I") (List.mem_of_getElem? (i := 1) rfl)) (fun _ h9 => h9) rfl dX2_firstOff_11 ?_
      refine lv_icmp_ge (tgt := 88) hx hb dX2_firstOff_14 (by decide) (fun c_14_1 => ?_) (fun c_14_1 => ?_)
      · have c_14_1 : (S.1 8) ≤ (nI k) := c_14_1
        have hke_8 : n = k := (k_exitN c_14_1 hn hkn_8 (by omega)).symm
        subst hke_8
        refine lv_iload_n hx hb dX2_firstOff_88 rfl (lv_at hl 2 rfl) ?_
        exact k_iret hx hb hr hlk hP hS dX2_firstOff_89 rfl (by rw [p_first, e8]) (fun h => h)
      · have c_14_1 : ¬ (S.1 8) ≤ (nI k) := c_14_1
        have hkl_8 : k < n := k_bodyN c_14_1 hn hkn_8 (by omega)
        refine lv_iload_n hx hb dX2_firstOff_17 rfl (lv_at hl 1 rfl) ?_
        refine lv_if_eq (tgt := 38) hx hb dX2_firstOff_18 (by decide) (fun c_18_2 => ?_) (fun c_18_2 => ?_)
        · have c_18_2 : w = 0 := c_18_2
          refine lv_iconst (v := 1) hx hb dX2_firstOff_38 (by decide) ?_
          refine lv_goto (tgt := 43) hx hb dX2_firstOff_39 (by decide) ?_
          refine lv_istore (lv' := [(5, .int 1), (0, .ref (q 4)), (1, .int w), (2, .int x), (3, .int y), (4, .int (nI k))]) hx hb dX2_firstOff_43 hl (by decide) rfl (fun ls hl => ?_)
          refine lv_aload_n hx hb dX2_firstOff_45 rfl (lv_at hl 1 rfl) ?_
          refine va_get (D := D) (ci := 2) (v := .ref (q 7)) (C := RX2) (T := TX2) (N := 9) hx hb hts inX2 hown hK hP 4 rfl rfl 3 (by decide) (hts (.fieldLink RX2 18 "PumpOaths$Pumps" "mode" "[I") (List.mem_of_getElem? (i := 4) rfl)) (fun _ h9 => h9) rfl dX2_firstOff_46 ?_
          refine lv_iload hx hb dX2_firstOff_49 (lv_at hl 5 rfl) ?_
          refine va_iald (f := S.2.2.1 4) hx hb hK hP 7 0 rfl rfl (k_in (k := k) rfl (by omega) (by decide)) dX2_firstOff_51 ?_
          rw [show (nI k : Int32).toNatClampNeg = k from nI_clamp (by omega)]
          refine lv_if_ne (tgt := 82) hx hb dX2_firstOff_52 (by decide) (fun c_52_3 => ?_) (fun c_52_3 => ?_)
          · have c_52_3 : ¬ ((S.2.2.1 4) k) = 0 := c_52_3
            refine lv_iinc (v := (nI k) + 1) (lv' := [(4, .int ((nI k) + 1)), (5, .int 1), (0, .ref (q 4)), (1, .int w), (2, .int x), (3, .int y)]) hx hb dX2_firstOff_82 hl (k := 5) rfl rfl (by decide) rfl (fun ls hl => ?_)
            refine lv_goto (tgt := 8) hx hb dX2_firstOff_85 (by decide) ?_
            rw [show ((nI k) + 1) = (nI (k + 1)) from nI_1 _] at hl
            exact ih_8 (k + 1) x y (by omega) (by omega) (by rw [itr_s, e8]; simp [p_firstB, c_14_1, c_18_2, c_52_3]) _ _ _ hP hD hS (lv_sub hl [2, 3, 4, 5, 0] rfl)
          · have c_52_3 : ((S.2.2.1 4) k) = 0 := c_52_3
            refine lv_iload hx hb dX2_firstOff_55 (lv_at hl 0 rfl) ?_
            refine lv_if_eq (tgt := 82) hx hb dX2_firstOff_57 (by decide) (fun h => absurd h (by decide)) (fun _ => ?_)
            refine lv_aload_n hx hb dX2_firstOff_60 rfl (lv_at hl 1 rfl) ?_
            refine va_get (D := D) (ci := 2) (v := .ref (q 8)) (C := RX2) (T := TX2) (N := 9) hx hb hts inX2 hown hK hP 4 rfl rfl 4 (by decide) (hts (.fieldLink RX2 21 "PumpOaths$Pumps" "place" "[I") (List.mem_of_getElem? (i := 5) rfl)) (fun _ h9 => h9) rfl dX2_firstOff_61 ?_
            refine lv_iload hx hb dX2_firstOff_64 (lv_at hl 5 rfl) ?_
            refine va_iald (f := S.2.2.1 5) hx hb hK hP 8 0 rfl rfl (k_in (k := k) rfl (by omega) (by decide)) dX2_firstOff_66 ?_
            rw [show (nI k : Int32).toNatClampNeg = k from nI_clamp (by omega)]
            refine lv_iload_n hx hb dX2_firstOff_67 rfl (lv_at hl 4 rfl) ?_
            refine lv_icmp_ge (tgt := 82) hx hb dX2_firstOff_68 (by decide) (fun c_68_5 => ?_) (fun c_68_5 => ?_)
            · have c_68_5 : y ≤ ((S.2.2.1 5) k) := c_68_5
              refine lv_iinc (v := (nI k) + 1) (lv' := [(4, .int ((nI k) + 1)), (5, .int 1), (0, .ref (q 4)), (1, .int w), (2, .int x), (3, .int y)]) hx hb dX2_firstOff_82 hl (k := 5) rfl rfl (by decide) rfl (fun ls hl => ?_)
              refine lv_goto (tgt := 8) hx hb dX2_firstOff_85 (by decide) ?_
              rw [show ((nI k) + 1) = (nI (k + 1)) from nI_1 _] at hl
              exact ih_8 (k + 1) x y (by omega) (by omega) (by rw [itr_s, e8]; simp [p_firstB, c_14_1, c_18_2, c_52_3, c_68_5]) _ _ _ hP hD hS (lv_sub hl [2, 3, 4, 5, 0] rfl)
            · have c_68_5 : ¬ y ≤ ((S.2.2.1 5) k) := c_68_5
              refine lv_iload hx hb dX2_firstOff_71 (lv_at hl 5 rfl) ?_
              refine lv_istore_n (lv' := [(2, .int (nI k)), (5, .int 1), (0, .ref (q 4)), (1, .int w), (3, .int y), (4, .int (nI k))]) hx hb dX2_firstOff_73 rfl hl (by decide) rfl (fun ls hl => ?_)
              refine lv_aload_n hx hb dX2_firstOff_74 rfl (lv_at hl 2 rfl) ?_
              refine va_get (D := D) (ci := 2) (v := .ref (q 8)) (C := RX2) (T := TX2) (N := 9) hx hb hts inX2 hown hK hP 4 rfl rfl 4 (by decide) (hts (.fieldLink RX2 21 "PumpOaths$Pumps" "place" "[I") (List.mem_of_getElem? (i := 5) rfl)) (fun _ h9 => h9) rfl dX2_firstOff_75 ?_
              refine lv_iload hx hb dX2_firstOff_78 (lv_at hl 5 rfl) ?_
              refine va_iald (f := S.2.2.1 5) hx hb hK hP 8 0 rfl rfl (k_in (k := k) rfl (by omega) (by decide)) dX2_firstOff_80 ?_
              rw [show (nI k : Int32).toNatClampNeg = k from nI_clamp (by omega)]
              refine lv_istore_n (lv' := [(3, .int ((S.2.2.1 5) k)), (2, .int (nI k)), (5, .int 1), (0, .ref (q 4)), (1, .int w), (4, .int (nI k))]) hx hb dX2_firstOff_81 rfl hl (by decide) rfl (fun ls hl => ?_)
              refine lv_iinc (v := (nI k) + 1) (lv' := [(4, .int ((nI k) + 1)), (3, .int ((S.2.2.1 5) k)), (2, .int (nI k)), (5, .int 1), (0, .ref (q 4)), (1, .int w)]) hx hb dX2_firstOff_82 hl (k := 5) rfl rfl (by decide) rfl (fun ls hl => ?_)
              refine lv_goto (tgt := 8) hx hb dX2_firstOff_85 (by decide) ?_
              rw [show ((nI k) + 1) = (nI (k + 1)) from nI_1 _] at hl
              exact ih_8 (k + 1) (nI k) ((S.2.2.1 5) k) (by omega) (by omega) (by rw [itr_s, e8]; simp [p_firstB, c_14_1, c_18_2, c_52_3, c_68_5]) _ _ _ hP hD hS (lv_sub hl [4, 5, 2, 1, 0] rfl)
        · have c_18_2 : ¬ w = 0 := c_18_2
          refine lv_aload_n hx hb dX2_firstOff_21 rfl (lv_at hl 0 rfl) ?_
          refine va_get (D := D) (ci := 2) (v := .ref (q 9)) (C := RX2) (T := TX2) (N := 9) hx hb hts inX2 hown hK hP 4 rfl rfl 5 (by decide) (hts (.fieldLink RX2 24 "PumpOaths$Pumps" "hourStarts" "[I") (List.mem_of_getElem? (i := 2) rfl)) (fun _ h9 => h9) rfl dX2_firstOff_22 ?_
          refine lv_iload hx hb dX2_firstOff_25 (lv_at hl 4 rfl) ?_
          refine va_iald (f := S.2.2.1 6) hx hb hK hP 9 0 rfl rfl (k_in (k := k) rfl (by omega) (by decide)) dX2_firstOff_27 ?_
          rw [show (nI k : Int32).toNatClampNeg = k from nI_clamp (by omega)]
          refine lv_aload_n hx hb dX2_firstOff_28 rfl (lv_at hl 0 rfl) ?_
          refine va_get (D := D) (ci := 2) (v := .ref (q 6)) (C := RX2) (T := TX2) (N := 9) hx hb hts inX2 hown hK hP 4 rfl rfl 2 (by decide) (hts (.fieldLink RX2 15 "PumpOaths$Pumps" "oath" "[I") (List.mem_of_getElem? (i := 3) rfl)) (fun _ h9 => h9) rfl dX2_firstOff_29 ?_
          refine lv_iload hx hb dX2_firstOff_32 (lv_at hl 4 rfl) ?_
          refine va_iald (f := S.2.2.1 3) hx hb hK hP 6 0 rfl rfl (k_in (k := k) rfl (by omega) (by decide)) dX2_firstOff_34 ?_
          rw [show (nI k : Int32).toNatClampNeg = k from nI_clamp (by omega)]
          refine lv_icmp_ge (tgt := 42) hx hb dX2_firstOff_35 (by decide) (fun c_35_6 => ?_) (fun c_35_6 => ?_)
          · have c_35_6 : ((S.2.2.1 3) k) ≤ ((S.2.2.1 6) k) := c_35_6
            refine lv_iconst (v := 0) hx hb dX2_firstOff_42 (by decide) ?_
            refine lv_istore (lv' := [(5, .int 0), (0, .ref (q 4)), (1, .int w), (2, .int x), (3, .int y), (4, .int (nI k))]) hx hb dX2_firstOff_43 hl (by decide) rfl (fun ls hl => ?_)
            refine lv_aload_n hx hb dX2_firstOff_45 rfl (lv_at hl 1 rfl) ?_
            refine va_get (D := D) (ci := 2) (v := .ref (q 7)) (C := RX2) (T := TX2) (N := 9) hx hb hts inX2 hown hK hP 4 rfl rfl 3 (by decide) (hts (.fieldLink RX2 18 "PumpOaths$Pumps" "mode" "[I") (List.mem_of_getElem? (i := 4) rfl)) (fun _ h9 => h9) rfl dX2_firstOff_46 ?_
            refine lv_iload hx hb dX2_firstOff_49 (lv_at hl 5 rfl) ?_
            refine va_iald (f := S.2.2.1 4) hx hb hK hP 7 0 rfl rfl (k_in (k := k) rfl (by omega) (by decide)) dX2_firstOff_51 ?_
            rw [show (nI k : Int32).toNatClampNeg = k from nI_clamp (by omega)]
            refine lv_if_ne (tgt := 82) hx hb dX2_firstOff_52 (by decide) (fun c_52_7 => ?_) (fun c_52_7 => ?_)
            · have c_52_7 : ¬ ((S.2.2.1 4) k) = 0 := c_52_7
              refine lv_iinc (v := (nI k) + 1) (lv' := [(4, .int ((nI k) + 1)), (5, .int 0), (0, .ref (q 4)), (1, .int w), (2, .int x), (3, .int y)]) hx hb dX2_firstOff_82 hl (k := 5) rfl rfl (by decide) rfl (fun ls hl => ?_)
              refine lv_goto (tgt := 8) hx hb dX2_firstOff_85 (by decide) ?_
              rw [show ((nI k) + 1) = (nI (k + 1)) from nI_1 _] at hl
              exact ih_8 (k + 1) x y (by omega) (by omega) (by rw [itr_s, e8]; simp [p_firstB, c_14_1, c_18_2, c_35_6, c_52_7]) _ _ _ hP hD hS (lv_sub hl [2, 3, 4, 5, 0] rfl)
            · have c_52_7 : ((S.2.2.1 4) k) = 0 := c_52_7
              refine lv_iload hx hb dX2_firstOff_55 (lv_at hl 0 rfl) ?_
              refine lv_if_eq (tgt := 82) hx hb dX2_firstOff_57 (by decide) (fun _ => ?_) (fun h => absurd h (by decide))
              refine lv_iinc (v := (nI k) + 1) (lv' := [(4, .int ((nI k) + 1)), (5, .int 0), (0, .ref (q 4)), (1, .int w), (2, .int x), (3, .int y)]) hx hb dX2_firstOff_82 hl (k := 5) rfl rfl (by decide) rfl (fun ls hl => ?_)
              refine lv_goto (tgt := 8) hx hb dX2_firstOff_85 (by decide) ?_
              rw [show ((nI k) + 1) = (nI (k + 1)) from nI_1 _] at hl
              exact ih_8 (k + 1) x y (by omega) (by omega) (by rw [itr_s, e8]; simp [p_firstB, c_14_1, c_18_2, c_35_6, c_52_7]) _ _ _ hP hD hS (lv_sub hl [2, 3, 4, 5, 0] rfl)
          · have c_35_6 : ¬ ((S.2.2.1 3) k) ≤ ((S.2.2.1 6) k) := c_35_6
            refine lv_iconst (v := 1) hx hb dX2_firstOff_38 (by decide) ?_
            refine lv_goto (tgt := 43) hx hb dX2_firstOff_39 (by decide) ?_
            refine lv_istore (lv' := [(5, .int 1), (0, .ref (q 4)), (1, .int w), (2, .int x), (3, .int y), (4, .int (nI k))]) hx hb dX2_firstOff_43 hl (by decide) rfl (fun ls hl => ?_)
            refine lv_aload_n hx hb dX2_firstOff_45 rfl (lv_at hl 1 rfl) ?_
            refine va_get (D := D) (ci := 2) (v := .ref (q 7)) (C := RX2) (T := TX2) (N := 9) hx hb hts inX2 hown hK hP 4 rfl rfl 3 (by decide) (hts (.fieldLink RX2 18 "PumpOaths$Pumps" "mode" "[I") (List.mem_of_getElem? (i := 4) rfl)) (fun _ h9 => h9) rfl dX2_firstOff_46 ?_
            refine lv_iload hx hb dX2_firstOff_49 (lv_at hl 5 rfl) ?_
            refine va_iald (f := S.2.2.1 4) hx hb hK hP 7 0 rfl rfl (k_in (k := k) rfl (by omega) (by decide)) dX2_firstOff_51 ?_
            rw [show (nI k : Int32).toNatClampNeg = k from nI_clamp (by omega)]
            refine lv_if_ne (tgt := 82) hx hb dX2_firstOff_52 (by decide) (fun c_52_9 => ?_) (fun c_52_9 => ?_)
            · have c_52_9 : ¬ ((S.2.2.1 4) k) = 0 := c_52_9
              refine lv_iinc (v := (nI k) + 1) (lv' := [(4, .int ((nI k) + 1)), (5, .int 1), (0, .ref (q 4)), (1, .int w), (2, .int x), (3, .int y)]) hx hb dX2_firstOff_82 hl (k := 5) rfl rfl (by decide) rfl (fun ls hl => ?_)
              refine lv_goto (tgt := 8) hx hb dX2_firstOff_85 (by decide) ?_
              rw [show ((nI k) + 1) = (nI (k + 1)) from nI_1 _] at hl
              exact ih_8 (k + 1) x y (by omega) (by omega) (by rw [itr_s, e8]; simp [p_firstB, c_14_1, c_18_2, c_35_6, c_52_9]) _ _ _ hP hD hS (lv_sub hl [2, 3, 4, 5, 0] rfl)
            · have c_52_9 : ((S.2.2.1 4) k) = 0 := c_52_9
              refine lv_iload hx hb dX2_firstOff_55 (lv_at hl 0 rfl) ?_
              refine lv_if_eq (tgt := 82) hx hb dX2_firstOff_57 (by decide) (fun h => absurd h (by decide)) (fun _ => ?_)
              refine lv_aload_n hx hb dX2_firstOff_60 rfl (lv_at hl 1 rfl) ?_
              refine va_get (D := D) (ci := 2) (v := .ref (q 8)) (C := RX2) (T := TX2) (N := 9) hx hb hts inX2 hown hK hP 4 rfl rfl 4 (by decide) (hts (.fieldLink RX2 21 "PumpOaths$Pumps" "place" "[I") (List.mem_of_getElem? (i := 5) rfl)) (fun _ h9 => h9) rfl dX2_firstOff_61 ?_
              refine lv_iload hx hb dX2_firstOff_64 (lv_at hl 5 rfl) ?_
              refine va_iald (f := S.2.2.1 5) hx hb hK hP 8 0 rfl rfl (k_in (k := k) rfl (by omega) (by decide)) dX2_firstOff_66 ?_
              rw [show (nI k : Int32).toNatClampNeg = k from nI_clamp (by omega)]
              refine lv_iload_n hx hb dX2_firstOff_67 rfl (lv_at hl 4 rfl) ?_
              refine lv_icmp_ge (tgt := 82) hx hb dX2_firstOff_68 (by decide) (fun c_68_11 => ?_) (fun c_68_11 => ?_)
              · have c_68_11 : y ≤ ((S.2.2.1 5) k) := c_68_11
                refine lv_iinc (v := (nI k) + 1) (lv' := [(4, .int ((nI k) + 1)), (5, .int 1), (0, .ref (q 4)), (1, .int w), (2, .int x), (3, .int y)]) hx hb dX2_firstOff_82 hl (k := 5) rfl rfl (by decide) rfl (fun ls hl => ?_)
                refine lv_goto (tgt := 8) hx hb dX2_firstOff_85 (by decide) ?_
                rw [show ((nI k) + 1) = (nI (k + 1)) from nI_1 _] at hl
                exact ih_8 (k + 1) x y (by omega) (by omega) (by rw [itr_s, e8]; simp [p_firstB, c_14_1, c_18_2, c_35_6, c_52_9, c_68_11]) _ _ _ hP hD hS (lv_sub hl [2, 3, 4, 5, 0] rfl)
              · have c_68_11 : ¬ y ≤ ((S.2.2.1 5) k) := c_68_11
                refine lv_iload hx hb dX2_firstOff_71 (lv_at hl 5 rfl) ?_
                refine lv_istore_n (lv' := [(2, .int (nI k)), (5, .int 1), (0, .ref (q 4)), (1, .int w), (3, .int y), (4, .int (nI k))]) hx hb dX2_firstOff_73 rfl hl (by decide) rfl (fun ls hl => ?_)
                refine lv_aload_n hx hb dX2_firstOff_74 rfl (lv_at hl 2 rfl) ?_
                refine va_get (D := D) (ci := 2) (v := .ref (q 8)) (C := RX2) (T := TX2) (N := 9) hx hb hts inX2 hown hK hP 4 rfl rfl 4 (by decide) (hts (.fieldLink RX2 21 "PumpOaths$Pumps" "place" "[I") (List.mem_of_getElem? (i := 5) rfl)) (fun _ h9 => h9) rfl dX2_firstOff_75 ?_
                refine lv_iload hx hb dX2_firstOff_78 (lv_at hl 5 rfl) ?_
                refine va_iald (f := S.2.2.1 5) hx hb hK hP 8 0 rfl rfl (k_in (k := k) rfl (by omega) (by decide)) dX2_firstOff_80 ?_
                rw [show (nI k : Int32).toNatClampNeg = k from nI_clamp (by omega)]
                refine lv_istore_n (lv' := [(3, .int ((S.2.2.1 5) k)), (2, .int (nI k)), (5, .int 1), (0, .ref (q 4)), (1, .int w), (4, .int (nI k))]) hx hb dX2_firstOff_81 rfl hl (by decide) rfl (fun ls hl => ?_)
                refine lv_iinc (v := (nI k) + 1) (lv' := [(4, .int ((nI k) + 1)), (3, .int ((S.2.2.1 5) k)), (2, .int (nI k)), (5, .int 1), (0, .ref (q 4)), (1, .int w)]) hx hb dX2_firstOff_82 hl (k := 5) rfl rfl (by decide) rfl (fun ls hl => ?_)
                refine lv_goto (tgt := 8) hx hb dX2_firstOff_85 (by decide) ?_
                rw [show ((nI k) + 1) = (nI (k + 1)) from nI_1 _] at hl
                exact ih_8 (k + 1) (nI k) ((S.2.2.1 5) k) (by omega) (by omega) (by rw [itr_s, e8]; simp [p_firstB, c_14_1, c_18_2, c_35_6, c_52_9, c_68_11]) _ _ _ hP hD hS (lv_sub hl [4, 5, 2, 1, 0] rfl)
  exact L_8_0 (n + 1) 0 (-1) 6 (by omega) (by omega) (rfl) _ _ _ hP hD hS (lv_sub hl [3, 4, 2, 1, 0] rfl)

set_option maxHeartbeats 1000000 in
set_option maxRecDepth 100000 in
theorem c_X2_nextToStart (l : Launch) (D : va_G) (q : Nat → Nat) (cI cJ : ClassId) (S : SS) (w : Int32) (n : Nat) (hn : S.1 8 = nI n) (hn6 : n ≤ 6) : kI l yX2_nextToStart wsX2_nextToStart ({ frames := 1, cells := 0, slots := 0, locals := 25 } : Room) D [(cI, .int), (cJ, .long)] [.ref (q 4), .int w] (stW q cI cJ S) (p_next S n w) (stW q cI cJ S) := by
  refine kBody.met (cc := cX2_nextToStart) (maxL := 3) (ret := (some .int)) (by decide) rfl (Nat.le_of_ble_eq_true rfl) ?_
  intro p9 e9 s9 m9 below meth c9 A9 ls hx hb hr hml hts hown hlk hK hP hD hA hl
  have hown : s9.vm.findClass RX2 = some m9.cls := hown
  have inX2 : ∀ w ∈ wsX20, w ∈ wsX2_nextToStart := fun w h => List.mem_cons_of_mem _ (List.mem_append_right _ (h))
  have hS : va_S A9 s9.heap s9.heap [] := va_S.rf
  have hl : lv_has ls 3 [(0, .ref (q 4)), (1, .int w)] := hl
  refine lv_aload_n hx hb dX2_nextToStart_0 rfl (lv_at hl 0 rfl) ?_
  refine lv_iconst (v := 1) hx hb dX2_nextToStart_1 (by decide) ?_
  refine k_calli (a := []) (z := []) (wc := stW q cI cJ S) (wc' := stW q cI cJ S) (w' := stW q cI cJ S) (va_runV (As := [.int 1]) (rest := []) ⟨hx, hb, hml, hown, hts⟩ (c_X2_firstOff l D q cI cJ S 1 n hn hn6 _) (cwV 1 hts gX2_nextToStart_X2_firstOff rfl rfl rfl (by decide +kernel) ⟨Nat.le_of_ble_eq_true rfl, Nat.le_of_ble_eq_true rfl⟩) ⟨kB_blind, va_recv hK hP (ci := 2) (q0 := 4) rfl rfl, k_pre (a := []) (z := []) (k_w0 _) hK hP hD⟩ rfl rfl hl.1 rfl (lv_room (Nat.le_of_ble_eq_true rfl)) dX2_nextToStart_2 ⟨Nat.zero_le _, Nat.zero_le _⟩) (k_w0 _) (k_w0 _) (stW_ad _ _ _ _ _) hP hD hS hA (fun H locs hP hD hS => ?_)
  refine lv_istore_n (lv' := [(2, .int (p_first S n 1)), (0, .ref (q 4)), (1, .int w)]) hx hb dX2_nextToStart_5 rfl hl (by decide) rfl (fun ls hl => ?_)
  refine lv_iload_n hx hb dX2_nextToStart_6 rfl (lv_at hl 0 rfl) ?_
  refine lv_iconst (v := (-1)) hx hb dX2_nextToStart_7 (by decide) ?_
  refine lv_icmp_ne (tgt := 23) hx hb dX2_nextToStart_8 (by decide) (fun c_8_0 => ?_) (fun c_8_0 => ?_)
  · have c_8_0 : ¬ (p_first S n 1) = (-1) := c_8_0
    refine lv_iload_n hx hb dX2_nextToStart_23 rfl (lv_at hl 0 rfl) ?_
    exact k_iret hx hb hr hlk hP hS dX2_nextToStart_24 rfl (by first | rfl | (simp only [p_next, c_8_0]; done) | (simp [p_next, c_8_0]; done)) (fun h => h)
  · have c_8_0 : (p_first S n 1) = (-1) := c_8_0
    refine lv_iload_n hx hb dX2_nextToStart_11 rfl (lv_at hl 2 rfl) ?_
    refine lv_if_eq (tgt := 23) hx hb dX2_nextToStart_12 (by decide) (fun c_12_1 => ?_) (fun c_12_1 => ?_)
    · have c_12_1 : w = 0 := c_12_1
      refine lv_iload_n hx hb dX2_nextToStart_23 rfl (lv_at hl 0 rfl) ?_
      exact k_iret hx hb hr hlk hP hS dX2_nextToStart_24 rfl (by first | rfl | (simp only [p_next, c_8_0, c_12_1]; done) | (simp [p_next, c_8_0, c_12_1]; done)) (fun h => h)
    · have c_12_1 : ¬ w = 0 := c_12_1
      refine lv_aload_n hx hb dX2_nextToStart_15 rfl (lv_at hl 1 rfl) ?_
      refine lv_iconst (v := 0) hx hb dX2_nextToStart_16 (by decide) ?_
      refine k_calli (a := []) (z := []) (wc := stW q cI cJ S) (wc' := stW q cI cJ S) (w' := stW q cI cJ S) (va_runV (As := [.int 0]) (rest := []) ⟨hx, hb, hml, hown, hts⟩ (c_X2_firstOff l D q cI cJ S 0 n hn hn6 _) (cwV 1 hts gX2_nextToStart_X2_firstOff rfl rfl rfl (by decide +kernel) ⟨Nat.le_of_ble_eq_true rfl, Nat.le_of_ble_eq_true rfl⟩) ⟨kB_blind, va_recv hK hP (ci := 2) (q0 := 4) rfl rfl, k_pre (a := []) (z := []) (k_w0 _) hK hP hD⟩ rfl rfl hl.1 rfl (lv_room (Nat.le_of_ble_eq_true rfl)) dX2_nextToStart_17 ⟨Nat.zero_le _, Nat.zero_le _⟩) (k_w0 _) (k_w0 _) (stW_ad _ _ _ _ _) hP hD hS hA (fun H locs hP hD hS => ?_)
      refine lv_goto (tgt := 24) hx hb dX2_nextToStart_20 (by decide) ?_
      exact k_iret hx hb hr hlk hP hS dX2_nextToStart_24 rfl (by first | rfl | (simp only [p_next, c_8_0, c_12_1]; done) | (simp [p_next, c_8_0, c_12_1]; done)) (fun h => h)
