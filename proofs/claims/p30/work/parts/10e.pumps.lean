set_option maxHeartbeats 1000000 in
set_option maxRecDepth 100000 in
theorem c_X2_fact (l : Launch) (D : va_G) (q : Nat → Nat) (cI cJ : ClassId) (S : SS) (a b : Int32) (n : Nat) (hn : S.1 8 = nI n) (hn6 : n ≤ 6) : kI l yX2_fact wsX2_fact ({ frames := 1, cells := 0, slots := 0, locals := 21 } : Room) D [(cI, .int), (cJ, .long)] [.ref (q 4), .int a, .int b] (stW q cI cJ S) (p_fact S a b) (stW q cI cJ S) := by
  refine kBody.met (cc := cX2_fact) (maxL := 3) (ret := (some .int)) (by decide) rfl (Nat.le_of_ble_eq_true rfl) ?_
  intro p9 e9 s9 m9 below meth c9 A9 ls hx hb hr hml hts hown hlk hK hP hD hA hl
  have hown : s9.vm.findClass RX2 = some m9.cls := hown
  have inX2 : ∀ w ∈ wsX20, w ∈ wsX2_fact := fun w h => List.mem_cons_of_mem _ (List.mem_append_right _ (h))
  have hS : va_S A9 s9.heap s9.heap [] := va_S.rf
  have hl : lv_has ls 3 [(0, .ref (q 4)), (1, .int a), (2, .int b)] := hl
  refine lv_aload_n hx hb dX2_fact_0 rfl (lv_at hl 0 rfl) ?_
  refine lv_iload_n hx hb dX2_fact_1 rfl (lv_at hl 1 rfl) ?_
  refine k_calli (a := []) (z := []) (wc := stW q cI cJ S) (wc' := stW q cI cJ S) (w' := stW q cI cJ S) (va_runV (As := [.int a]) (rest := []) ⟨hx, hb, hml, hown, hts⟩ (c_X2_has l D q cI cJ S a _) (cwV 1 hts gX2_fact_X2_has rfl rfl rfl (by decide +kernel) ⟨Nat.le_of_ble_eq_true rfl, Nat.le_of_ble_eq_true rfl⟩) ⟨kB_blind, va_recv hK hP (ci := 2) (q0 := 4) rfl rfl, k_pre (a := []) (z := []) (k_w0 _) hK hP hD⟩ rfl rfl hl.1 rfl (lv_room (Nat.le_of_ble_eq_true rfl)) dX2_fact_2 ⟨Nat.zero_le _, Nat.zero_le _⟩) (k_w0 _) (k_w0 _) (stW_ad _ _ _ _ _) hP hD hS hA (fun H locs hP hD hS => ?_)
  refine lv_if_ne (tgt := 10) hx hb dX2_fact_5 (by decide) (fun c_5_0 => ?_) (fun c_5_0 => ?_)
  · have c_5_0 : (p_has S a) = true := bi_n.mp c_5_0
    have hin := p_hasIn c_5_0 hn hn6
    refine lv_iload_n hx hb dX2_fact_10 rfl (lv_at hl 2 rfl) ?_
    by_cases c_11_1 : b = 0
    · refine lv_tableIn (off := 41) (tgt := 52) hx hb dX2_fact_11 (by rw [c_11_1]; decide) (by rw [c_11_1]; decide) (by rw [c_11_1]; rfl) (by decide) ?_
      refine lv_aload_n hx hb dX2_fact_52 rfl (lv_at hl 0 rfl) ?_
      refine va_get (D := D) (ci := 2) (v := .ref (q 5)) (C := RX2) (T := TX2) (N := 9) hx hb hts inX2 hown hK hP 4 rfl rfl 1 (by decide) (hts (.fieldLink RX2 11 "PumpOaths$Pumps" "capacity" "[I") (List.mem_of_getElem? (i := 1) rfl)) (fun _ h9 => h9) rfl dX2_fact_53 ?_
      refine lv_iload_n hx hb dX2_fact_56 rfl (lv_at hl 1 rfl) ?_
      refine va_iald (f := S.2.2.1 2) hx hb hK hP 5 0 rfl rfl (hin) dX2_fact_57 ?_
      exact k_iret hx hb hr hlk hP hS dX2_fact_58 rfl (by simp [p_fact, c_5_0, c_11_1]) (fun h => h)
    by_cases c_11_2 : b = 1
    · refine lv_tableIn (off := 48) (tgt := 59) hx hb dX2_fact_11 (by rw [c_11_2]; decide) (by rw [c_11_2]; decide) (by rw [c_11_2]; rfl) (by decide) ?_
      refine lv_aload_n hx hb dX2_fact_59 rfl (lv_at hl 0 rfl) ?_
      refine va_get (D := D) (ci := 2) (v := .ref (q 6)) (C := RX2) (T := TX2) (N := 9) hx hb hts inX2 hown hK hP 4 rfl rfl 2 (by decide) (hts (.fieldLink RX2 15 "PumpOaths$Pumps" "oath" "[I") (List.mem_of_getElem? (i := 2) rfl)) (fun _ h9 => h9) rfl dX2_fact_60 ?_
      refine lv_iload_n hx hb dX2_fact_63 rfl (lv_at hl 1 rfl) ?_
      refine va_iald (f := S.2.2.1 3) hx hb hK hP 6 0 rfl rfl (hin) dX2_fact_64 ?_
      exact k_iret hx hb hr hlk hP hS dX2_fact_65 rfl (by simp [p_fact, c_5_0, c_11_1, c_11_2]) (fun h => h)
    by_cases c_11_3 : b = 2
    · refine lv_tableIn (off := 55) (tgt := 66) hx hb dX2_fact_11 (by rw [c_11_3]; decide) (by rw [c_11_3]; decide) (by rw [c_11_3]; rfl) (by decide) ?_
      refine lv_aload_n hx hb dX2_fact_66 rfl (lv_at hl 0 rfl) ?_
      refine va_get (D := D) (ci := 2) (v := .ref (q 7)) (C := RX2) (T := TX2) (N := 9) hx hb hts inX2 hown hK hP 4 rfl rfl 3 (by decide) (hts (.fieldLink RX2 18 "PumpOaths$Pumps" "mode" "[I") (List.mem_of_getElem? (i := 3) rfl)) (fun _ h9 => h9) rfl dX2_fact_67 ?_
      refine lv_iload_n hx hb dX2_fact_70 rfl (lv_at hl 1 rfl) ?_
      refine va_iald (f := S.2.2.1 4) hx hb hK hP 7 0 rfl rfl (hin) dX2_fact_71 ?_
      exact k_iret hx hb hr hlk hP hS dX2_fact_72 rfl (by simp [p_fact, c_5_0, c_11_1, c_11_2, c_11_3]) (fun h => h)
    by_cases c_11_4 : b = 3
    · refine lv_tableIn (off := 62) (tgt := 73) hx hb dX2_fact_11 (by rw [c_11_4]; decide) (by rw [c_11_4]; decide) (by rw [c_11_4]; rfl) (by decide) ?_
      refine lv_aload_n hx hb dX2_fact_73 rfl (lv_at hl 0 rfl) ?_
      refine va_get (D := D) (ci := 2) (v := .ref (q 8)) (C := RX2) (T := TX2) (N := 9) hx hb hts inX2 hown hK hP 4 rfl rfl 4 (by decide) (hts (.fieldLink RX2 21 "PumpOaths$Pumps" "place" "[I") (List.mem_of_getElem? (i := 4) rfl)) (fun _ h9 => h9) rfl dX2_fact_74 ?_
      refine lv_iload_n hx hb dX2_fact_77 rfl (lv_at hl 1 rfl) ?_
      refine va_iald (f := S.2.2.1 5) hx hb hK hP 8 0 rfl rfl (hin) dX2_fact_78 ?_
      exact k_iret hx hb hr hlk hP hS dX2_fact_79 rfl (by simp [p_fact, c_5_0, c_11_1, c_11_2, c_11_3, c_11_4]) (fun h => h)
    by_cases c_11_5 : b = 4
    · refine lv_tableIn (off := 69) (tgt := 80) hx hb dX2_fact_11 (by rw [c_11_5]; decide) (by rw [c_11_5]; decide) (by rw [c_11_5]; rfl) (by decide) ?_
      refine lv_aload_n hx hb dX2_fact_80 rfl (lv_at hl 0 rfl) ?_
      refine va_get (D := D) (ci := 2) (v := .ref (q 9)) (C := RX2) (T := TX2) (N := 9) hx hb hts inX2 hown hK hP 4 rfl rfl 5 (by decide) (hts (.fieldLink RX2 24 "PumpOaths$Pumps" "hourStarts" "[I") (List.mem_of_getElem? (i := 5) rfl)) (fun _ h9 => h9) rfl dX2_fact_81 ?_
      refine lv_iload_n hx hb dX2_fact_84 rfl (lv_at hl 1 rfl) ?_
      refine va_iald (f := S.2.2.1 6) hx hb hK hP 9 0 rfl rfl (hin) dX2_fact_85 ?_
      exact k_iret hx hb hr hlk hP hS dX2_fact_86 rfl (by simp [p_fact, c_5_0, c_11_1, c_11_2, c_11_3, c_11_4, c_11_5]) (fun h => h)
    by_cases c_11_6 : b = 5
    · refine lv_tableIn (off := 76) (tgt := 87) hx hb dX2_fact_11 (by rw [c_11_6]; decide) (by rw [c_11_6]; decide) (by rw [c_11_6]; rfl) (by decide) ?_
      refine lv_aload_n hx hb dX2_fact_87 rfl (lv_at hl 0 rfl) ?_
      refine va_get (D := D) (ci := 2) (v := .ref (q 10)) (C := RX2) (T := TX2) (N := 9) hx hb hts inX2 hown hK hP 4 rfl rfl 6 (by decide) (hts (.fieldLink RX2 27 "PumpOaths$Pumps" "starts" "[I") (List.mem_of_getElem? (i := 6) rfl)) (fun _ h9 => h9) rfl dX2_fact_88 ?_
      refine lv_iload_n hx hb dX2_fact_91 rfl (lv_at hl 1 rfl) ?_
      refine va_iald (f := S.2.2.1 7) hx hb hK hP 10 0 rfl rfl (hin) dX2_fact_92 ?_
      exact k_iret hx hb hr hlk hP hS dX2_fact_93 rfl (by simp [p_fact, c_5_0, c_11_1, c_11_2, c_11_3, c_11_4, c_11_5, c_11_6]) (fun h => h)
    by_cases c_11_7 : b = 6
    · refine lv_tableIn (off := 83) (tgt := 94) hx hb dX2_fact_11 (by rw [c_11_7]; decide) (by rw [c_11_7]; decide) (by rw [c_11_7]; rfl) (by decide) ?_
      refine lv_aload_n hx hb dX2_fact_94 rfl (lv_at hl 0 rfl) ?_
      refine va_get (D := D) (ci := 2) (v := .ref (q 11)) (C := RX2) (T := TX2) (N := 9) hx hb hts inX2 hown hK hP 4 rfl rfl 7 (by decide) (hts (.fieldLink RX2 30 "PumpOaths$Pumps" "minutes" "[I") (List.mem_of_getElem? (i := 7) rfl)) (fun _ h9 => h9) rfl dX2_fact_95 ?_
      refine lv_iload_n hx hb dX2_fact_98 rfl (lv_at hl 1 rfl) ?_
      refine va_iald (f := S.2.2.1 8) hx hb hK hP 11 0 rfl rfl (hin) dX2_fact_99 ?_
      exact k_iret hx hb hr hlk hP hS dX2_fact_100 rfl (by simp [p_fact, c_5_0, c_11_1, c_11_2, c_11_3, c_11_4, c_11_5, c_11_6, c_11_7]) (fun h => h)
    refine lv_tableOut (tgt := 101) hx hb dX2_fact_11 (k_out7 c_11_1 c_11_2 c_11_3 c_11_4 c_11_5 c_11_6 c_11_7) (by decide) ?_
    refine lv_aload_n hx hb dX2_fact_101 rfl (lv_at hl 0 rfl) ?_
    refine va_get (D := D) (ci := 2) (v := .ref (q 12)) (C := RX2) (T := TX2) (N := 9) hx hb hts inX2 hown hK hP 4 rfl rfl 8 (by decide) (hts (.fieldLink RX2 33 "PumpOaths$Pumps" "broken" "[I") (List.mem_of_getElem? (i := 8) rfl)) (fun _ h9 => h9) rfl dX2_fact_102 ?_
    refine lv_iload_n hx hb dX2_fact_105 rfl (lv_at hl 1 rfl) ?_
    refine va_iald (f := S.2.2.1 9) hx hb hK hP 12 0 rfl rfl (hin) dX2_fact_106 ?_
    exact k_iret hx hb hr hlk hP hS dX2_fact_107 rfl (by simp [p_fact, c_5_0, c_11_1, c_11_2, c_11_3, c_11_4, c_11_5, c_11_6, c_11_7]) (fun h => h)
  · have c_5_0 : (p_has S a) = false := bi_0.mp c_5_0
    refine lv_iconst (v := 0) hx hb dX2_fact_8 (by decide) ?_
    exact k_iret hx hb hr hlk hP hS dX2_fact_9 rfl (by simp [p_fact, c_5_0]) (fun h => h)

set_option maxHeartbeats 1000000 in
set_option maxRecDepth 100000 in
theorem c_X2_digestOnto (l : Launch) (D : va_G) (q : Nat → Nat) (cI cJ : ClassId) (S : SS) (h : Int64) (n : Nat) (hn : S.1 8 = nI n) (hn6 : n ≤ 6) : kL l yX2_digestOnto wsX2_digestOnto ({ frames := 2, cells := 0, slots := 0, locals := 43 } : Room) D [(cI, .int), (cJ, .long)] [.ref (q 4), .long h] (stW q cI cJ S) (p_dig S n h) (stW q cI cJ S) := by
  refine kBody.met (cc := cX2_digestOnto) (maxL := 7) (ret := (some .long)) (by decide) rfl (Nat.le_of_ble_eq_true rfl) ?_
  intro p9 e9 s9 m9 below meth c9 A9 ls hx hb hr hml hts hown hlk hK hP hD hA hl
  have hown : s9.vm.findClass RX2 = some m9.cls := hown
  have inX2 : ∀ w ∈ wsX20, w ∈ wsX2_digestOnto := fun w h => List.mem_cons_of_mem _ (List.mem_append_right _ (h))
  have hS : va_S A9 s9.heap s9.heap [] := va_S.rf
  have hl : lv_has ls 7 [(0, .ref (q 4)), (1, .long h)] := hl
  refine lv_lload_n hx hb dX2_digestOnto_0 rfl (lv_at hl 1 rfl) ?_
  refine lv_lstore_n (lv' := [(3, .long h), (0, .ref (q 4)), (1, .long h)]) hx hb dX2_digestOnto_1 rfl hl (by decide) rfl (fun ls hl => ?_)
  refine lv_iconst (v := 0) hx hb dX2_digestOnto_2 (by decide) ?_
  refine lv_istore (lv' := [(5, .int 0), (3, .long h), (0, .ref (q 4)), (1, .long h)]) hx hb dX2_digestOnto_3 hl (by decide) rfl (fun ls hl => ?_)
  have L_5_0 : ∀ (d : Nat) (k : Nat) (x : Int64), n < k + d → k ≤ n → ∀  (e5 : itr (fun k x => itr (p_digB S k) 8 x) k h = x) (H : Heap) (locs : List Loc) (ls : Array Slot), va_P D vwCl (stW q cI cJ S) H → va_D A9 (stW q cI cJ S) → va_S A9 s9.heap H locs → lv_has ls 7 [(0, .ref (q 4)), (1, .long h), (3, .long x), (5, .int (nI k))] → W p9 l e9 ({ frames := 2, cells := 0, slots := 0, locals := 43 } : Room) s9 m9 (List.toArray [.ref (q 4), .long h]) below meth c9 H locs 0 0 (MQ below (va_Ql (fun r (_ : Unit) => r = (p_dig S n h)) (fun _ t9 => va_P D vwCl (stW q cI cJ S) t9.heap) A9) (List.toArray [.ref (q 4), .long h]) s9 0 0 A9) (F0 m9 5 ls []) := by
    intro d
    induction d with
    | zero =>
      intro k x hf
      intro hkn; exact absurd hf (by omega)
    | succ d ih_5 =>
      intro k x hf_5 hkn_5 e5 H locs ls hP hD hS hl
      refine lv_iload hx hb dX2_digestOnto_5 (lv_at hl 3 rfl) ?_
      refine lv_aload_n hx hb dX2_digestOnto_7 rfl (lv_at hl 0 rfl) ?_
      refine va_get (D := D) (ci := 2) (v := .int (S.1 8)) (C := RX2) (T := TX2) (N := 9) hx hb hts inX2 hown hK hP 4 rfl rfl 0 (by decide) (hts (.fieldLink RX2 36 "PumpOaths$Pumps" "count" "I") (List.mem_of_getElem? (i := 1) rfl)) (fun _ h9 => h9) rfl dX2_digestOnto_8 ?_
      refine lv_icmp_ge (tgt := 52) hx hb dX2_digestOnto_11 (by decide) (fun c_11_1 => ?_) (fun c_11_1 => ?_)
      · have c_11_1 : (S.1 8) ≤ (nI k) := c_11_1
        have hke_5 : n = k := (k_exitN c_11_1 hn hkn_5 (by omega)).symm
        subst hke_5
        refine lv_lload_n hx hb dX2_digestOnto_52 rfl (lv_at hl 2 rfl) ?_
        exact k_lret hx hb hr hlk hP hS dX2_digestOnto_53 (by rw [p_dig, e5]) (fun h => h)
      · have c_11_1 : ¬ (S.1 8) ≤ (nI k) := c_11_1
        have hkl_5 : k < n := k_bodyN c_11_1 hn hkn_5 (by omega)
        refine lv_iconst (v := 0) hx hb dX2_digestOnto_14 (by decide) ?_
        refine lv_istore (lv' := [(6, .int 0), (0, .ref (q 4)), (1, .long h), (3, .long x), (5, .int (nI k))]) hx hb dX2_digestOnto_15 hl (by decide) rfl (fun ls hl => ?_)
        have L_17_2 : ∀ (d : Nat) (j : Nat) (y : Int64), 8 < j + d → j ≤ 8 → ∀  (e17 : itr (p_digB S k) j x = y) (H : Heap) (locs : List Loc) (ls : Array Slot), va_P D vwCl (stW q cI cJ S) H → va_D A9 (stW q cI cJ S) → va_S A9 s9.heap H locs → lv_has ls 7 [(0, .ref (q 4)), (1, .long h), (3, .long y), (5, .int (nI k)), (6, .int (nI j))] → W p9 l e9 ({ frames := 2, cells := 0, slots := 0, locals := 43 } : Room) s9 m9 (List.toArray [.ref (q 4), .long h]) below meth c9 H locs 0 0 (MQ below (va_Ql (fun r (_ : Unit) => r = (p_dig S n h)) (fun _ t9 => va_P D vwCl (stW q cI cJ S) t9.heap) A9) (List.toArray [.ref (q 4), .long h]) s9 0 0 A9) (F0 m9 17 ls []) := by
          intro d
          induction d with
          | zero =>
            intro j y hf
            intro hkn; exact absurd hf (by omega)
          | succ d ih_17 =>
            intro j y hf_17 hkn_17 e17 H locs ls hP hD hS hl
            refine lv_iload hx hb dX2_digestOnto_17 (lv_at hl 4 rfl) ?_
            refine lv_bipush (v := 8) hx hb dX2_digestOnto_19 (by decide) ?_
            refine lv_icmp_ge (tgt := 46) hx hb dX2_digestOnto_21 (by decide) (fun c_21_3 => ?_) (fun c_21_3 => ?_)
            · have c_21_3 : 8 ≤ (nI j) := c_21_3
              have hke_17 : 8 = j := (k_exitN c_21_3 (by decide) hkn_17 (by decide)).symm
              subst hke_17
              refine lv_iinc (v := (nI k) + 1) (lv' := [(5, .int ((nI k) + 1)), (0, .ref (q 4)), (1, .long h), (3, .long y), (6, .int (nI 8))]) hx hb dX2_digestOnto_46 hl (k := 3) rfl rfl (by decide) rfl (fun ls hl => ?_)
              refine lv_goto (tgt := 5) hx hb dX2_digestOnto_49 (by decide) ?_
              rw [show ((nI k) + 1) = (nI (k + 1)) from nI_1 _] at hl
              exact ih_5 (k + 1) y (by omega) (by omega) (by rw [itr_s, e5]; exact e17) _ _ _ hP hD hS (lv_sub hl [1, 2, 3, 0] rfl)
            · have c_21_3 : ¬ 8 ≤ (nI j) := c_21_3
              have hkl_17 : j < 8 := k_bodyN c_21_3 (by decide) hkn_17 (by decide)
              refine lv_ldc2 (v := 31) hx hb hown (hts (.constantLong RX2 57 (31)) (List.mem_of_getElem? (i := 2) rfl)) dX2_digestOnto_24 ?_
              refine lv_lload_n hx hb dX2_digestOnto_27 rfl (lv_at hl 2 rfl) ?_
              refine lv_lmul hx hb dX2_digestOnto_28 ?_
              refine lv_aload_n hx hb dX2_digestOnto_29 rfl (lv_at hl 0 rfl) ?_
              refine lv_iload hx hb dX2_digestOnto_30 (lv_at hl 3 rfl) ?_
              refine lv_iload hx hb dX2_digestOnto_32 (lv_at hl 4 rfl) ?_
              refine k_calli (a := []) (z := []) (wc := stW q cI cJ S) (wc' := stW q cI cJ S) (w' := stW q cI cJ S) (va_runV (As := [.int (nI k), .int (nI j)]) (rest := [.long (31 * y)]) ⟨hx, hb, hml, hown, hts⟩ (c_X2_fact l D q cI cJ S (nI k) (nI j) n hn hn6 _) (cwV 2 hts gX2_digestOnto_X2_fact rfl rfl rfl (by decide +kernel) ⟨Nat.le_of_ble_eq_true rfl, Nat.le_of_ble_eq_true rfl⟩) ⟨kB_blind, va_recv hK hP (ci := 2) (q0 := 4) rfl rfl, k_pre (a := []) (z := []) (k_w0 _) hK hP hD⟩ rfl rfl hl.1 rfl (lv_room (Nat.le_of_ble_eq_true rfl)) dX2_digestOnto_34 ⟨Nat.zero_le _, Nat.zero_le _⟩) (k_w0 _) (k_w0 _) (stW_ad _ _ _ _ _) hP hD hS hA (fun H locs hP hD hS => ?_)
              refine lv_i2l hx hb dX2_digestOnto_37 rfl ?_
              refine lv_ladd hx hb dX2_digestOnto_38 ?_
              refine lv_lstore_n (lv' := [(3, .long ((31 * y) + ((p_fact S (nI k) (nI j)).toInt64))), (0, .ref (q 4)), (1, .long h), (5, .int (nI k)), (6, .int (nI j))]) hx hb dX2_digestOnto_39 rfl hl (by decide) rfl (fun ls hl => ?_)
              refine lv_iinc (v := (nI j) + 1) (lv' := [(6, .int ((nI j) + 1)), (3, .long ((31 * y) + ((p_fact S (nI k) (nI j)).toInt64))), (0, .ref (q 4)), (1, .long h), (5, .int (nI k))]) hx hb dX2_digestOnto_40 hl (k := 4) rfl rfl (by decide) rfl (fun ls hl => ?_)
              refine lv_goto (tgt := 17) hx hb dX2_digestOnto_43 (by decide) ?_
              rw [show ((nI j) + 1) = (nI (j + 1)) from nI_1 _] at hl
              exact ih_17 (j + 1) ((31 * y) + ((p_fact S (nI k) (nI j)).toInt64)) (by omega) (by omega) (by rw [itr_s, e17]; simp [p_digB, c_11_1, c_21_3]) _ _ _ hP hD hS (lv_sub hl [2, 3, 1, 4, 0] rfl)
        exact L_17_2 (8 + 1) 0 x (by omega) (by omega) (rfl) _ _ _ hP hD hS (lv_sub hl [1, 2, 3, 4, 0] rfl)
  exact L_5_0 (n + 1) 0 h (by omega) (by omega) (rfl) _ _ _ hP hD hS (lv_sub hl [2, 3, 1, 0] rfl)

def p_become (S T : SS) : SS := setA (setA (setA (setA (setA (setA (setA (setA (setI S 8 (T.1 8)) 2 (T.2.2.1 2)) 3 (T.2.2.1 3)) 4 (T.2.2.1 4)) 5 (T.2.2.1 5)) 6 (T.2.2.1 6)) 7 (T.2.2.1 7)) 8 (T.2.2.1 8)) 9 (T.2.2.1 9)

set_option maxHeartbeats 1000000 in
set_option maxRecDepth 100000 in
theorem c_X2_become (l : Launch) (D : va_G) (q r : Nat → Nat) (cI cJ : ClassId) (S T : SS)  : kV l yX2_become wsX2_become ({ frames := 1, cells := 0, slots := 0, locals := 40 } : Room) D [(cI, .int), (cJ, .long)] [.ref (q 4), .ref (r 4)] (stW q cI cJ S ++ (stW r cI cJ T)) (stW q cI cJ (p_become S T) ++ (stW r cI cJ T)) := by
  refine kBody.met (cc := cX2_become) (maxL := 2) (ret := none) (by decide) rfl (Nat.le_of_ble_eq_true rfl) ?_
  intro p9 e9 s9 m9 below meth c9 A9 ls hx hb hr hml hts hown hlk hK hP hD hA hl
  have hown : s9.vm.findClass RX2 = some m9.cls := hown
  have inX2 : ∀ w ∈ wsX20, w ∈ wsX2_become := fun w h => List.mem_cons_of_mem _ (List.mem_append_right _ (h))
  have hS : va_S A9 s9.heap s9.heap [] := va_S.rf
  have hl : lv_has ls 2 [(0, .ref (q 4)), (1, .ref (r 4))] := hl
  refine lv_aload_n hx hb dX2_become_0 rfl (lv_at hl 0 rfl) ?_
  refine lv_aload_n hx hb dX2_become_1 rfl (lv_at hl 1 rfl) ?_
  refine va_get (D := D) (ci := 2) (v := .int (T.1 8)) (C := RX2) (T := TX2) (N := 9) hx hb hts inX2 hown hK hP 19 rfl rfl 0 (by decide) (hts (.fieldLink RX2 36 "PumpOaths$Pumps" "count" "I") (List.mem_of_getElem? (i := 1) rfl)) (fun _ h9 => h9) rfl dX2_become_2 ?_
  refine va_put (D := D) (ci := 2) (v := .int (T.1 8)) (ty := .int) (C := RX2) (T := TX2) (N := 9) hx hb hts inX2 tyX2 tyX2_ok nmX2 hown hK hP hD hS 4 rfl rfl 0 (by decide) (hts (.fieldLink RX2 36 "PumpOaths$Pumps" "count" "I") (List.mem_of_getElem? (i := 1) rfl)) (fun _ h9 => h9) rfl (by decide +kernel) rfl rfl (Nat.le_of_ble_eq_true rfl) dX2_become_5 (fun H locs hP hD hS => ?_)
  have hP : va_P D vwCl (stW q cI cJ (setI S 8 (T.1 8)) ++ (stW r cI cJ T)) H := hP
  have hD : va_D A9 (stW q cI cJ (setI S 8 (T.1 8)) ++ (stW r cI cJ T)) := hD
  refine lv_aload_n hx hb dX2_become_8 rfl (lv_at hl 1 rfl) ?_
  refine va_get (D := D) (ci := 2) (v := .ref (r 5)) (C := RX2) (T := TX2) (N := 9) hx hb hts inX2 hown hK hP 19 rfl rfl 1 (by decide) (hts (.fieldLink RX2 11 "PumpOaths$Pumps" "capacity" "[I") (List.mem_of_getElem? (i := 2) rfl)) (fun _ h9 => h9) rfl dX2_become_9 ?_
  refine lv_iconst (v := 0) hx hb dX2_become_12 (by decide) ?_
  refine lv_aload_n hx hb dX2_become_13 rfl (lv_at hl 0 rfl) ?_
  refine va_get (D := D) (ci := 2) (v := .ref (q 5)) (C := RX2) (T := TX2) (N := 9) hx hb hts inX2 hown hK hP 4 rfl rfl 1 (by decide) (hts (.fieldLink RX2 11 "PumpOaths$Pumps" "capacity" "[I") (List.mem_of_getElem? (i := 2) rfl)) (fun _ h9 => h9) rfl dX2_become_14 ?_
  refine lv_iconst (v := 0) hx hb dX2_become_17 (by decide) ?_
  refine lv_bipush (v := 6) hx hb dX2_become_18 (by decide) ?_
  refine k_copyi hx hb (hml.trans hl.1.symm) hown (hts (.methodLink RX2 40 arraycopyName) (List.mem_of_getElem? (i := 3) rfl)) (hts (.native arraycopyName) (List.mem_of_getElem? (i := 4) rfl)) (hts (.static arraycopyName) (List.mem_of_getElem? (i := 5) rfl)) (hts (.initialized "java/lang/System") (List.mem_of_getElem? (i := 6) rfl)) hK hP hD hS 20 5 0 0 rfl rfl rfl rfl (by decide) rfl (by decide) (Nat.le_of_ble_eq_true rfl) dX2_become_20 (fun H locs hP hD hS => ?_)
  have hP : va_P D vwCl (stW q cI cJ (setA (setI S 8 (T.1 8)) 2 (T.2.2.1 2)) ++ (stW r cI cJ T)) H := hP
  have hD : va_D A9 (stW q cI cJ (setA (setI S 8 (T.1 8)) 2 (T.2.2.1 2)) ++ (stW r cI cJ T)) := hD
  refine lv_aload_n hx hb dX2_become_23 rfl (lv_at hl 1 rfl) ?_
  refine va_get (D := D) (ci := 2) (v := .ref (r 6)) (C := RX2) (T := TX2) (N := 9) hx hb hts inX2 hown hK hP 19 rfl rfl 2 (by decide) (hts (.fieldLink RX2 15 "PumpOaths$Pumps" "oath" "[I") (List.mem_of_getElem? (i := 7) rfl)) (fun _ h9 => h9) rfl dX2_become_24 ?_
  refine lv_iconst (v := 0) hx hb dX2_become_27 (by decide) ?_
  refine lv_aload_n hx hb dX2_become_28 rfl (lv_at hl 0 rfl) ?_
  refine va_get (D := D) (ci := 2) (v := .ref (q 6)) (C := RX2) (T := TX2) (N := 9) hx hb hts inX2 hown hK hP 4 rfl rfl 2 (by decide) (hts (.fieldLink RX2 15 "PumpOaths$Pumps" "oath" "[I") (List.mem_of_getElem? (i := 7) rfl)) (fun _ h9 => h9) rfl dX2_become_29 ?_
  refine lv_iconst (v := 0) hx hb dX2_become_32 (by decide) ?_
  refine lv_bipush (v := 6) hx hb dX2_become_33 (by decide) ?_
  refine k_copyi hx hb (hml.trans hl.1.symm) hown (hts (.methodLink RX2 40 arraycopyName) (List.mem_of_getElem? (i := 3) rfl)) (hts (.native arraycopyName) (List.mem_of_getElem? (i := 4) rfl)) (hts (.static arraycopyName) (List.mem_of_getElem? (i := 5) rfl)) (hts (.initialized "java/lang/System") (List.mem_of_getElem? (i := 6) rfl)) hK hP hD hS 21 6 0 0 rfl rfl rfl rfl (by decide) rfl (by decide) (Nat.le_of_ble_eq_true rfl) dX2_become_35 (fun H locs hP hD hS => ?_)
  have hP : va_P D vwCl (stW q cI cJ (setA (setA (setI S 8 (T.1 8)) 2 (T.2.2.1 2)) 3 (T.2.2.1 3)) ++ (stW r cI cJ T)) H := hP
  have hD : va_D A9 (stW q cI cJ (setA (setA (setI S 8 (T.1 8)) 2 (T.2.2.1 2)) 3 (T.2.2.1 3)) ++ (stW r cI cJ T)) := hD
  refine lv_aload_n hx hb dX2_become_38 rfl (lv_at hl 1 rfl) ?_
  refine va_get (D := D) (ci := 2) (v := .ref (r 7)) (C := RX2) (T := TX2) (N := 9) hx hb hts inX2 hown hK hP 19 rfl rfl 3 (by decide) (hts (.fieldLink RX2 18 "PumpOaths$Pumps" "mode" "[I") (List.mem_of_getElem? (i := 8) rfl)) (fun _ h9 => h9) rfl dX2_become_39 ?_
  refine lv_iconst (v := 0) hx hb dX2_become_42 (by decide) ?_
  refine lv_aload_n hx hb dX2_become_43 rfl (lv_at hl 0 rfl) ?_
  refine va_get (D := D) (ci := 2) (v := .ref (q 7)) (C := RX2) (T := TX2) (N := 9) hx hb hts inX2 hown hK hP 4 rfl rfl 3 (by decide) (hts (.fieldLink RX2 18 "PumpOaths$Pumps" "mode" "[I") (List.mem_of_getElem? (i := 8) rfl)) (fun _ h9 => h9) rfl dX2_become_44 ?_
  refine lv_iconst (v := 0) hx hb dX2_become_47 (by decide) ?_
  refine lv_bipush (v := 6) hx hb dX2_become_48 (by decide) ?_
  refine k_copyi hx hb (hml.trans hl.1.symm) hown (hts (.methodLink RX2 40 arraycopyName) (List.mem_of_getElem? (i := 3) rfl)) (hts (.native arraycopyName) (List.mem_of_getElem? (i := 4) rfl)) (hts (.static arraycopyName) (List.mem_of_getElem? (i := 5) rfl)) (hts (.initialized "java/lang/System") (List.mem_of_getElem? (i := 6) rfl)) hK hP hD hS 22 7 0 0 rfl rfl rfl rfl (by decide) rfl (by decide) (Nat.le_of_ble_eq_true rfl) dX2_become_50 (fun H locs hP hD hS => ?_)
  have hP : va_P D vwCl (stW q cI cJ (setA (setA (setA (setI S 8 (T.1 8)) 2 (T.2.2.1 2)) 3 (T.2.2.1 3)) 4 (T.2.2.1 4)) ++ (stW r cI cJ T)) H := hP
  have hD : va_D A9 (stW q cI cJ (setA (setA (setA (setI S 8 (T.1 8)) 2 (T.2.2.1 2)) 3 (T.2.2.1 3)) 4 (T.2.2.1 4)) ++ (stW r cI cJ T)) := hD
  refine lv_aload_n hx hb dX2_become_53 rfl (lv_at hl 1 rfl) ?_
  refine va_get (D := D) (ci := 2) (v := .ref (r 8)) (C := RX2) (T := TX2) (N := 9) hx hb hts inX2 hown hK hP 19 rfl rfl 4 (by decide) (hts (.fieldLink RX2 21 "PumpOaths$Pumps" "place" "[I") (List.mem_of_getElem? (i := 9) rfl)) (fun _ h9 => h9) rfl dX2_become_54 ?_
  refine lv_iconst (v := 0) hx hb dX2_become_57 (by decide) ?_
  refine lv_aload_n hx hb dX2_become_58 rfl (lv_at hl 0 rfl) ?_
  refine va_get (D := D) (ci := 2) (v := .ref (q 8)) (C := RX2) (T := TX2) (N := 9) hx hb hts inX2 hown hK hP 4 rfl rfl 4 (by decide) (hts (.fieldLink RX2 21 "PumpOaths$Pumps" "place" "[I") (List.mem_of_getElem? (i := 9) rfl)) (fun _ h9 => h9) rfl dX2_become_59 ?_
  refine lv_iconst (v := 0) hx hb dX2_become_62 (by decide) ?_
  refine lv_bipush (v := 6) hx hb dX2_become_63 (by decide) ?_
  refine k_copyi hx hb (hml.trans hl.1.symm) hown (hts (.methodLink RX2 40 arraycopyName) (List.mem_of_getElem? (i := 3) rfl)) (hts (.native arraycopyName) (List.mem_of_getElem? (i := 4) rfl)) (hts (.static arraycopyName) (List.mem_of_getElem? (i := 5) rfl)) (hts (.initialized "java/lang/System") (List.mem_of_getElem? (i := 6) rfl)) hK hP hD hS 23 8 0 0 rfl rfl rfl rfl (by decide) rfl (by decide) (Nat.le_of_ble_eq_true rfl) dX2_become_65 (fun H locs hP hD hS => ?_)
  have hP : va_P D vwCl (stW q cI cJ (setA (setA (setA (setA (setI S 8 (T.1 8)) 2 (T.2.2.1 2)) 3 (T.2.2.1 3)) 4 (T.2.2.1 4)) 5 (T.2.2.1 5)) ++ (stW r cI cJ T)) H := hP
  have hD : va_D A9 (stW q cI cJ (setA (setA (setA (setA (setI S 8 (T.1 8)) 2 (T.2.2.1 2)) 3 (T.2.2.1 3)) 4 (T.2.2.1 4)) 5 (T.2.2.1 5)) ++ (stW r cI cJ T)) := hD
  refine lv_aload_n hx hb dX2_become_68 rfl (lv_at hl 1 rfl) ?_
  refine va_get (D := D) (ci := 2) (v := .ref (r 9)) (C := RX2) (T := TX2) (N := 9) hx hb hts inX2 hown hK hP 19 rfl rfl 5 (by decide) (hts (.fieldLink RX2 24 "PumpOaths$Pumps" "hourStarts" "[I") (List.mem_of_getElem? (i := 10) rfl)) (fun _ h9 => h9) rfl dX2_become_69 ?_
  refine lv_iconst (v := 0) hx hb dX2_become_72 (by decide) ?_
  refine lv_aload_n hx hb dX2_become_73 rfl (lv_at hl 0 rfl) ?_
  refine va_get (D := D) (ci := 2) (v := .ref (q 9)) (C := RX2) (T := TX2) (N := 9) hx hb hts inX2 hown hK hP 4 rfl rfl 5 (by decide) (hts (.fieldLink RX2 24 "PumpOaths$Pumps" "hourStarts" "[I") (List.mem_of_getElem? (i := 10) rfl)) (fun _ h9 => h9) rfl dX2_become_74 ?_
  refine lv_iconst (v := 0) hx hb dX2_become_77 (by decide) ?_
  refine lv_bipush (v := 6) hx hb dX2_become_78 (by decide) ?_
  refine k_copyi hx hb (hml.trans hl.1.symm) hown (hts (.methodLink RX2 40 arraycopyName) (List.mem_of_getElem? (i := 3) rfl)) (hts (.native arraycopyName) (List.mem_of_getElem? (i := 4) rfl)) (hts (.static arraycopyName) (List.mem_of_getElem? (i := 5) rfl)) (hts (.initialized "java/lang/System") (List.mem_of_getElem? (i := 6) rfl)) hK hP hD hS 24 9 0 0 rfl rfl rfl rfl (by decide) rfl (by decide) (Nat.le_of_ble_eq_true rfl) dX2_become_80 (fun H locs hP hD hS => ?_)
  have hP : va_P D vwCl (stW q cI cJ (setA (setA (setA (setA (setA (setI S 8 (T.1 8)) 2 (T.2.2.1 2)) 3 (T.2.2.1 3)) 4 (T.2.2.1 4)) 5 (T.2.2.1 5)) 6 (T.2.2.1 6)) ++ (stW r cI cJ T)) H := hP
  have hD : va_D A9 (stW q cI cJ (setA (setA (setA (setA (setA (setI S 8 (T.1 8)) 2 (T.2.2.1 2)) 3 (T.2.2.1 3)) 4 (T.2.2.1 4)) 5 (T.2.2.1 5)) 6 (T.2.2.1 6)) ++ (stW r cI cJ T)) := hD
  refine lv_aload_n hx hb dX2_become_83 rfl (lv_at hl 1 rfl) ?_
  refine va_get (D := D) (ci := 2) (v := .ref (r 10)) (C := RX2) (T := TX2) (N := 9) hx hb hts inX2 hown hK hP 19 rfl rfl 6 (by decide) (hts (.fieldLink RX2 27 "PumpOaths$Pumps" "starts" "[I") (List.mem_of_getElem? (i := 11) rfl)) (fun _ h9 => h9) rfl dX2_become_84 ?_
  refine lv_iconst (v := 0) hx hb dX2_become_87 (by decide) ?_
  refine lv_aload_n hx hb dX2_become_88 rfl (lv_at hl 0 rfl) ?_
  refine va_get (D := D) (ci := 2) (v := .ref (q 10)) (C := RX2) (T := TX2) (N := 9) hx hb hts inX2 hown hK hP 4 rfl rfl 6 (by decide) (hts (.fieldLink RX2 27 "PumpOaths$Pumps" "starts" "[I") (List.mem_of_getElem? (i := 11) rfl)) (fun _ h9 => h9) rfl dX2_become_89 ?_
  refine lv_iconst (v := 0) hx hb dX2_become_92 (by decide) ?_
  refine lv_bipush (v := 6) hx hb dX2_become_93 (by decide) ?_
  refine k_copyi hx hb (hml.trans hl.1.symm) hown (hts (.methodLink RX2 40 arraycopyName) (List.mem_of_getElem? (i := 3) rfl)) (hts (.native arraycopyName) (List.mem_of_getElem? (i := 4) rfl)) (hts (.static arraycopyName) (List.mem_of_getElem? (i := 5) rfl)) (hts (.initialized "java/lang/System") (List.mem_of_getElem? (i := 6) rfl)) hK hP hD hS 25 10 0 0 rfl rfl rfl rfl (by decide) rfl (by decide) (Nat.le_of_ble_eq_true rfl) dX2_become_95 (fun H locs hP hD hS => ?_)
  have hP : va_P D vwCl (stW q cI cJ (setA (setA (setA (setA (setA (setA (setI S 8 (T.1 8)) 2 (T.2.2.1 2)) 3 (T.2.2.1 3)) 4 (T.2.2.1 4)) 5 (T.2.2.1 5)) 6 (T.2.2.1 6)) 7 (T.2.2.1 7)) ++ (stW r cI cJ T)) H := hP
  have hD : va_D A9 (stW q cI cJ (setA (setA (setA (setA (setA (setA (setI S 8 (T.1 8)) 2 (T.2.2.1 2)) 3 (T.2.2.1 3)) 4 (T.2.2.1 4)) 5 (T.2.2.1 5)) 6 (T.2.2.1 6)) 7 (T.2.2.1 7)) ++ (stW r cI cJ T)) := hD
  refine lv_aload_n hx hb dX2_become_98 rfl (lv_at hl 1 rfl) ?_
  refine va_get (D := D) (ci := 2) (v := .ref (r 11)) (C := RX2) (T := TX2) (N := 9) hx hb hts inX2 hown hK hP 19 rfl rfl 7 (by decide) (hts (.fieldLink RX2 30 "PumpOaths$Pumps" "minutes" "[I") (List.mem_of_getElem? (i := 12) rfl)) (fun _ h9 => h9) rfl dX2_become_99 ?_
  refine lv_iconst (v := 0) hx hb dX2_become_102 (by decide) ?_
  refine lv_aload_n hx hb dX2_become_103 rfl (lv_at hl 0 rfl) ?_
  refine va_get (D := D) (ci := 2) (v := .ref (q 11)) (C := RX2) (T := TX2) (N := 9) hx hb hts inX2 hown hK hP 4 rfl rfl 7 (by decide) (hts (.fieldLink RX2 30 "PumpOaths$Pumps" "minutes" "[I") (List.mem_of_getElem? (i := 12) rfl)) (fun _ h9 => h9) rfl dX2_become_104 ?_
  refine lv_iconst (v := 0) hx hb dX2_become_107 (by decide) ?_
  refine lv_bipush (v := 6) hx hb dX2_become_108 (by decide) ?_
  refine k_copyi hx hb (hml.trans hl.1.symm) hown (hts (.methodLink RX2 40 arraycopyName) (List.mem_of_getElem? (i := 3) rfl)) (hts (.native arraycopyName) (List.mem_of_getElem? (i := 4) rfl)) (hts (.static arraycopyName) (List.mem_of_getElem? (i := 5) rfl)) (hts (.initialized "java/lang/System") (List.mem_of_getElem? (i := 6) rfl)) hK hP hD hS 26 11 0 0 rfl rfl rfl rfl (by decide) rfl (by decide) (Nat.le_of_ble_eq_true rfl) dX2_become_110 (fun H locs hP hD hS => ?_)
  have hP : va_P D vwCl (stW q cI cJ (setA (setA (setA (setA (setA (setA (setA (setI S 8 (T.1 8)) 2 (T.2.2.1 2)) 3 (T.2.2.1 3)) 4 (T.2.2.1 4)) 5 (T.2.2.1 5)) 6 (T.2.2.1 6)) 7 (T.2.2.1 7)) 8 (T.2.2.1 8)) ++ (stW r cI cJ T)) H := hP
  have hD : va_D A9 (stW q cI cJ (setA (setA (setA (setA (setA (setA (setA (setI S 8 (T.1 8)) 2 (T.2.2.1 2)) 3 (T.2.2.1 3)) 4 (T.2.2.1 4)) 5 (T.2.2.1 5)) 6 (T.2.2.1 6)) 7 (T.2.2.1 7)) 8 (T.2.2.1 8)) ++ (stW r cI cJ T)) := hD
  refine lv_aload_n hx hb dX2_become_113 rfl (lv_at hl 1 rfl) ?_
  refine va_get (D := D) (ci := 2) (v := .ref (r 12)) (C := RX2) (T := TX2) (N := 9) hx hb hts inX2 hown hK hP 19 rfl rfl 8 (by decide) (hts (.fieldLink RX2 33 "PumpOaths$Pumps" "broken" "[I") (List.mem_of_getElem? (i := 13) rfl)) (fun _ h9 => h9) rfl dX2_become_114 ?_
  refine lv_iconst (v := 0) hx hb dX2_become_117 (by decide) ?_
  refine lv_aload_n hx hb dX2_become_118 rfl (lv_at hl 0 rfl) ?_
  refine va_get (D := D) (ci := 2) (v := .ref (q 12)) (C := RX2) (T := TX2) (N := 9) hx hb hts inX2 hown hK hP 4 rfl rfl 8 (by decide) (hts (.fieldLink RX2 33 "PumpOaths$Pumps" "broken" "[I") (List.mem_of_getElem? (i := 13) rfl)) (fun _ h9 => h9) rfl dX2_become_119 ?_
  refine lv_iconst (v := 0) hx hb dX2_become_122 (by decide) ?_
  refine lv_bipush (v := 6) hx hb dX2_become_123 (by decide) ?_
  refine k_copyi hx hb (hml.trans hl.1.symm) hown (hts (.methodLink RX2 40 arraycopyName) (List.mem_of_getElem? (i := 3) rfl)) (hts (.native arraycopyName) (List.mem_of_getElem? (i := 4) rfl)) (hts (.static arraycopyName) (List.mem_of_getElem? (i := 5) rfl)) (hts (.initialized "java/lang/System") (List.mem_of_getElem? (i := 6) rfl)) hK hP hD hS 27 12 0 0 rfl rfl rfl rfl (by decide) rfl (by decide) (Nat.le_of_ble_eq_true rfl) dX2_become_125 (fun H locs hP hD hS => ?_)
  have hP : va_P D vwCl (stW q cI cJ (setA (setA (setA (setA (setA (setA (setA (setA (setI S 8 (T.1 8)) 2 (T.2.2.1 2)) 3 (T.2.2.1 3)) 4 (T.2.2.1 4)) 5 (T.2.2.1 5)) 6 (T.2.2.1 6)) 7 (T.2.2.1 7)) 8 (T.2.2.1 8)) 9 (T.2.2.1 9)) ++ (stW r cI cJ T)) H := hP
  have hD : va_D A9 (stW q cI cJ (setA (setA (setA (setA (setA (setA (setA (setA (setI S 8 (T.1 8)) 2 (T.2.2.1 2)) 3 (T.2.2.1 3)) 4 (T.2.2.1 4)) 5 (T.2.2.1 5)) 6 (T.2.2.1 6)) 7 (T.2.2.1 7)) 8 (T.2.2.1 8)) 9 (T.2.2.1 9)) ++ (stW r cI cJ T)) := hD
  exact k_vret hx hb hr hlk hP hS dX2_become_128 (k_P rfl)
