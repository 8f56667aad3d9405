/-! WHAT IF, THE MODEL'S -/
def o_piB (b : Nat) (v : Int64) (k : Nat) (f : Nat → Int64) : Nat → Int64 := vp_updL f (48 + 8 * k + b) v
theorem o_pi_get {b : Nat} {v : Int64} {n k : Nat} (hb : b < 8) (hn : n ≤ 6) (h : k < 48 ∨ 96 ≤ k) (f : Nat → Int64) : itr (o_piB b v) n f k = f k := itr_out (f := o_piB b v) n f (fun i g hi => pk_uLn (by omega))
theorem o_pi_ok {b : Nat} {v : Int64} {n t : Nat} {f : Nat → Int64} (hb : b < 8) (hn : n ≤ 6) (h : m_ok f n t) : m_ok (itr (o_piB b v) n f) n t := by
  obtain ⟨h1, h2, h3⟩ := h
  refine ⟨by rw [o_pi_get hb hn (by omega), h1], fun k hk => ?_, by rw [o_pi_get hb hn (by omega), h3]⟩
  obtain ⟨j, hj, e⟩ := h2 k hk
  exact ⟨j, hj, by rw [o_pi_get hb hn (by omega), e]⟩
def o_ofRow (w : Nat → Int64) (n t m : Nat) (i : Nat) : Nat → Int64 := itr (m_goB n t) m (itr (o_piB 1 (nI i).toInt64) n w)
def o_ofAt (w : Nat → Int64) (n t m : Nat) : Nat := frst (fun i => decide (o_ofRow w n t m (i + 1) 9 = w 9)) 12
def o_oathFor (M : MS) (n t : Nat) (x : Int32) : MS := if m_in x.toInt64 1 1440 = true then (if o_ofAt (M.2.1 0) n t x.toNatClampNeg < 12 then o_setV (o_setI M 2 0) 1 (o_ofRow (M.2.1 0) n t x.toNatClampNeg (o_ofAt (M.2.1 0) n t x.toNatClampNeg + 1)) else o_setV (o_setI M 2 0) 1 (o_ofRow (M.2.1 0) n t x.toNatClampNeg 12)) else o_setI M 2 1
def o_oathForR (M : MS) (n t : Nat) (x : Int32) : Int32 := if m_in x.toInt64 1 1440 = true then (if o_ofAt (M.2.1 0) n t x.toNatClampNeg < 12 then nI (o_ofAt (M.2.1 0) n t x.toNatClampNeg + 1) else -1) else 0
def o_emRow (w : Nat → Int64) (n t i : Nat) : Nat → Int64 := itr (m_goB n t) i (itr (o_piB 2 2) n w)
def o_emAt (w : Nat → Int64) (n t : Nat) : Nat := frst (fun i => decide (o_emRow w n t i 1 = 0)) 1441
def o_emptyIn (M : MS) (n t : Nat) : MS := o_setV (o_setI M 2 0) 1 (o_emRow (M.2.1 0) n t (o_emAt (M.2.1 0) n t))
def o_emptyInR (M : MS) (n t : Nat) : Int32 := if o_emAt (M.2.1 0) n t < 1441 then nI (o_emAt (M.2.1 0) n t) else -1
def o_startedP (f w : Nat → Int64) (q : Nat) : Bool := decide (¬ f (48 + 8 * q + 4) ≤ w (48 + 8 * q + 4))
def o_started (f w : Nat → Int64) (n : Nat) : Int32 := if frst (o_startedP f w) n < n then nI (frst (o_startedP f w) n) else -1
def o_nsAt (w : Nat → Int64) (n t : Nat) : Nat := frst (fun i => decide (¬ o_started (itr (m_goB n t) i w) w n = -1)) 1440
def o_nsRow (w : Nat → Int64) (n t : Nat) : Nat → Int64 := itr (m_goB n t) (o_nsAt w n t) w

def A_X5_pass_r (M : MS) (st n t : Nat) (x : Int32) : Int32 := (if (m_in x.toInt64 1 1440) = true then (if (((M.2.1 0) 8) + x.toInt64) ≤ 1000000 then (((itr (m_goB n t) x.toNatClampNeg ((o_save (o_setI M 2 0) st).2.1 0)) 9) - (((o_save (o_setI M 2 0) st).2.1 0) 9)).toInt32 else 0) else (if (((M.2.1 0) 8) + x.toInt64) ≤ 1000000 then 0 else 0))
def A_X5_pass_s0 (M : MS) (st n t : Nat) (x : Int32) : MS := (if (m_in x.toInt64 1 1440) = true then (if (((M.2.1 0) 8) + x.toInt64) ≤ 1000000 then o_setV (o_save (o_setI M 2 0) st) 0 (itr (m_goB n t) x.toNatClampNeg ((o_save (o_setI M 2 0) st).2.1 0)) else o_setI M 2 2) else (if (((M.2.1 0) 8) + x.toInt64) ≤ 1000000 then o_setI M 2 1 else o_setI M 2 1))
set_option maxHeartbeats 1000000 in
set_option maxRecDepth 100000 in
theorem c_X5_pass (l : Launch) (D : va_G) (q : Nat → Nat) (cI cJ : ClassId) (M : MS) (x : Int32) (st : Nat) (hst : M.1 0 = nI st) (hst4 : st ≤ 4) (n t : Nat) (hok : m_ok (M.2.1 0) n t) (hn6 : n ≤ 6) (htb : t < 2 ^ 38) : kI l yX5_pass wsX5_pass ({ frames := 4, cells := 0, slots := 0, locals := 90 } : Room) D [(cI, .int), (cJ, .long)] [.ref (q 0), .int x] (moW q cI cJ M) (A_X5_pass_r M st n t x) (moW q cI cJ (A_X5_pass_s0 M st n t x)) := by
  refine kBody.met (cc := cX5_pass) (maxL := 5) (ret := (some .int)) (by decide) rfl (Nat.le_of_ble_eq_true rfl) ?_
  intro p9 e9 s9 m9 below meth c9 A9 ls hx hb hr hml hts hown hlk hK hP hD hA hl
  have hown : s9.vm.findClass RX5 = some m9.cls := hown
  have inX5 : ∀ w ∈ wsX50, w ∈ wsX5_pass := fun w h => List.mem_cons_of_mem _ (List.mem_append_right _ (h))
  have hS : va_S A9 s9.heap s9.heap [] := va_S.rf
  have hl : lv_has ls 5 [(0, .ref (q 0)), (1, .int x)] := hl
  have hcl := k_clt x
  refine lv_aload_n hx hb dX5_pass_0 rfl (lv_at hl 0 rfl) ?_
  refine lv_iload_n hx hb dX5_pass_1 rfl (lv_at hl 1 rfl) ?_
  refine lv_i2l hx hb dX5_pass_2 rfl ?_
  refine lv_lconst (v := 1) hx hb dX5_pass_3 (by decide) ?_
  refine lv_ldc2 (v := 1440) hx hb hown (hts (.constantLong RX5 107 (1440)) (List.mem_of_getElem? (i := 1) rfl)) dX5_pass_4 ?_
  refine k_calli (a := []) (z := moW q cI cJ M) (wc := []) (wc' := []) (w' := moW q cI cJ M) (va_runS (As := [.long x.toInt64, .long 1, .long 1440]) (rest := [.ref (q 0)]) ⟨hx, hb, hml, hown, hts⟩ (c_X5_in l D cI cJ x.toInt64 1 1440 _) (cwS 3 hts gX5_pass_X5_in rfl rfl rfl (by decide +kernel) ⟨Nat.le_of_ble_eq_true rfl, Nat.le_of_ble_eq_true rfl⟩) ⟨kB_blind, k_pre (a := []) (z := moW q cI cJ M) rfl hK hP hD⟩ rfl rfl hl.1 rfl (lv_room (Nat.le_of_ble_eq_true rfl)) dX5_pass_7 ⟨Nat.zero_le _, Nat.zero_le _⟩) rfl rfl rfl hP hD hS hA (fun H locs hP hD hS => ?_)
  refine lv_if_ne (tgt := 17) hx hb dX5_pass_10 (by decide) (fun c_10_0 => ?_) (fun c_10_0 => ?_)
  · have c_10_0 : (m_in x.toInt64 1 1440) = true := bi_n.mp c_10_0
    refine lv_iconst (v := 0) hx hb dX5_pass_17 (by decide) ?_
    refine lv_aload_n hx hb dX5_pass_18 rfl (lv_at hl 0 rfl) ?_
    refine va_get (D := D) (ci := 5) (v := .ref (q 1)) (C := RX5) (T := TX5) (N := 14) hx hb hts inX5 hown hK hP 0 rfl rfl 0 (by decide) (hts (.fieldLink RX5 7 "PumpOathsModel" "now" "[J") (List.mem_of_getElem? (i := 2) rfl)) (fun _ h9 => h9) rfl dX5_pass_19 ?_
    refine lv_bipush (v := 8) hx hb dX5_pass_22 (by decide) ?_
    refine va_lald (f := M.2.1 0) hx hb hK hP 1 1 rfl rfl (k_in (k := 8) rfl (by decide) (by decide)) dX5_pass_24 ?_
    rw [show (8 : Int32).toNatClampNeg = 8 from rfl]
    refine lv_iload_n hx hb dX5_pass_25 rfl (lv_at hl 1 rfl) ?_
    refine lv_i2l hx hb dX5_pass_26 rfl ?_
    refine lv_ladd hx hb dX5_pass_27 ?_
    refine lv_ldc2 (v := 1000000) hx hb hown (hts (.constantLong RX5 127 (1000000)) (List.mem_of_getElem? (i := 3) rfl)) dX5_pass_28 ?_
    refine W.lcmp hx hb dX5_pass_31 ?_
    refine lv_if_le (tgt := 39) hx hb dX5_pass_32 (by decide) (fun c_32_1 => ?_) (fun c_32_1 => ?_)
    · have c_32_1 : (((M.2.1 0) 8) + x.toInt64) ≤ 1000000 := (lg_cmp_le (((M.2.1 0) 8) + x.toInt64) 1000000).mp c_32_1
      refine lv_iconst (v := 0) hx hb dX5_pass_39 (by decide) ?_
      refine k_calli (a := []) (z := []) (wc := moW q cI cJ M) (wc' := moW q cI cJ (o_setI M 2 0)) (w' := moW q cI cJ (o_setI M 2 0)) (va_runV (As := [.int 0, .int 0]) (rest := []) ⟨hx, hb, hml, hown, hts⟩ (c_X5_goes00 l D q cI cJ M _) (cwV 2 hts gX5_pass_X5_goes rfl rfl rfl (by decide +kernel) ⟨Nat.le_of_ble_eq_true rfl, Nat.le_of_ble_eq_true rfl⟩) ⟨kB_blind, va_recv hK hP (ci := 5) (q0 := 0) rfl rfl, k_pre (a := []) (z := []) (k_w0 _) hK hP hD⟩ rfl rfl hl.1 rfl (lv_room (Nat.le_of_ble_eq_true rfl)) dX5_pass_40 ⟨Nat.zero_le _, Nat.zero_le _⟩) (k_w0 _) (k_w0 _) (moW_ad _ _ _ _ _) hP hD hS hA (fun H locs hP hD hS => ?_)
      refine lv_if_ne (tgt := 48) hx hb dX5_pass_43 (by decide) (fun _ => ?_) (fun h => absurd h (by decide))
      refine lv_aload_n hx hb dX5_pass_48 rfl (lv_at hl 0 rfl) ?_
      refine k_callv (a := []) (z := []) (wc := moW q cI cJ (o_setI M 2 0)) (wc' := moW q cI cJ (o_save (o_setI M 2 0) st)) (w' := moW q cI cJ (o_save (o_setI M 2 0) st)) (va_runV (As := []) (rest := []) ⟨hx, hb, hml, hown, hts⟩ (c_X5_saves l D q cI cJ (o_setI M 2 0) st hst hst4 _) (cwV 0 hts gX5_pass_X5_saves rfl rfl rfl (by decide +kernel) ⟨Nat.le_of_ble_eq_true rfl, Nat.le_of_ble_eq_true rfl⟩) ⟨kB_blind, va_recv hK hP (ci := 5) (q0 := 0) rfl rfl, k_pre (a := []) (z := []) (k_w0 _) hK hP hD⟩ rfl rfl hl.1 rfl (lv_room (Nat.le_of_ble_eq_true rfl)) dX5_pass_49 ⟨Nat.zero_le _, Nat.zero_le _⟩) (k_w0 _) (k_w0 _) (moW_ad _ _ _ _ _) hP hD hS hA (fun H locs hP hD hS => ?_)
      obtain ⟨T_4, hT_4⟩ : ∃ T9, T9 = o_save (o_setI M 2 0) st := ⟨_, rfl⟩
      rw [← hT_4] at hP hD
      refine lv_aload_n hx hb dX5_pass_52 rfl (lv_at hl 0 rfl) ?_
      refine va_get (D := D) (ci := 5) (v := .ref (q 1)) (C := RX5) (T := TX5) (N := 14) hx hb hts inX5 hown hK hP 0 rfl rfl 0 (by decide) (hts (.fieldLink RX5 7 "PumpOathsModel" "now" "[J") (List.mem_of_getElem? (i := 2) rfl)) (fun _ h9 => h9) rfl dX5_pass_53 ?_
      refine lv_bipush (v := 9) hx hb dX5_pass_56 (by decide) ?_
      refine va_lald (f := T_4.2.1 0) hx hb hK hP 1 1 rfl rfl (k_in (k := 9) rfl (by decide) (by decide)) dX5_pass_58 ?_
      rw [show (9 : Int32).toNatClampNeg = 9 from rfl]
      refine lv_lstore_n (lv' := [(2, .long ((T_4.2.1 0) 9)), (0, .ref (q 0)), (1, .int x)]) hx hb dX5_pass_59 rfl hl (by decide) rfl (fun ls hl => ?_)
      refine lv_iconst (v := 0) hx hb dX5_pass_60 (by decide) ?_
      refine lv_istore (lv' := [(4, .int 0), (2, .long ((T_4.2.1 0) 9)), (0, .ref (q 0)), (1, .int x)]) hx hb dX5_pass_61 hl (by decide) rfl (fun ls hl => ?_)
      have L_63_4 : ∀ (d : Nat) (k : Nat) (f : Nat → Int64), x.toNatClampNeg < k + d → k ≤ x.toNatClampNeg → ∀  (e63 : itr (m_goB n t) k ((T_4.2.1 0)) = f) (hq : m_ok f n (t + k)) (H : Heap) (locs : List Loc) (ls : Array Slot), va_P D vwCl (moW q cI cJ (o_setV T_4 0 f)) H → va_D A9 (moW q cI cJ (o_setV T_4 0 f)) → va_S A9 s9.heap H locs → lv_has ls 5 [(0, .ref (q 0)), (1, .int x), (2, .long ((T_4.2.1 0) 9)), (4, .int (nI k))] → W p9 l e9 ({ frames := 4, cells := 0, slots := 0, locals := 90 } : Room) s9 m9 (List.toArray [.ref (q 0), .int x]) below meth c9 H locs 0 0 (MQ below (va_Qi (fun r (_ : Unit) => r = (A_X5_pass_r M st n t x)) (fun _ t9 => va_P D vwCl (moW q cI cJ (A_X5_pass_s0 M st n t x)) t9.heap) A9) (List.toArray [.ref (q 0), .int x]) s9 0 0 A9) (F0 m9 63 ls []) := by
        intro d
        induction d with
        | zero =>
          intro k f hf
          intro hkn; exact absurd hf (by omega)
        | succ d ih_63 =>
          intro k f hf_63 hkn_63 e63 hq H locs ls hP hD hS hl
          refine lv_iload hx hb dX5_pass_63 (lv_at hl 3 rfl) ?_
          refine lv_iload_n hx hb dX5_pass_65 rfl (lv_at hl 1 rfl) ?_
          refine lv_icmp_ge (tgt := 82) hx hb dX5_pass_66 (by decide) (fun c_66_5 => ?_) (fun c_66_5 => ?_)
          · have c_66_5 : x ≤ (nI k) := c_66_5
            have hke_63 : x.toNatClampNeg = k := (k_exit c_66_5 hkn_63).symm
            subst hke_63
            subst e63
            refine lv_aload_n hx hb dX5_pass_82 rfl (lv_at hl 0 rfl) ?_
            refine va_get (D := D) (ci := 5) (v := .ref (q 1)) (C := RX5) (T := TX5) (N := 14) hx hb hts inX5 hown hK hP 0 rfl rfl 0 (by decide) (hts (.fieldLink RX5 7 "PumpOathsModel" "now" "[J") (List.mem_of_getElem? (i := 2) rfl)) (fun _ h9 => h9) rfl dX5_pass_83 ?_
            refine lv_bipush (v := 9) hx hb dX5_pass_86 (by decide) ?_
            refine va_lald (f := (itr (m_goB n t) x.toNatClampNeg (T_4.2.1 0))) hx hb hK hP 1 1 rfl rfl (k_in (k := 9) rfl (by decide) (by decide)) dX5_pass_88 ?_
            rw [show (9 : Int32).toNatClampNeg = 9 from rfl]
            refine lv_lload_n hx hb dX5_pass_89 rfl (lv_at hl 2 rfl) ?_
            refine lv_lsub hx hb dX5_pass_90 ?_
            refine lv_l2i hx hb dX5_pass_91 rfl ?_
            exact k_iret hx hb hr hlk hP hS dX5_pass_92 rfl (by rw [hT_4, A_X5_pass_r, if_pos c_10_0, if_pos c_32_1]) (k_P (congrArg (fun T9 => moW q cI cJ T9) (show (o_setV T_4 0 (itr (m_goB n t) x.toNatClampNeg (T_4.2.1 0))) = (A_X5_pass_s0 M st n t x) from by rw [hT_4, A_X5_pass_s0, if_pos c_10_0, if_pos c_32_1])))
          · have c_66_5 : ¬ x ≤ (nI k) := c_66_5
            have hkl_63 : k < x.toNatClampNeg := k_body c_66_5 hkn_63
            refine lv_aload_n hx hb dX5_pass_69 rfl (lv_at hl 0 rfl) ?_
            refine va_get (D := D) (ci := 5) (v := .ref (q 1)) (C := RX5) (T := TX5) (N := 14) hx hb hts inX5 hown hK hP 0 rfl rfl 0 (by decide) (hts (.fieldLink RX5 7 "PumpOathsModel" "now" "[J") (List.mem_of_getElem? (i := 2) rfl)) (fun _ h9 => h9) rfl dX5_pass_70 ?_
            refine k_callv (a := List.take 1 (moW q cI cJ (o_setV T_4 0 f))) (z := List.drop 2 (moW q cI cJ (o_setV T_4 0 f))) (wc := rwW (q 1) cJ f) (wc' := rwW (q 1) cJ (m_pass f n (t + k))) (w' := moW q cI cJ (o_setV T_4 0 (m_pass f n (t + k)))) (va_runS (As := [.ref (q 1)]) (rest := []) ⟨hx, hb, hml, hown, hts⟩ (c_X5_passes l D (q 1) cI cJ f n hq.1 hn6 hq.2.1 (t + k) hq.2.2 (by omega) _) (cwS 1 hts gX5_pass_X5_passes rfl rfl rfl (by decide +kernel) ⟨Nat.le_of_ble_eq_true rfl, Nat.le_of_ble_eq_true rfl⟩) ⟨kB_blind, k_pre (a := List.take 1 (moW q cI cJ (o_setV T_4 0 f))) (z := List.drop 2 (moW q cI cJ (o_setV T_4 0 f))) rfl hK hP hD⟩ rfl rfl hl.1 rfl (lv_room (Nat.le_of_ble_eq_true rfl)) dX5_pass_73 ⟨Nat.zero_le _, Nat.zero_le _⟩) rfl rfl (rwW_ad _ _ _ _) hP hD hS hA (fun H locs hP hD hS => ?_)
            refine lv_iinc (v := (nI k) + 1) (lv' := [(4, .int ((nI k) + 1)), (0, .ref (q 0)), (1, .int x), (2, .long ((T_4.2.1 0) 9))]) hx hb dX5_pass_76 hl (k := 3) rfl rfl (by decide) rfl (fun ls hl => ?_)
            refine lv_goto (tgt := 63) hx hb dX5_pass_79 (by decide) ?_
            rw [show ((nI k) + 1) = (nI (k + 1)) from nI_1 _] at hl
            exact ih_63 (k + 1) (m_pass f n (t + k)) (by omega) (by omega) (by rw [itr_s, e63]; simp [m_goB, c_10_0, c_32_1, c_66_5]) (m_pass_ok hq hn6 (by omega)) _ _ _ hP hD hS (lv_sub hl [1, 2, 3, 0] rfl)
      exact L_63_4 (x.toNatClampNeg + 1) 0 (T_4.2.1 0) (by omega) (by omega) (rfl) (by rw [hT_4, o_save_V _ _ _ (by decide)]; exact hok) _ _ _ hP hD hS (lv_sub hl [2, 3, 1, 0] rfl)
    · have c_32_1 : ¬ (((M.2.1 0) 8) + x.toInt64) ≤ 1000000 := mt (lg_cmp_le (((M.2.1 0) 8) + x.toInt64) 1000000).mpr c_32_1
      refine lv_iconst (v := 1) hx hb dX5_pass_35 (by decide) ?_
      refine lv_goto (tgt := 40) hx hb dX5_pass_36 (by decide) ?_
      refine k_calli (a := []) (z := []) (wc := moW q cI cJ M) (wc' := moW q cI cJ (o_setI M 2 2)) (w' := moW q cI cJ (o_setI M 2 2)) (va_runV (As := [.int 0, .int 1]) (rest := []) ⟨hx, hb, hml, hown, hts⟩ (c_X5_goes01 l D q cI cJ M _) (cwV 2 hts gX5_pass_X5_goes rfl rfl rfl (by decide +kernel) ⟨Nat.le_of_ble_eq_true rfl, Nat.le_of_ble_eq_true rfl⟩) ⟨kB_blind, va_recv hK hP (ci := 5) (q0 := 0) rfl rfl, k_pre (a := []) (z := []) (k_w0 _) hK hP hD⟩ rfl rfl hl.1 rfl (lv_room (Nat.le_of_ble_eq_true rfl)) dX5_pass_40 ⟨Nat.zero_le _, Nat.zero_le _⟩) (k_w0 _) (k_w0 _) (moW_ad _ _ _ _ _) hP hD hS hA (fun H locs hP hD hS => ?_)
      refine lv_if_ne (tgt := 48) hx hb dX5_pass_43 (by decide) (fun h => absurd h (by decide)) (fun _ => ?_)
      refine lv_iconst (v := 0) hx hb dX5_pass_46 (by decide) ?_
      exact k_iret hx hb hr hlk hP hS dX5_pass_47 rfl (by rw [A_X5_pass_r, if_pos c_10_0, if_neg c_32_1]) (k_P (congrArg (fun T9 => moW q cI cJ T9) (show (o_setI M 2 2) = (A_X5_pass_s0 M st n t x) from by rw [A_X5_pass_s0, if_pos c_10_0, if_neg c_32_1])))
  · have c_10_0 : (m_in x.toInt64 1 1440) = false := bi_0.mp c_10_0
    refine lv_iconst (v := 1) hx hb dX5_pass_13 (by decide) ?_
    refine lv_goto (tgt := 18) hx hb dX5_pass_14 (by decide) ?_
    refine lv_aload_n hx hb dX5_pass_18 rfl (lv_at hl 0 rfl) ?_
    refine va_get (D := D) (ci := 5) (v := .ref (q 1)) (C := RX5) (T := TX5) (N := 14) hx hb hts inX5 hown hK hP 0 rfl rfl 0 (by decide) (hts (.fieldLink RX5 7 "PumpOathsModel" "now" "[J") (List.mem_of_getElem? (i := 2) rfl)) (fun _ h9 => h9) rfl dX5_pass_19 ?_
    refine lv_bipush (v := 8) hx hb dX5_pass_22 (by decide) ?_
    refine va_lald (f := M.2.1 0) hx hb hK hP 1 1 rfl rfl (k_in (k := 8) rfl (by decide) (by decide)) dX5_pass_24 ?_
    rw [show (8 : Int32).toNatClampNeg = 8 from rfl]
    refine lv_iload_n hx hb dX5_pass_25 rfl (lv_at hl 1 rfl) ?_
    refine lv_i2l hx hb dX5_pass_26 rfl ?_
    refine lv_ladd hx hb dX5_pass_27 ?_
    refine lv_ldc2 (v := 1000000) hx hb hown (hts (.constantLong RX5 127 (1000000)) (List.mem_of_getElem? (i := 3) rfl)) dX5_pass_28 ?_
    refine W.lcmp hx hb dX5_pass_31 ?_
    refine lv_if_le (tgt := 39) hx hb dX5_pass_32 (by decide) (fun c_32_7 => ?_) (fun c_32_7 => ?_)
    · have c_32_7 : (((M.2.1 0) 8) + x.toInt64) ≤ 1000000 := (lg_cmp_le (((M.2.1 0) 8) + x.toInt64) 1000000).mp c_32_7
      refine lv_iconst (v := 0) hx hb dX5_pass_39 (by decide) ?_
      refine k_calli (a := []) (z := []) (wc := moW q cI cJ M) (wc' := moW q cI cJ (o_setI M 2 1)) (w' := moW q cI cJ (o_setI M 2 1)) (va_runV (As := [.int 1, .int 0]) (rest := []) ⟨hx, hb, hml, hown, hts⟩ (c_X5_goes1 l D q cI cJ M 0 _) (cwV 2 hts gX5_pass_X5_goes rfl rfl rfl (by decide +kernel) ⟨Nat.le_of_ble_eq_true rfl, Nat.le_of_ble_eq_true rfl⟩) ⟨kB_blind, va_recv hK hP (ci := 5) (q0 := 0) rfl rfl, k_pre (a := []) (z := []) (k_w0 _) hK hP hD⟩ rfl rfl hl.1 rfl (lv_room (Nat.le_of_ble_eq_true rfl)) dX5_pass_40 ⟨Nat.zero_le _, Nat.zero_le _⟩) (k_w0 _) (k_w0 _) (moW_ad _ _ _ _ _) hP hD hS hA (fun H locs hP hD hS => ?_)
      refine lv_if_ne (tgt := 48) hx hb dX5_pass_43 (by decide) (fun h => absurd h (by decide)) (fun _ => ?_)
      refine lv_iconst (v := 0) hx hb dX5_pass_46 (by decide) ?_
      exact k_iret hx hb hr hlk hP hS dX5_pass_47 rfl (by rw [A_X5_pass_r, if_neg (bi_nt c_10_0), if_pos c_32_7]) (k_P (congrArg (fun T9 => moW q cI cJ T9) (show (o_setI M 2 1) = (A_X5_pass_s0 M st n t x) from by rw [A_X5_pass_s0, if_neg (bi_nt c_10_0), if_pos c_32_7])))
    · have c_32_7 : ¬ (((M.2.1 0) 8) + x.toInt64) ≤ 1000000 := mt (lg_cmp_le (((M.2.1 0) 8) + x.toInt64) 1000000).mpr c_32_7
      refine lv_iconst (v := 1) hx hb dX5_pass_35 (by decide) ?_
      refine lv_goto (tgt := 40) hx hb dX5_pass_36 (by decide) ?_
      refine k_calli (a := []) (z := []) (wc := moW q cI cJ M) (wc' := moW q cI cJ (o_setI M 2 1)) (w' := moW q cI cJ (o_setI M 2 1)) (va_runV (As := [.int 1, .int 1]) (rest := []) ⟨hx, hb, hml, hown, hts⟩ (c_X5_goes1 l D q cI cJ M 1 _) (cwV 2 hts gX5_pass_X5_goes rfl rfl rfl (by decide +kernel) ⟨Nat.le_of_ble_eq_true rfl, Nat.le_of_ble_eq_true rfl⟩) ⟨kB_blind, va_recv hK hP (ci := 5) (q0 := 0) rfl rfl, k_pre (a := []) (z := []) (k_w0 _) hK hP hD⟩ rfl rfl hl.1 rfl (lv_room (Nat.le_of_ble_eq_true rfl)) dX5_pass_40 ⟨Nat.zero_le _, Nat.zero_le _⟩) (k_w0 _) (k_w0 _) (moW_ad _ _ _ _ _) hP hD hS hA (fun H locs hP hD hS => ?_)
      refine lv_if_ne (tgt := 48) hx hb dX5_pass_43 (by decide) (fun h => absurd h (by decide)) (fun _ => ?_)
      refine lv_iconst (v := 0) hx hb dX5_pass_46 (by decide) ?_
      exact k_iret hx hb hr hlk hP hS dX5_pass_47 rfl (by rw [A_X5_pass_r, if_neg (bi_nt c_10_0), if_neg c_32_7]) (k_P (congrArg (fun T9 => moW q cI cJ T9) (show (o_setI M 2 1) = (A_X5_pass_s0 M st n t x) from by rw [A_X5_pass_s0, if_neg (bi_nt c_10_0), if_neg c_32_7])))
