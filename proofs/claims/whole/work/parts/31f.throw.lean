def c_ofAt (S : SS) (n w : Nat) : Nat := frst (fun i => c_wkR S n (nI (i + 1)) w) 12
def c_ofR (S : SS) (n w : Nat) : Int32 := if c_ofAt S n w < 12 then nI (c_ofAt S n w + 1) else -1
def c_ofS (S : SS) (n w : Nat) : SS := if c_ofAt S n w < 12 then c_wk S n (nI (c_ofAt S n w + 1)) w else c_wk S n (nI 12) w
def c_ofT (x : Int32) : Option String := if c_in x 1 1440 = true then none else some "java/lang/IllegalArgumentException"

set_option maxHeartbeats 1000000 in
set_option maxRecDepth 100000 in
theorem c_X4_oathFor (l : Launch) (D : va_G) (o : Nat) (q1 q2 q3 q4 q5 q6 qt : Nat → Nat) (cI cJ : ClassId) (S1 S2 S3 S4 S5 S6 : SS) (T : TS) (sv : Int32) (x : Int32) (n : Nat) (hn : S2.1 8 = nI n) (hn6 : n ≤ 6) (hst : l.stackTraces = false) : kxI l yX4_oathFor wsX4_oathFor ({ frames := 6, cells := 1, slots := 6, locals := 129 } : Room) D [(cI, .int), (cJ, .long)] [.ref o, .int x] (poC o q1 q2 q3 q4 q5 q6 qt sv ++ (stW q1 cI cJ S1 ++ (stW q2 cI cJ S2 ++ (stW q3 cI cJ S3 ++ (stW q4 cI cJ S4 ++ (stW q5 cI cJ S5 ++ (stW q6 cI cJ S6 ++ (txW qt cI T)))))))) (c_ofT x) (c_ofR S2 n x.toNatClampNeg) (poC o q1 q2 q3 q4 q5 q6 qt sv ++ (stW q1 cI cJ (c_ofS S2 n x.toNatClampNeg) ++ (stW q2 cI cJ S2 ++ (stW q3 cI cJ S3 ++ (stW q4 cI cJ S4 ++ (stW q5 cI cJ S5 ++ (stW q6 cI cJ S6 ++ (txW qt cI T)))))))) := by
  refine kxBody.met (cc := cX4_oathFor) (maxL := 3) (ret := (some .int)) (by decide) rfl (Nat.le_of_ble_eq_true rfl) ?_
  intro p9 e9 s9 m9 below meth c9 A9 ls hx hb hr hml hts hown hlk hK hP hD hA hTT htb hl
  have hown : s9.vm.findClass RX4 = some m9.cls := hown
  have inX0 : ∀ w ∈ wsX00, w ∈ wsX4_oathFor := fun w h => List.mem_cons_of_mem _ (List.mem_append_left _ (List.mem_append_right _ (h)))
  have inX2 : ∀ w ∈ wsX20, w ∈ wsX4_oathFor := fun w h => List.mem_cons_of_mem _ (List.mem_append_left _ (List.mem_append_left _ (List.mem_append_right _ (h))))
  have inX3 : ∀ w ∈ wsX30, w ∈ wsX4_oathFor := fun w h => List.mem_cons_of_mem _ (List.mem_append_left _ (List.mem_append_left _ (List.mem_append_left _ (List.mem_append_right _ (h)))))
  have inX4 : ∀ w ∈ wsX40, w ∈ wsX4_oathFor := fun w h => List.mem_cons_of_mem _ (List.mem_append_left _ (List.mem_append_left _ (List.mem_append_left _ (List.mem_append_left _ (List.mem_append_right _ (h))))))
  have hS : va_S A9 s9.heap s9.heap [] := va_S.rf
  have hl : lv_has ls 3 [(0, .ref o), (1, .int x)] := hl
  refine lv_iload_n hx hb dX4_oathFor_0 rfl (lv_at hl 1 rfl) ?_
  refine lv_iconst (v := 1) hx hb dX4_oathFor_1 (by decide) ?_
  refine lv_sipush (v := 1440) hx hb dX4_oathFor_2 (by decide) ?_
  refine k_calli (a := []) (z := (poC o q1 q2 q3 q4 q5 q6 qt sv ++ (stW q1 cI cJ S1 ++ (stW q2 cI cJ S2 ++ (stW q3 cI cJ S3 ++ (stW q4 cI cJ S4 ++ (stW q5 cI cJ S5 ++ (stW q6 cI cJ S6 ++ (txW qt cI T))))))))) (wc := []) (wc' := []) (w' := (poC o q1 q2 q3 q4 q5 q6 qt sv ++ (stW q1 cI cJ S1 ++ (stW q2 cI cJ S2 ++ (stW q3 cI cJ S3 ++ (stW q4 cI cJ S4 ++ (stW q5 cI cJ S5 ++ (stW q6 cI cJ S6 ++ (txW qt cI T))))))))) (va_runS (As := [.int x, .int 1, .int 1440]) (rest := []) ⟨hx, hb, hml, hown, hts⟩ (c_X4_isIn l D cI cJ x 1 1440 _) (cwS 3 hts gX4_oathFor_X4_isIn rfl rfl rfl (by decide +kernel) ⟨Nat.le_of_ble_eq_true rfl, Nat.le_of_ble_eq_true rfl⟩) ⟨kB_blind, k_pre (a := []) (z := (poC o q1 q2 q3 q4 q5 q6 qt sv ++ (stW q1 cI cJ S1 ++ (stW q2 cI cJ S2 ++ (stW q3 cI cJ S3 ++ (stW q4 cI cJ S4 ++ (stW q5 cI cJ S5 ++ (stW q6 cI cJ S6 ++ (txW qt cI T))))))))) rfl hK hP hD⟩ rfl rfl hl.1 rfl (lv_room (Nat.le_of_ble_eq_true rfl)) dX4_oathFor_5 ⟨Nat.zero_le _, Nat.zero_le _⟩) rfl rfl rfl hP hD hS hA (fun H locs hP hD hS => ?_)
  refine lv_if_ne (tgt := 21) hx hb dX4_oathFor_8 (by decide) (fun c_8_0 => ?_) (fun c_8_0 => ?_)
  · have c_8_0 : (c_in x 1 1440) = true := bi_n.mp c_8_0
    refine lv_iconst (v := 1) hx hb dX4_oathFor_21 (by decide) ?_
    refine lv_istore_n (lv' := [(2, .int 1), (0, .ref o), (1, .int x)]) hx hb dX4_oathFor_22 rfl hl (by decide) rfl (fun ls hl => ?_)
    have L_23_1 : ∀ (d : Nat) (i : Nat) (U : SS), 12 < i + d → i ≤ 12 → ∀  (hno : ∀ j, j < i → c_wkR S2 n (nI (j + 1)) x.toNatClampNeg = false) (hg : i = 0 ∨ U = c_wk S2 n (nI i) x.toNatClampNeg) (H : Heap) (locs : List Loc) (ls : Array Slot), va_P D vwCl (poC o q1 q2 q3 q4 q5 q6 qt sv ++ (stW q1 cI cJ U ++ (stW q2 cI cJ S2 ++ (stW q3 cI cJ S3 ++ (stW q4 cI cJ S4 ++ (stW q5 cI cJ S5 ++ (stW q6 cI cJ S6 ++ (txW qt cI T)))))))) H → va_D A9 (poC o q1 q2 q3 q4 q5 q6 qt sv ++ (stW q1 cI cJ U ++ (stW q2 cI cJ S2 ++ (stW q3 cI cJ S3 ++ (stW q4 cI cJ S4 ++ (stW q5 cI cJ S5 ++ (stW q6 cI cJ S6 ++ (txW qt cI T)))))))) → va_S A9 s9.heap H locs → lv_has ls 3 [(0, .ref o), (1, .int x), (2, .int (nI (i + 1)))] → W p9 l e9 ({ frames := 6, cells := 1, slots := 6, locals := 129 } : Room) s9 m9 (List.toArray [.ref o, .int x]) below meth c9 H locs 0 0 (vx_MQ below (va_Qi (fun r (_ : Unit) => (c_ofT x) = none ∧ r = (c_ofR S2 n x.toNatClampNeg)) (fun _ t9 => va_P D vwCl (poC o q1 q2 q3 q4 q5 q6 qt sv ++ (stW q1 cI cJ (c_ofS S2 n x.toNatClampNeg) ++ (stW q2 cI cJ S2 ++ (stW q3 cI cJ S3 ++ (stW q4 cI cJ S4 ++ (stW q5 cI cJ S5 ++ (stW q6 cI cJ S6 ++ (txW qt cI T)))))))) t9.heap) A9) (vx_X (fun (_ : Unit) => True) (fun E9 _ t9 => (c_ofT x) = some E9 ∧ va_P D vwCl (poC o q1 q2 q3 q4 q5 q6 qt sv ++ (stW q1 cI cJ S1 ++ (stW q2 cI cJ S2 ++ (stW q3 cI cJ S3 ++ (stW q4 cI cJ S4 ++ (stW q5 cI cJ S5 ++ (stW q6 cI cJ S6 ++ (txW qt cI T)))))))) t9.heap) A9) (List.toArray [.ref o, .int x]) s9 1 6 A9) (F0 m9 23 ls []) := by
      intro d
      induction d with
      | zero =>
        intro i U hf
        intro hkn; exact absurd hf (by omega)
      | succ d ih_23 =>
        intro i U hf_23 hkn_23 hno hg H locs ls hP hD hS hl
        refine lv_iload_n hx hb dX4_oathFor_23 rfl (lv_at hl 2 rfl) ?_
        refine lv_bipush (v := 12) hx hb dX4_oathFor_24 (by decide) ?_
        refine lv_icmp_gt (tgt := 46) hx hb dX4_oathFor_26 (by decide) (fun c_26_2 => ?_) (fun c_26_2 => ?_)
        · have c_26_2 : 12 < (nI (i + 1)) := c_26_2
          have hke_23 : i = 12 := by
            rcases Nat.lt_or_ge i 12 with q9 | q9
            · exact absurd c_26_2 (Int32.not_lt.mpr (show nI (i + 1) ≤ nI 12 from nI_le (by omega) (by decide)))
            · omega
          have ha : c_ofAt S2 n x.toNatClampNeg = 12 := frst_none (p := fun i => c_wkR S2 n (nI (i + 1)) x.toNatClampNeg) (by rw [← hke_23]; exact hno)
          refine lv_iconst (v := (-1)) hx hb dX4_oathFor_46 (by decide) ?_
          exact k_xiret hx hb hr hlk hP hS dX4_oathFor_47 rfl (by rw [c_ofT, if_pos c_8_0]) (by rw [c_ofR, ha, if_neg (by decide)]) (k_P (congrArg (fun T9 => (poC o q1 q2 q3 q4 q5 q6 qt sv ++ (stW q1 cI cJ T9 ++ (stW q2 cI cJ S2 ++ (stW q3 cI cJ S3 ++ (stW q4 cI cJ S4 ++ (stW q5 cI cJ S5 ++ (stW q6 cI cJ S6 ++ (txW qt cI T))))))))) (show U = (c_ofS S2 n x.toNatClampNeg) from by rw [c_ofS, ha, if_neg (by decide), ← hke_23]; exact hg.resolve_left (by omega))))
        · have c_26_2 : ¬ 12 < (nI (i + 1)) := c_26_2
          have hkl_23 : i < 12 := by
            rcases Nat.lt_or_ge i 12 with q9 | q9
            · exact q9
            · exact absurd (show nI (i + 1) ≤ nI 12 from Int32.not_lt.mp c_26_2) (nI_ge (by omega) (by omega))
          refine lv_aload_n hx hb dX4_oathFor_29 rfl (lv_at hl 0 rfl) ?_
          refine lv_iload_n hx hb dX4_oathFor_30 rfl (lv_at hl 2 rfl) ?_
          refine lv_iload_n hx hb dX4_oathFor_31 rfl (lv_at hl 1 rfl) ?_
          refine k_calli (a := []) (z := []) (wc := (poC o q1 q2 q3 q4 q5 q6 qt sv ++ (stW q1 cI cJ U ++ (stW q2 cI cJ S2 ++ (stW q3 cI cJ S3 ++ (stW q4 cI cJ S4 ++ (stW q5 cI cJ S5 ++ (stW q6 cI cJ S6 ++ (txW qt cI T))))))))) (wc' := (poC o q1 q2 q3 q4 q5 q6 qt sv ++ (stW q1 cI cJ (c_wk S2 n (nI (i + 1)) x.toNatClampNeg) ++ (stW q2 cI cJ S2 ++ (stW q3 cI cJ S3 ++ (stW q4 cI cJ S4 ++ (stW q5 cI cJ S5 ++ (stW q6 cI cJ S6 ++ (txW qt cI T))))))))) (w' := (poC o q1 q2 q3 q4 q5 q6 qt sv ++ (stW q1 cI cJ (c_wk S2 n (nI (i + 1)) x.toNatClampNeg) ++ (stW q2 cI cJ S2 ++ (stW q3 cI cJ S3 ++ (stW q4 cI cJ S4 ++ (stW q5 cI cJ S5 ++ (stW q6 cI cJ S6 ++ (txW qt cI T))))))))) (va_runV (As := [.int (nI (i + 1)), .int x]) (rest := []) ⟨hx, hb, hml, hown, hts⟩ (c_X4_wouldBeKept l D o q1 q2 q3 q4 q5 q6 qt cI cJ U S2 S3 S4 S5 S6 T sv (nI (i + 1)) x n hn hn6 _) (cwV 2 hts gX4_oathFor_X4_wouldBeKept rfl rfl rfl (by decide +kernel) ⟨Nat.le_of_ble_eq_true rfl, Nat.le_of_ble_eq_true rfl⟩) ⟨kB_blind, va_recv hK hP (ci := 4) (q0 := 0) rfl rfl, k_pre (a := []) (z := []) (k_w0 _) hK hP hD⟩ rfl rfl hl.1 rfl (lv_room (Nat.le_of_ble_eq_true rfl)) dX4_oathFor_32 ⟨Nat.zero_le _, Nat.zero_le _⟩) (k_w0 _) (k_w0 _) rfl hP hD hS hA (fun H locs hP hD hS => ?_)
          refine lv_if_eq (tgt := 40) hx hb dX4_oathFor_35 (by decide) (fun c_35_3 => ?_) (fun c_35_3 => ?_)
          · have c_35_3 : (c_wkR S2 n (nI (i + 1)) x.toNatClampNeg) = false := bi_0.mp c_35_3
            refine lv_iinc (v := (nI (i + 1)) + 1) (lv' := [(2, .int ((nI (i + 1)) + 1)), (0, .ref o), (1, .int x)]) hx hb dX4_oathFor_40 hl (k := 2) rfl rfl (by decide) rfl (fun ls hl => ?_)
            refine lv_goto (tgt := 23) hx hb dX4_oathFor_43 (by decide) ?_
            rw [show ((nI (i + 1)) + 1) = (nI ((i + 1) + 1)) from nI_1 _] at hl
            exact ih_23 (i + 1) (c_wk S2 n (nI (i + 1)) x.toNatClampNeg) (by omega) (by omega) (k_ext hno c_35_3) (Or.inr rfl) _ _ _ hP hD hS (lv_sub hl [1, 2, 0] rfl)
          · have c_35_3 : (c_wkR S2 n (nI (i + 1)) x.toNatClampNeg) = true := bi_n.mp c_35_3
            have ha : c_ofAt S2 n x.toNatClampNeg = i := frst_some (p := fun i => c_wkR S2 n (nI (i + 1)) x.toNatClampNeg) c_35_3 hno hkl_23
            refine lv_iload_n hx hb dX4_oathFor_38 rfl (lv_at hl 2 rfl) ?_
            exact k_xiret hx hb hr hlk hP hS dX4_oathFor_39 rfl (by rw [c_ofT, if_pos c_8_0]) (by rw [c_ofR, ha, if_pos hkl_23]) (k_P (congrArg (fun T9 => (poC o q1 q2 q3 q4 q5 q6 qt sv ++ (stW q1 cI cJ T9 ++ (stW q2 cI cJ S2 ++ (stW q3 cI cJ S3 ++ (stW q4 cI cJ S4 ++ (stW q5 cI cJ S5 ++ (stW q6 cI cJ S6 ++ (txW qt cI T))))))))) (show (c_wk S2 n (nI (i + 1)) x.toNatClampNeg) = (c_ofS S2 n x.toNatClampNeg) from by rw [c_ofS, ha, if_pos hkl_23])))
    exact L_23_1 (12 + 1) 0 S1 (by omega) (by omega) (fun j hj => absurd hj (Nat.not_lt_zero _)) (Or.inl rfl) _ _ _ hP hD hS (lv_sub hl [1, 2, 0] rfl)
  · have c_8_0 : (c_in x 1 1440) = false := bi_0.mp c_8_0
    exact k_throw (E := "java/lang/IllegalArgumentException") (ik := 47) (is := 144) (ic := 51) (text := "minutes is out of range") hx hb hst hown hTT htb (hml.trans hl.1.symm).symm hlk hP hS (List.mem_of_getElem? (i := 0) rfl) (by decide) (List.mem_of_getElem? (i := 14) rfl) (hts (.classLink RX4 47 "java/lang/IllegalArgumentException") (List.mem_of_getElem? (i := 1) rfl)) (hts (.initialized "java/lang/IllegalArgumentException") (List.mem_of_getElem? (i := 2) rfl)) (fun w h => hts w ((fun w h => List.mem_cons_of_mem _ (List.mem_append_right _ (h))) w h)) k_badIAE (fun w h => (List.mem_cons.mp h).elim (fun e => by rw [e]; rfl) (fun h => (List.mem_cons.mp h).elim (fun e => by rw [e]; rfl) (k_otIAE w))) dX4_oathFor_11 dX4_oathFor_14 dX4_oathFor_15 dX4_oathFor_17 dX4_oathFor_20 (Nat.le_of_ble_eq_true rfl) (Nat.le_of_ble_eq_true rfl) (Nat.le_of_ble_eq_true rfl) (Nat.le_of_ble_eq_true rfl) (by rw [c_ofT, if_neg (bi_nt c_8_0)])
