def o_dgN (M : MS) (n : Nat) (k : Nat) (h : Int64) : Int64 := 31 * h + A_X5_one_r (o_setI M 2 0) n (nI k)
def o_dgW (M : MS) (b : Nat) (k : Nat) (h : Int64) : Int64 := 31 * h + M.2.1 0 (b + k)
def o_dgP (M : MS) (k : Nat) (h : Int64) : Int64 := 31 * h + (A_X5_pumpValue_r (o_setI M 2 0) (nI (k / 8)) (k % 8)).toInt64
def o_digest (M : MS) (n lc : Nat) : Int64 := 31 * itr (o_dgW M 102) (3 * lc) (itr (o_dgP M) (8 * n) (31 * itr (o_dgW M 14) 5 (itr (o_dgW M 24) 24 (itr (o_dgW M 4) 3 (itr (o_dgN M n) 14 (113863 + (M.1 1).toInt64)))) + M.2.1 0 12)) + (M.1 0).toInt64

set_option maxHeartbeats 1000000 in
set_option maxRecDepth 100000 in
theorem c_X5_digest (l : Launch) (D : va_G) (q : Nat → Nat) (cI cJ : ClassId) (M : MS) (n : Nat) (hn : M.2.1 0 7 = lN n) (hn6 : n ≤ 6) (hperm : ∀ j, j < n → ∃ i, i < 6 ∧ M.2.1 0 (96 + i) = lN j) (lc : Nat) (hlc : M.2.1 0 13 = lN lc) (hlc12 : lc ≤ 12) : kL l yX5_digest wsX5_digest ({ frames := 3, cells := 0, slots := 0, locals := 65 } : Room) D [(cI, .int), (cJ, .long)] [.ref (q 0)] (moW q cI cJ M) (o_digest M n lc) (moW q cI cJ (o_setI M 2 0)) := by
  refine kBody.met (cc := cX5_digest) (maxL := 4) (ret := (some .long)) (by decide) rfl (Nat.le_of_ble_eq_true rfl) ?_
  intro p9 e9 s9 m9 below meth c9 A9 ls hx hb hr hml hts hown hlk hK hP hD hA hl
  have hown : s9.vm.findClass RX5 = some m9.cls := hown
  have inX5 : ∀ w ∈ wsX50, w ∈ wsX5_digest := fun w h => List.mem_cons_of_mem _ (List.mem_append_right _ (h))
  have hS : va_S A9 s9.heap s9.heap [] := va_S.rf
  have hl : lv_has ls 4 [(0, .ref (q 0))] := hl
  refine lv_aload_n hx hb dX5_digest_0 rfl (lv_at hl 0 rfl) ?_
  refine lv_iconst (v := 0) hx hb dX5_digest_1 (by decide) ?_
  refine lv_iconst (v := 0) hx hb dX5_digest_2 (by decide) ?_
  refine k_calli (a := []) (z := []) (wc := moW q cI cJ M) (wc' := moW q cI cJ (o_setI M 2 0)) (w' := moW q cI cJ (o_setI M 2 0)) (va_runV (As := [.int 0, .int 0]) (rest := []) ⟨hx, hb, hml, hown, hts⟩ (c_X5_goes00 l D q cI cJ M _) (cwV 2 hts gX5_digest_X5_goes rfl rfl rfl (by decide +kernel) ⟨Nat.le_of_ble_eq_true rfl, Nat.le_of_ble_eq_true rfl⟩) ⟨kB_blind, va_recv hK hP (ci := 5) (q0 := 0) rfl rfl, k_pre (a := []) (z := []) (k_w0 _) hK hP hD⟩ rfl rfl hl.1 rfl (lv_room (Nat.le_of_ble_eq_true rfl)) dX5_digest_3 ⟨Nat.zero_le _, Nat.zero_le _⟩) (k_w0 _) (k_w0 _) (moW_ad _ _ _ _ _) hP hD hS hA (fun H locs hP hD hS => ?_)
  refine lv_pop hx hb dX5_digest_6 rfl ?_
  refine lv_ldc2 (v := 113863) hx hb hown (hts (.constantLong RX5 218 (113863)) (List.mem_of_getElem? (i := 1) rfl)) dX5_digest_7 ?_
  refine lv_aload_n hx hb dX5_digest_10 rfl (lv_at hl 0 rfl) ?_
  refine va_get (D := D) (ci := 5) (v := .int (M.1 1)) (C := RX5) (T := TX5) (N := 14) hx hb hts inX5 hown hK hP 0 rfl rfl 5 (by decide) (hts (.fieldLink RX5 167 "PumpOathsModel" "letters" "I") (List.mem_of_getElem? (i := 2) rfl)) (fun _ h9 => h9) rfl dX5_digest_11 ?_
  refine lv_i2l hx hb dX5_digest_14 rfl ?_
  refine lv_ladd hx hb dX5_digest_15 ?_
  refine lv_lstore_n (lv' := [(1, .long (113863 + ((M.1 1).toInt64))), (0, .ref (q 0))]) hx hb dX5_digest_16 rfl hl (by decide) rfl (fun ls hl => ?_)
  refine lv_iconst (v := 0) hx hb dX5_digest_17 (by decide) ?_
  refine lv_istore_n (lv' := [(3, .int 0), (1, .long (113863 + ((M.1 1).toInt64))), (0, .ref (q 0))]) hx hb dX5_digest_18 rfl hl (by decide) rfl (fun ls hl => ?_)
  have L_19_0 : ∀ (d : Nat) (k : Nat) (x1 : Int64), 14 < k + d → k ≤ 14 → ∀  (e19 : itr (o_dgN M n) k (113863 + (M.1 1).toInt64) = x1) (H : Heap) (locs : List Loc) (ls : Array Slot), va_P D vwCl (moW q cI cJ (o_setI M 2 0)) H → va_D A9 (moW q cI cJ (o_setI M 2 0)) → va_S A9 s9.heap H locs → lv_has ls 4 [(0, .ref (q 0)), (1, .long x1), (3, .int (nI k))] → W p9 l e9 ({ frames := 3, cells := 0, slots := 0, locals := 65 } : Room) s9 m9 (List.toArray [.ref (q 0)]) below meth c9 H locs 0 0 (MQ below (va_Ql (fun r (_ : Unit) => r = (o_digest M n lc)) (fun _ t9 => va_P D vwCl (moW q cI cJ (o_setI M 2 0)) t9.heap) A9) (List.toArray [.ref (q 0)]) s9 0 0 A9) (F0 m9 19 ls []) := by
    intro d
    induction d with
    | zero =>
      intro k x1 hf
      intro hkn; exact absurd hf (by omega)
    | succ d ih_19 =>
      intro k x1 hf_19 hkn_19 e19 H locs ls hP hD hS hl
      refine lv_iload_n hx hb dX5_digest_19 rfl (lv_at hl 2 rfl) ?_
      refine lv_bipush (v := 14) hx hb dX5_digest_20 (by decide) ?_
      refine lv_icmp_ge (tgt := 43) hx hb dX5_digest_22 (by decide) (fun c_22_1 => ?_) (fun c_22_1 => ?_)
      · have c_22_1 : 14 ≤ (nI k) := c_22_1
        have hke_19 : 14 = k := (k_exitN c_22_1 rfl hkn_19 (by decide)).symm
        subst hke_19
        refine lv_iconst (v := 0) hx hb dX5_digest_43 (by decide) ?_
        refine lv_istore_n (lv' := [(3, .int 0), (0, .ref (q 0)), (1, .long x1)]) hx hb dX5_digest_44 rfl hl (by decide) rfl (fun ls hl => ?_)
        have L_45_2 : ∀ (d : Nat) (k : Nat) (x2 : Int64), 3 < k + d → k ≤ 3 → ∀  (e45 : itr (o_dgW M 4) k x1 = x2) (H : Heap) (locs : List Loc) (ls : Array Slot), va_P D vwCl (moW q cI cJ (o_setI M 2 0)) H → va_D A9 (moW q cI cJ (o_setI M 2 0)) → va_S A9 s9.heap H locs → lv_has ls 4 [(0, .ref (q 0)), (1, .long x2), (3, .int (nI k))] → W p9 l e9 ({ frames := 3, cells := 0, slots := 0, locals := 65 } : Room) s9 m9 (List.toArray [.ref (q 0)]) below meth c9 H locs 0 0 (MQ below (va_Ql (fun r (_ : Unit) => r = (o_digest M n lc)) (fun _ t9 => va_P D vwCl (moW q cI cJ (o_setI M 2 0)) t9.heap) A9) (List.toArray [.ref (q 0)]) s9 0 0 A9) (F0 m9 45 ls []) := by
          intro d
          induction d with
          | zero =>
            intro k x2 hf
            intro hkn; exact absurd hf (by omega)
          | succ d ih_45 =>
            intro k x2 hf_45 hkn_45 e45 H locs ls hP hD hS hl
            refine lv_iload_n hx hb dX5_digest_45 rfl (lv_at hl 2 rfl) ?_
            refine lv_iconst (v := 3) hx hb dX5_digest_46 (by decide) ?_
            refine lv_icmp_ge (tgt := 71) hx hb dX5_digest_47 (by decide) (fun c_47_3 => ?_) (fun c_47_3 => ?_)
            · have c_47_3 : 3 ≤ (nI k) := c_47_3
              have hke_45 : 3 = k := (k_exitN c_47_3 rfl hkn_45 (by decide)).symm
              subst hke_45
              refine lv_iconst (v := 0) hx hb dX5_digest_71 (by decide) ?_
              refine lv_istore_n (lv' := [(3, .int 0), (0, .ref (q 0)), (1, .long x2)]) hx hb dX5_digest_72 rfl hl (by decide) rfl (fun ls hl => ?_)
              have L_73_4 : ∀ (d : Nat) (k : Nat) (x3 : Int64), 24 < k + d → k ≤ 24 → ∀  (e73 : itr (o_dgW M 24) k x2 = x3) (H : Heap) (locs : List Loc) (ls : Array Slot), va_P D vwCl (moW q cI cJ (o_setI M 2 0)) H → va_D A9 (moW q cI cJ (o_setI M 2 0)) → va_S A9 s9.heap H locs → lv_has ls 4 [(0, .ref (q 0)), (1, .long x3), (3, .int (nI k))] → W p9 l e9 ({ frames := 3, cells := 0, slots := 0, locals := 65 } : Room) s9 m9 (List.toArray [.ref (q 0)]) below meth c9 H locs 0 0 (MQ below (va_Ql (fun r (_ : Unit) => r = (o_digest M n lc)) (fun _ t9 => va_P D vwCl (moW q cI cJ (o_setI M 2 0)) t9.heap) A9) (List.toArray [.ref (q 0)]) s9 0 0 A9) (F0 m9 73 ls []) := by
                intro d
                induction d with
                | zero =>
                  intro k x3 hf
                  intro hkn; exact absurd hf (by omega)
                | succ d ih_73 =>
                  intro k x3 hf_73 hkn_73 e73 H locs ls hP hD hS hl
                  refine lv_iload_n hx hb dX5_digest_73 rfl (lv_at hl 2 rfl) ?_
                  refine lv_bipush (v := 24) hx hb dX5_digest_74 (by decide) ?_
                  refine lv_icmp_ge (tgt := 101) hx hb dX5_digest_76 (by decide) (fun c_76_5 => ?_) (fun c_76_5 => ?_)
                  · have c_76_5 : 24 ≤ (nI k) := c_76_5
                    have hke_73 : 24 = k := (k_exitN c_76_5 rfl hkn_73 (by decide)).symm
                    subst hke_73
                    refine lv_iconst (v := 0) hx hb dX5_digest_101 (by decide) ?_
                    refine lv_istore_n (lv' := [(3, .int 0), (0, .ref (q 0)), (1, .long x3)]) hx hb dX5_digest_102 rfl hl (by decide) rfl (fun ls hl => ?_)
                    have L_103_6 : ∀ (d : Nat) (k : Nat) (x4 : Int64), 5 < k + d → k ≤ 5 → ∀  (e103 : itr (o_dgW M 14) k x3 = x4) (H : Heap) (locs : List Loc) (ls : Array Slot), va_P D vwCl (moW q cI cJ (o_setI M 2 0)) H → va_D A9 (moW q cI cJ (o_setI M 2 0)) → va_S A9 s9.heap H locs → lv_has ls 4 [(0, .ref (q 0)), (1, .long x4), (3, .int (nI k))] → W p9 l e9 ({ frames := 3, cells := 0, slots := 0, locals := 65 } : Room) s9 m9 (List.toArray [.ref (q 0)]) below meth c9 H locs 0 0 (MQ below (va_Ql (fun r (_ : Unit) => r = (o_digest M n lc)) (fun _ t9 => va_P D vwCl (moW q cI cJ (o_setI M 2 0)) t9.heap) A9) (List.toArray [.ref (q 0)]) s9 0 0 A9) (F0 m9 103 ls []) := by
                      intro d
                      induction d with
                      | zero =>
                        intro k x4 hf
                        intro hkn; exact absurd hf (by omega)
                      | succ d ih_103 =>
                        intro k x4 hf_103 hkn_103 e103 H locs ls hP hD hS hl
                        refine lv_iload_n hx hb dX5_digest_103 rfl (lv_at hl 2 rfl) ?_
                        refine lv_iconst (v := 5) hx hb dX5_digest_104 (by decide) ?_
                        refine lv_icmp_ge (tgt := 130) hx hb dX5_digest_105 (by decide) (fun c_105_7 => ?_) (fun c_105_7 => ?_)
                        · have c_105_7 : 5 ≤ (nI k) := c_105_7
                          have hke_103 : 5 = k := (k_exitN c_105_7 rfl hkn_103 (by decide)).symm
                          subst hke_103
                          refine lv_ldc2 (v := 31) hx hb hown (hts (.constantLong RX5 220 (31)) (List.mem_of_getElem? (i := 3) rfl)) dX5_digest_130 ?_
                          refine lv_lload_n hx hb dX5_digest_133 rfl (lv_at hl 1 rfl) ?_
                          refine lv_lmul hx hb dX5_digest_134 ?_
                          refine lv_aload_n hx hb dX5_digest_135 rfl (lv_at hl 0 rfl) ?_
                          refine va_get (D := D) (ci := 5) (v := .ref (q 1)) (C := RX5) (T := TX5) (N := 14) hx hb hts inX5 hown hK hP 0 rfl rfl 0 (by decide) (hts (.fieldLink RX5 7 "PumpOathsModel" "now" "[J") (List.mem_of_getElem? (i := 4) rfl)) (fun _ h9 => h9) rfl dX5_digest_136 ?_
                          refine lv_bipush (v := 12) hx hb dX5_digest_139 (by decide) ?_
                          refine va_lald (f := M.2.1 0) hx hb hK hP 1 1 rfl rfl (k_in (k := 12) rfl (by decide) (by decide)) dX5_digest_141 ?_
                          rw [show (12 : Int32).toNatClampNeg = 12 from rfl]
                          refine lv_ladd hx hb dX5_digest_142 ?_
                          refine lv_lstore_n (lv' := [(1, .long ((31 * x4) + ((M.2.1 0) 12))), (0, .ref (q 0)), (3, .int (nI 5))]) hx hb dX5_digest_143 rfl hl (by decide) rfl (fun ls hl => ?_)
                          refine lv_iconst (v := 0) hx hb dX5_digest_144 (by decide) ?_
                          refine lv_istore_n (lv' := [(3, .int 0), (1, .long ((31 * x4) + ((M.2.1 0) 12))), (0, .ref (q 0))]) hx hb dX5_digest_145 rfl hl (by decide) rfl (fun ls hl => ?_)
                          have L_146_8 : ∀ (d : Nat) (k : Nat) (x5 : Int64), 8 * n < k + d → k ≤ 8 * n → ∀  (e146 : itr (o_dgP M) k (31 * x4 + M.2.1 0 12) = x5) (H : Heap) (locs : List Loc) (ls : Array Slot), va_P D vwCl (moW q cI cJ (o_setI M 2 0)) H → va_D A9 (moW q cI cJ (o_setI M 2 0)) → va_S A9 s9.heap H locs → lv_has ls 4 [(0, .ref (q 0)), (1, .long x5), (3, .int (nI k))] → W p9 l e9 ({ frames := 3, cells := 0, slots := 0, locals := 65 } : Room) s9 m9 (List.toArray [.ref (q 0)]) below meth c9 H locs 0 0 (MQ below (va_Ql (fun r (_ : Unit) => r = (o_digest M n lc)) (fun _ t9 => va_P D vwCl (moW q cI cJ (o_setI M 2 0)) t9.heap) A9) (List.toArray [.ref (q 0)]) s9 0 0 A9) (F0 m9 146 ls []) := by
                            intro d
                            induction d with
                            | zero =>
                              intro k x5 hf
                              intro hkn; exact absurd hf (by omega)
                            | succ d ih_146 =>
                              intro k x5 hf_146 hkn_146 e146 H locs ls hP hD hS hl
                              refine lv_iload_n hx hb dX5_digest_146 rfl (lv_at hl 2 rfl) ?_
                              refine lv_i2l hx hb dX5_digest_147 rfl ?_
                              refine lv_ldc2 (v := 8) hx hb hown (hts (.constantLong RX5 222 (8)) (List.mem_of_getElem? (i := 5) rfl)) dX5_digest_148 ?_
                              refine lv_aload_n hx hb dX5_digest_151 rfl (lv_at hl 0 rfl) ?_
                              refine va_get (D := D) (ci := 5) (v := .ref (q 1)) (C := RX5) (T := TX5) (N := 14) hx hb hts inX5 hown hK hP 0 rfl rfl 0 (by decide) (hts (.fieldLink RX5 7 "PumpOathsModel" "now" "[J") (List.mem_of_getElem? (i := 4) rfl)) (fun _ h9 => h9) rfl dX5_digest_152 ?_
                              refine lv_bipush (v := 7) hx hb dX5_digest_155 (by decide) ?_
                              refine va_lald (f := M.2.1 0) hx hb hK hP 1 1 rfl rfl (k_in (k := 7) rfl (by decide) (by decide)) dX5_digest_157 ?_
                              rw [show (7 : Int32).toNatClampNeg = 7 from rfl]
                              refine lv_lmul hx hb dX5_digest_158 ?_
                              refine W.lcmp hx hb dX5_digest_159 ?_
                              refine lv_if_ge (tgt := 189) hx hb dX5_digest_160 (by decide) (fun c_160_9 => ?_) (fun c_160_9 => ?_)
                              · have c_160_9 : (8 * ((M.2.1 0) 7)) ≤ ((nI k).toInt64) := (lg_cmp_ge ((nI k).toInt64) (8 * ((M.2.1 0) 7))).mp c_160_9
                                have hke_146 : 8 * n = k := (k_exitL c_160_9 (by rw [hn, show (8 : Int64) = lN 8 from rfl, lN_mul]) hkn_146 (by omega)).symm
                                subst hke_146
                                refine lv_iconst (v := 0) hx hb dX5_digest_189 (by decide) ?_
                                refine lv_istore_n (lv' := [(3, .int 0), (0, .ref (q 0)), (1, .long x5)]) hx hb dX5_digest_190 rfl hl (by decide) rfl (fun ls hl => ?_)
                                have L_191_10 : ∀ (d : Nat) (k : Nat) (x6 : Int64), 3 * lc < k + d → k ≤ 3 * lc → ∀  (e191 : itr (o_dgW M 102) k x5 = x6) (H : Heap) (locs : List Loc) (ls : Array Slot), va_P D vwCl (moW q cI cJ (o_setI M 2 0)) H → va_D A9 (moW q cI cJ (o_setI M 2 0)) → va_S A9 s9.heap H locs → lv_has ls 4 [(0, .ref (q 0)), (1, .long x6), (3, .int (nI k))] → W p9 l e9 ({ frames := 3, cells := 0, slots := 0, locals := 65 } : Room) s9 m9 (List.toArray [.ref (q 0)]) below meth c9 H locs 0 0 (MQ below (va_Ql (fun r (_ : Unit) => r = (o_digest M n lc)) (fun _ t9 => va_P D vwCl (moW q cI cJ (o_setI M 2 0)) t9.heap) A9) (List.toArray [.ref (q 0)]) s9 0 0 A9) (F0 m9 191 ls []) := by
                                  intro d
                                  induction d with
                                  | zero =>
                                    intro k x6 hf
                                    intro hkn; exact absurd hf (by omega)
                                  | succ d ih_191 =>
                                    intro k x6 hf_191 hkn_191 e191 H locs ls hP hD hS hl
                                    refine lv_iload_n hx hb dX5_digest_191 rfl (lv_at hl 2 rfl) ?_
                                    refine lv_i2l hx hb dX5_digest_192 rfl ?_
                                    refine lv_ldc2 (v := 3) hx hb hown (hts (.constantLong RX5 224 (3)) (List.mem_of_getElem? (i := 6) rfl)) dX5_digest_193 ?_
                                    refine lv_aload_n hx hb dX5_digest_196 rfl (lv_at hl 0 rfl) ?_
                                    refine va_get (D := D) (ci := 5) (v := .ref (q 1)) (C := RX5) (T := TX5) (N := 14) hx hb hts inX5 hown hK hP 0 rfl rfl 0 (by decide) (hts (.fieldLink RX5 7 "PumpOathsModel" "now" "[J") (List.mem_of_getElem? (i := 4) rfl)) (fun _ h9 => h9) rfl dX5_digest_197 ?_
                                    refine lv_bipush (v := 13) hx hb dX5_digest_200 (by decide) ?_
                                    refine va_lald (f := M.2.1 0) hx hb hK hP 1 1 rfl rfl (k_in (k := 13) rfl (by decide) (by decide)) dX5_digest_202 ?_
                                    rw [show (13 : Int32).toNatClampNeg = 13 from rfl]
                                    refine lv_lmul hx hb dX5_digest_203 ?_
                                    refine W.lcmp hx hb dX5_digest_204 ?_
                                    refine lv_if_ge (tgt := 230) hx hb dX5_digest_205 (by decide) (fun c_205_11 => ?_) (fun c_205_11 => ?_)
                                    · have c_205_11 : (3 * ((M.2.1 0) 13)) ≤ ((nI k).toInt64) := (lg_cmp_ge ((nI k).toInt64) (3 * ((M.2.1 0) 13))).mp c_205_11
                                      have hke_191 : 3 * lc = k := (k_exitL c_205_11 (by rw [hlc, show (3 : Int64) = lN 3 from rfl, lN_mul]) hkn_191 (by omega)).symm
                                      subst hke_191
                                      refine lv_ldc2 (v := 31) hx hb hown (hts (.constantLong RX5 220 (31)) (List.mem_of_getElem? (i := 3) rfl)) dX5_digest_230 ?_
                                      refine lv_lload_n hx hb dX5_digest_233 rfl (lv_at hl 1 rfl) ?_
                                      refine lv_lmul hx hb dX5_digest_234 ?_
                                      refine lv_aload_n hx hb dX5_digest_235 rfl (lv_at hl 0 rfl) ?_
                                      refine va_get (D := D) (ci := 5) (v := .int (M.1 0)) (C := RX5) (T := TX5) (N := 14) hx hb hts inX5 hown hK hP 0 rfl rfl 3 (by decide) (hts (.fieldLink RX5 52 "PumpOathsModel" "states" "I") (List.mem_of_getElem? (i := 7) rfl)) (fun _ h9 => h9) rfl dX5_digest_236 ?_
                                      refine lv_i2l hx hb dX5_digest_239 rfl ?_
                                      refine lv_ladd hx hb dX5_digest_240 ?_
                                      exact k_lret hx hb hr hlk hP hS dX5_digest_241 (by rw [o_digest, e19, e45, e73, e103, e146, e191]) (fun h => h)
                                    · have c_205_11 : ¬ (3 * ((M.2.1 0) 13)) ≤ ((nI k).toInt64) := mt (lg_cmp_ge ((nI k).toInt64) (3 * ((M.2.1 0) 13))).mpr c_205_11
                                      have hkl_191 : k < 3 * lc := k_bodyL c_205_11 (by rw [hlc, show (3 : Int64) = lN 3 from rfl, lN_mul]) hkn_191 (by omega)
                                      refine lv_ldc2 (v := 31) hx hb hown (hts (.constantLong RX5 220 (31)) (List.mem_of_getElem? (i := 3) rfl)) dX5_digest_208 ?_
                                      refine lv_lload_n hx hb dX5_digest_211 rfl (lv_at hl 1 rfl) ?_
                                      refine lv_lmul hx hb dX5_digest_212 ?_
                                      refine lv_aload_n hx hb dX5_digest_213 rfl (lv_at hl 0 rfl) ?_
                                      refine va_get (D := D) (ci := 5) (v := .ref (q 1)) (C := RX5) (T := TX5) (N := 14) hx hb hts inX5 hown hK hP 0 rfl rfl 0 (by decide) (hts (.fieldLink RX5 7 "PumpOathsModel" "now" "[J") (List.mem_of_getElem? (i := 4) rfl)) (fun _ h9 => h9) rfl dX5_digest_214 ?_
                                      refine lv_bipush (v := 102) hx hb dX5_digest_217 (by decide) ?_
                                      refine lv_iload_n hx hb dX5_digest_219 rfl (lv_at hl 2 rfl) ?_
                                      refine lv_iadd hx hb dX5_digest_220 ?_
                                      refine va_lald (f := M.2.1 0) hx hb hK hP 1 1 rfl rfl (k_in (k := 102 + k) (show 102 + nI k = nI (102 + k) from nI_add 102 k) (by omega) (by decide)) dX5_digest_221 ?_
                                      rw [show (102 + (nI k) : Int32).toNatClampNeg = 102 + k from k_cl (show 102 + nI k = nI (102 + k) from nI_add 102 k) (by omega)]
                                      refine lv_ladd hx hb dX5_digest_222 ?_
                                      refine lv_lstore_n (lv' := [(1, .long ((31 * x6) + ((M.2.1 0) (102 + k)))), (0, .ref (q 0)), (3, .int (nI k))]) hx hb dX5_digest_223 rfl hl (by decide) rfl (fun ls hl => ?_)
                                      refine lv_iinc (v := (nI k) + 1) (lv' := [(3, .int ((nI k) + 1)), (1, .long ((31 * x6) + ((M.2.1 0) (102 + k)))), (0, .ref (q 0))]) hx hb dX5_digest_224 hl (k := 2) rfl rfl (by decide) rfl (fun ls hl => ?_)
                                      refine lv_goto (tgt := 191) hx hb dX5_digest_227 (by decide) ?_
                                      rw [show ((nI k) + 1) = (nI (k + 1)) from nI_1 _] at hl
                                      exact ih_191 (k + 1) ((31 * x6) + ((M.2.1 0) (102 + k))) (by omega) (by omega) (by rw [itr_s, e191]; simp [o_dgW, c_22_1, c_47_3, c_76_5, c_105_7, c_160_9, c_205_11]) _ _ _ hP hD hS (lv_sub hl [2, 1, 0] rfl)
                                exact L_191_10 (3 * lc + 1) 0 x5 (by omega) (by omega) (rfl) _ _ _ hP hD hS (lv_sub hl [1, 2, 0] rfl)
                              · have c_160_9 : ¬ (8 * ((M.2.1 0) 7)) ≤ ((nI k).toInt64) := mt (lg_cmp_ge ((nI k).toInt64) (8 * ((M.2.1 0) 7))).mpr c_160_9
                                have hkl_146 : k < 8 * n := k_bodyL c_160_9 (by rw [hn, show (8 : Int64) = lN 8 from rfl, lN_mul]) hkn_146 (by omega)
                                obtain ⟨i0, hi0, hwx⟩ := hperm (k / 8) (by omega)
                                rw [← nI_l (by omega)] at hwx
                                refine lv_ldc2 (v := 31) hx hb hown (hts (.constantLong RX5 220 (31)) (List.mem_of_getElem? (i := 3) rfl)) dX5_digest_163 ?_
                                refine lv_lload_n hx hb dX5_digest_166 rfl (lv_at hl 1 rfl) ?_
                                refine lv_lmul hx hb dX5_digest_167 ?_
                                refine lv_aload_n hx hb dX5_digest_168 rfl (lv_at hl 0 rfl) ?_
                                refine lv_iload_n hx hb dX5_digest_169 rfl (lv_at hl 2 rfl) ?_
                                refine lv_bipush (v := 8) hx hb dX5_digest_170 (by decide) ?_
                                refine lv_idiv hx hb dX5_digest_172 (by decide) ?_
                                rw [show (nI k) / 8 = nI (k / 8) from (by rw [show (8 : Int32) = nI 8 from rfl, pk_div (by omega) (by omega) (by omega)])]
                                refine lv_iload_n hx hb dX5_digest_173 rfl (lv_at hl 2 rfl) ?_
                                refine lv_bipush (v := 8) hx hb dX5_digest_174 (by decide) ?_
                                refine lv_irem hx hb dX5_digest_176 (by decide) ?_
                                rw [show (nI k) - (nI k) / 8 * 8 = nI (k % 8) from (by rw [show (8 : Int32) = nI 8 from rfl, pk_rem (by omega) (by omega) (by omega)])]
                                refine k_calli (a := []) (z := []) (wc := moW q cI cJ (o_setI M 2 0)) (wc' := moW q cI cJ (o_setI M 2 0)) (w' := moW q cI cJ (o_setI M 2 0)) (va_runV (As := [.int (nI (k / 8)), .int (nI (k % 8))]) (rest := [.long (31 * x5)]) ⟨hx, hb, hml, hown, hts⟩ (c_X5_pumpValue l D q cI cJ (o_setI M 2 0) (nI (k / 8)) (k % 8) n (by omega) (by rw [nI_clamp (by omega)]; omega) (by rw [nI_clamp (by omega)]) hn6 i0 hi0 hwx _) (cwV 2 hts gX5_digest_X5_pumpValue rfl rfl rfl (by decide +kernel) ⟨Nat.le_of_ble_eq_true rfl, Nat.le_of_ble_eq_true rfl⟩) ⟨kB_blind, va_recv hK hP (ci := 5) (q0 := 0) rfl rfl, k_pre (a := []) (z := []) (k_w0 _) hK hP hD⟩ rfl rfl hl.1 rfl (lv_room (Nat.le_of_ble_eq_true rfl)) dX5_digest_177 ⟨Nat.zero_le _, Nat.zero_le _⟩) (k_w0 _) (k_w0 _) (moW_ad _ _ _ _ _) hP hD hS hA (fun H locs hP hD hS => ?_)
                                refine lv_i2l hx hb dX5_digest_180 rfl ?_
                                refine lv_ladd hx hb dX5_digest_181 ?_
                                refine lv_lstore_n (lv' := [(1, .long ((31 * x5) + ((A_X5_pumpValue_r (o_setI M 2 0) (nI (k / 8)) (k % 8)).toInt64))), (0, .ref (q 0)), (3, .int (nI k))]) hx hb dX5_digest_182 rfl hl (by decide) rfl (fun ls hl => ?_)
                                refine lv_iinc (v := (nI k) + 1) (lv' := [(3, .int ((nI k) + 1)), (1, .long ((31 * x5) + ((A_X5_pumpValue_r (o_setI M 2 0) (nI (k / 8)) (k % 8)).toInt64))), (0, .ref (q 0))]) hx hb dX5_digest_183 hl (k := 2) rfl rfl (by decide) rfl (fun ls hl => ?_)
                                refine lv_goto (tgt := 146) hx hb dX5_digest_186 (by decide) ?_
                                rw [show ((nI k) + 1) = (nI (k + 1)) from nI_1 _] at hl
                                exact ih_146 (k + 1) ((31 * x5) + ((A_X5_pumpValue_r (o_setI M 2 0) (nI (k / 8)) (k % 8)).toInt64)) (by omega) (by omega) (by rw [itr_s, e146]; simp [o_dgP, c_22_1, c_47_3, c_76_5, c_105_7, c_160_9]) _ _ _ hP hD hS (lv_sub hl [2, 1, 0] rfl)
                          exact L_146_8 (8 * n + 1) 0 ((31 * x4) + ((M.2.1 0) 12)) (by omega) (by omega) (rfl) _ _ _ hP hD hS (lv_sub hl [2, 1, 0] rfl)
                        · have c_105_7 : ¬ 5 ≤ (nI k) := c_105_7
                          have hkl_103 : k < 5 := k_bodyN c_105_7 rfl hkn_103 (by decide)
                          refine lv_ldc2 (v := 31) hx hb hown (hts (.constantLong RX5 220 (31)) (List.mem_of_getElem? (i := 3) rfl)) dX5_digest_108 ?_
                          refine lv_lload_n hx hb dX5_digest_111 rfl (lv_at hl 1 rfl) ?_
                          refine lv_lmul hx hb dX5_digest_112 ?_
                          refine lv_aload_n hx hb dX5_digest_113 rfl (lv_at hl 0 rfl) ?_
                          refine va_get (D := D) (ci := 5) (v := .ref (q 1)) (C := RX5) (T := TX5) (N := 14) hx hb hts inX5 hown hK hP 0 rfl rfl 0 (by decide) (hts (.fieldLink RX5 7 "PumpOathsModel" "now" "[J") (List.mem_of_getElem? (i := 4) rfl)) (fun _ h9 => h9) rfl dX5_digest_114 ?_
                          refine lv_bipush (v := 14) hx hb dX5_digest_117 (by decide) ?_
                          refine lv_iload_n hx hb dX5_digest_119 rfl (lv_at hl 2 rfl) ?_
                          refine lv_iadd hx hb dX5_digest_120 ?_
                          refine va_lald (f := M.2.1 0) hx hb hK hP 1 1 rfl rfl (k_in (k := 14 + k) (show 14 + nI k = nI (14 + k) from nI_add 14 k) (by omega) (by decide)) dX5_digest_121 ?_
                          rw [show (14 + (nI k) : Int32).toNatClampNeg = 14 + k from k_cl (show 14 + nI k = nI (14 + k) from nI_add 14 k) (by omega)]
                          refine lv_ladd hx hb dX5_digest_122 ?_
                          refine lv_lstore_n (lv' := [(1, .long ((31 * x4) + ((M.2.1 0) (14 + k)))), (0, .ref (q 0)), (3, .int (nI k))]) hx hb dX5_digest_123 rfl hl (by decide) rfl (fun ls hl => ?_)
                          refine lv_iinc (v := (nI k) + 1) (lv' := [(3, .int ((nI k) + 1)), (1, .long ((31 * x4) + ((M.2.1 0) (14 + k)))), (0, .ref (q 0))]) hx hb dX5_digest_124 hl (k := 2) rfl rfl (by decide) rfl (fun ls hl => ?_)
                          refine lv_goto (tgt := 103) hx hb dX5_digest_127 (by decide) ?_
                          rw [show ((nI k) + 1) = (nI (k + 1)) from nI_1 _] at hl
                          exact ih_103 (k + 1) ((31 * x4) + ((M.2.1 0) (14 + k))) (by omega) (by omega) (by rw [itr_s, e103]; simp [o_dgW, c_22_1, c_47_3, c_76_5, c_105_7]) _ _ _ hP hD hS (lv_sub hl [2, 1, 0] rfl)
                    exact L_103_6 (5 + 1) 0 x3 (by omega) (by omega) (rfl) _ _ _ hP hD hS (lv_sub hl [1, 2, 0] rfl)
                  · have c_76_5 : ¬ 24 ≤ (nI k) := c_76_5
                    have hkl_73 : k < 24 := k_bodyN c_76_5 rfl hkn_73 (by decide)
                    refine lv_ldc2 (v := 31) hx hb hown (hts (.constantLong RX5 220 (31)) (List.mem_of_getElem? (i := 3) rfl)) dX5_digest_79 ?_
                    refine lv_lload_n hx hb dX5_digest_82 rfl (lv_at hl 1 rfl) ?_
                    refine lv_lmul hx hb dX5_digest_83 ?_
                    refine lv_aload_n hx hb dX5_digest_84 rfl (lv_at hl 0 rfl) ?_
                    refine va_get (D := D) (ci := 5) (v := .ref (q 1)) (C := RX5) (T := TX5) (N := 14) hx hb hts inX5 hown hK hP 0 rfl rfl 0 (by decide) (hts (.fieldLink RX5 7 "PumpOathsModel" "now" "[J") (List.mem_of_getElem? (i := 4) rfl)) (fun _ h9 => h9) rfl dX5_digest_85 ?_
                    refine lv_bipush (v := 24) hx hb dX5_digest_88 (by decide) ?_
                    refine lv_iload_n hx hb dX5_digest_90 rfl (lv_at hl 2 rfl) ?_
                    refine lv_iadd hx hb dX5_digest_91 ?_
                    refine va_lald (f := M.2.1 0) hx hb hK hP 1 1 rfl rfl (k_in (k := 24 + k) (show 24 + nI k = nI (24 + k) from nI_add 24 k) (by omega) (by decide)) dX5_digest_92 ?_
                    rw [show (24 + (nI k) : Int32).toNatClampNeg = 24 + k from k_cl (show 24 + nI k = nI (24 + k) from nI_add 24 k) (by omega)]
                    refine lv_ladd hx hb dX5_digest_93 ?_
                    refine lv_lstore_n (lv' := [(1, .long ((31 * x3) + ((M.2.1 0) (24 + k)))), (0, .ref (q 0)), (3, .int (nI k))]) hx hb dX5_digest_94 rfl hl (by decide) rfl (fun ls hl => ?_)
                    refine lv_iinc (v := (nI k) + 1) (lv' := [(3, .int ((nI k) + 1)), (1, .long ((31 * x3) + ((M.2.1 0) (24 + k)))), (0, .ref (q 0))]) hx hb dX5_digest_95 hl (k := 2) rfl rfl (by decide) rfl (fun ls hl => ?_)
                    refine lv_goto (tgt := 73) hx hb dX5_digest_98 (by decide) ?_
                    rw [show ((nI k) + 1) = (nI (k + 1)) from nI_1 _] at hl
                    exact ih_73 (k + 1) ((31 * x3) + ((M.2.1 0) (24 + k))) (by omega) (by omega) (by rw [itr_s, e73]; simp [o_dgW, c_22_1, c_47_3, c_76_5]) _ _ _ hP hD hS (lv_sub hl [2, 1, 0] rfl)
              exact L_73_4 (24 + 1) 0 x2 (by omega) (by omega) (rfl) _ _ _ hP hD hS (lv_sub hl [1, 2, 0] rfl)
            · have c_47_3 : ¬ 3 ≤ (nI k) := c_47_3
              have hkl_45 : k < 3 := k_bodyN c_47_3 rfl hkn_45 (by decide)
              refine lv_ldc2 (v := 31) hx hb hown (hts (.constantLong RX5 220 (31)) (List.mem_of_getElem? (i := 3) rfl)) dX5_digest_50 ?_
              refine lv_lload_n hx hb dX5_digest_53 rfl (lv_at hl 1 rfl) ?_
              refine lv_lmul hx hb dX5_digest_54 ?_
              refine lv_aload_n hx hb dX5_digest_55 rfl (lv_at hl 0 rfl) ?_
              refine va_get (D := D) (ci := 5) (v := .ref (q 1)) (C := RX5) (T := TX5) (N := 14) hx hb hts inX5 hown hK hP 0 rfl rfl 0 (by decide) (hts (.fieldLink RX5 7 "PumpOathsModel" "now" "[J") (List.mem_of_getElem? (i := 4) rfl)) (fun _ h9 => h9) rfl dX5_digest_56 ?_
              refine lv_iconst (v := 4) hx hb dX5_digest_59 (by decide) ?_
              refine lv_iload_n hx hb dX5_digest_60 rfl (lv_at hl 2 rfl) ?_
              refine lv_iadd hx hb dX5_digest_61 ?_
              refine va_lald (f := M.2.1 0) hx hb hK hP 1 1 rfl rfl (k_in (k := 4 + k) (show 4 + nI k = nI (4 + k) from nI_add 4 k) (by omega) (by decide)) dX5_digest_62 ?_
              rw [show (4 + (nI k) : Int32).toNatClampNeg = 4 + k from k_cl (show 4 + nI k = nI (4 + k) from nI_add 4 k) (by omega)]
              refine lv_ladd hx hb dX5_digest_63 ?_
              refine lv_lstore_n (lv' := [(1, .long ((31 * x2) + ((M.2.1 0) (4 + k)))), (0, .ref (q 0)), (3, .int (nI k))]) hx hb dX5_digest_64 rfl hl (by decide) rfl (fun ls hl => ?_)
              refine lv_iinc (v := (nI k) + 1) (lv' := [(3, .int ((nI k) + 1)), (1, .long ((31 * x2) + ((M.2.1 0) (4 + k)))), (0, .ref (q 0))]) hx hb dX5_digest_65 hl (k := 2) rfl rfl (by decide) rfl (fun ls hl => ?_)
              refine lv_goto (tgt := 45) hx hb dX5_digest_68 (by decide) ?_
              rw [show ((nI k) + 1) = (nI (k + 1)) from nI_1 _] at hl
              exact ih_45 (k + 1) ((31 * x2) + ((M.2.1 0) (4 + k))) (by omega) (by omega) (by rw [itr_s, e45]; simp [o_dgW, c_22_1, c_47_3]) _ _ _ hP hD hS (lv_sub hl [2, 1, 0] rfl)
        exact L_45_2 (3 + 1) 0 x1 (by omega) (by omega) (rfl) _ _ _ hP hD hS (lv_sub hl [1, 2, 0] rfl)
      · have c_22_1 : ¬ 14 ≤ (nI k) := c_22_1
        have hkl_19 : k < 14 := k_bodyN c_22_1 rfl hkn_19 (by decide)
        refine lv_ldc2 (v := 31) hx hb hown (hts (.constantLong RX5 220 (31)) (List.mem_of_getElem? (i := 3) rfl)) dX5_digest_25 ?_
        refine lv_lload_n hx hb dX5_digest_28 rfl (lv_at hl 1 rfl) ?_
        refine lv_lmul hx hb dX5_digest_29 ?_
        refine lv_aload_n hx hb dX5_digest_30 rfl (lv_at hl 0 rfl) ?_
        refine lv_iload_n hx hb dX5_digest_31 rfl (lv_at hl 2 rfl) ?_
        refine k_calll (a := []) (z := []) (wc := moW q cI cJ (o_setI M 2 0)) (wc' := moW q cI cJ (o_setI M 2 0)) (w' := moW q cI cJ (o_setI M 2 0)) (va_runV (As := [.int (nI k)]) (rest := [.long (31 * x1)]) ⟨hx, hb, hml, hown, hts⟩ (c_X5_one l D q cI cJ (o_setI M 2 0) (nI k) n hn hn6 _) (cwV 1 hts gX5_digest_X5_one rfl rfl rfl (by decide +kernel) ⟨Nat.le_of_ble_eq_true rfl, Nat.le_of_ble_eq_true rfl⟩) ⟨kB_blind, va_recv hK hP (ci := 5) (q0 := 0) rfl rfl, k_pre (a := []) (z := []) (k_w0 _) hK hP hD⟩ rfl rfl hl.1 rfl (lv_room (Nat.le_of_ble_eq_true rfl)) dX5_digest_32 ⟨Nat.zero_le _, Nat.zero_le _⟩) (k_w0 _) (k_w0 _) (moW_ad _ _ _ _ _) hP hD hS hA (fun H locs hP hD hS => ?_)
        refine lv_ladd hx hb dX5_digest_35 ?_
        refine lv_lstore_n (lv' := [(1, .long ((31 * x1) + (A_X5_one_r (o_setI M 2 0) n (nI k)))), (0, .ref (q 0)), (3, .int (nI k))]) hx hb dX5_digest_36 rfl hl (by decide) rfl (fun ls hl => ?_)
        refine lv_iinc (v := (nI k) + 1) (lv' := [(3, .int ((nI k) + 1)), (1, .long ((31 * x1) + (A_X5_one_r (o_setI M 2 0) n (nI k)))), (0, .ref (q 0))]) hx hb dX5_digest_37 hl (k := 2) rfl rfl (by decide) rfl (fun ls hl => ?_)
        refine lv_goto (tgt := 19) hx hb dX5_digest_40 (by decide) ?_
        rw [show ((nI k) + 1) = (nI (k + 1)) from nI_1 _] at hl
        exact ih_19 (k + 1) ((31 * x1) + (A_X5_one_r (o_setI M 2 0) n (nI k))) (by omega) (by omega) (by rw [itr_s, e19]; simp [o_dgN, c_22_1]) _ _ _ hP hD hS (lv_sub hl [2, 1, 0] rfl)
  exact L_19_0 (14 + 1) 0 (113863 + ((M.1 1).toInt64)) (by omega) (by omega) (rfl) _ _ _ hP hD hS (lv_sub hl [2, 1, 0] rfl)
