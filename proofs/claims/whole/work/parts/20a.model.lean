/-! THE MODEL'S ROW -/
abbrev rwW (a : Nat) (cJ : ClassId) (w : Nat → Int64) : va_W := [(a, .inl (cJ, 138, .inr (.inl w)))]
theorem rwW_ad (a : Nat) (cJ : ClassId) (w v : Nat → Int64) : (rwW a cJ w).map Prod.fst = (rwW a cJ v).map Prod.fst := rfl
theorem k_p (X c : Nat) : (48 + 8 * nI X + nI c : Int32) = nI (48 + 8 * X + c) := by
  rw [show (48 : Int32) = nI 48 from rfl, show (8 : Int32) = nI 8 from rfl, pk_mul, nI_add, nI_add]
theorem k_bodyL {k n : Nat} {c : Int64} (h : ¬ c ≤ (nI k).toInt64) (hc : c = lN n) (hk : k ≤ n) (hn : n ≤ 1000000) : k < n := by
  subst hc
  rcases Nat.lt_or_ge k n with q | q
  · exact q
  · exact absurd (by rw [nI_l (by omega)]; exact (lN_le (by omega) (by omega)).mpr q) h
theorem k_exitL {k n : Nat} {c : Int64} (h : c ≤ (nI k).toInt64) (hc : c = lN n) (hk : k ≤ n) (hn : n ≤ 1000000) : k = n := by
  subst hc
  rw [nI_l (by omega), lN_le (by omega) (by omega)] at h
  omega
theorem lN_cl {j : Nat} (h : j < 2 ^ 63) : (lN j).toNatClampNeg = j := by
  have h1 := pk_lT h
  simp only [Int64.toNatClampNeg]
  rw [h1]
  rfl
def m_in (x y z : Int64) : Bool := decide (¬ x < y ∧ ¬ z < x)
def m_least (x y : Int64) : Int64 := if y ≤ x then y else x
def m_bal (w : Nat → Int64) : Int64 := w 1 - w 14 + w 15 + w 16
def m_cntB (w : Nat → Int64) (v : Int32) (k : Nat) (r : Int32) : Int32 := if w (48 + 8 * k + 2) = v.toInt64 then r + 1 else r + 0
def m_many (w : Nat → Int64) (n : Nat) (v : Int32) : Int32 := itr (m_cntB w v) n 0
theorem m_many_pos {w : Nat → Int64} {n : Nat} {v : Int32} (h : ¬ m_many w n v = 0) : 1 ≤ n := by
  rcases Nat.eq_zero_or_pos n with q | q
  · subst q; exact absurd rfl h
  · exact q
def m_offB (k : Nat) (f : Nat → Int64) : Nat → Int64 := vp_updL f (48 + 8 * k + 2) (if f (48 + 8 * k + 2) = 1 then 0 else f (48 + 8 * k + 2))
def m_shB (k : Nat) (f : Nat → Int64) : Nat → Int64 := vp_updL f (96 + k) (f (96 + k + 1))
def m_rest1 (w : Nat → Int64) (n : Nat) : Nat → Int64 := itr m_offB n w
def m_rest (w : Nat → Int64) (n : Nat) : Nat → Int64 := if m_many w n 1 = 0 then w else vp_updL (itr m_shB (n - 1) (m_rest1 w n)) (96 + (n - 1)) (m_rest1 w n 96)
def m_q (w : Nat → Int64) (k : Nat) : Nat := (w (96 + k)).toNatClampNeg
def m_fits (w : Nat → Int64) (v : Int32) (k : Nat) : Bool := decide (w (48 + 8 * m_q w k + 2) = 0 ∧ (¬ v = 0 ∨ ¬ w (48 + 8 * m_q w k + 1) ≤ w (48 + 8 * m_q w k + 3)))
def m_foAt (w : Nat → Int64) (n : Nat) (v : Int32) : Nat := frst (m_fits w v) n
def m_fo (w : Nat → Int64) (n : Nat) (v : Int32) : Int32 := if m_foAt w n v < n then nI (m_q w (m_foAt w n v)) else -1
def m_wantP (w : Nat → Int64) (k : Nat) : Bool := decide (w 2 - (nI k).toInt64 * w 4 ≤ w 1)
def m_want (w : Nat → Int64) (n : Nat) : Nat := frst (m_wantP w) n
def m_starter (w : Nat → Int64) (n : Nat) : Int32 := if m_many w n 1 < nI (m_want w n) then (if m_fo w n 0 = -1 ∧ w 6 = 1 then m_fo w n 1 else m_fo w n 0) else -1
def m_logB (i : Nat) (f : Nat → Int64) : Nat → Int64 := vp_updL f (137 - i) (f (134 - i))
def m_logF (w : Nat → Int64) : Nat → Int64 := itr m_logB 33 w
def m_log3 (g : Nat → Int64) (j : Nat) : Nat → Int64 := vp_updL (vp_updL (vp_updL g 102 (nI j).toInt64) 103 (g 8)) 104 (g (48 + 8 * j + 3))
def m_logs (w : Nat → Int64) (j : Nat) : Nat → Int64 := vp_updL (m_log3 (m_logF w) j) 13 (m_logF w 13 + (if 12 ≤ m_logF w 13 then 0 else 1))
def m_st1 (w : Nat → Int64) (j : Nat) : Nat → Int64 := vp_updL (vp_updL (vp_updL w (48 + 8 * j + 2) 1) (48 + 8 * j + 3) (w (48 + 8 * j + 3) + 1)) (48 + 8 * j + 4) (w (48 + 8 * j + 4) + 1)
def m_start (w : Nat → Int64) (j : Nat) : Nat → Int64 := if w (48 + 8 * j + 3) < w (48 + 8 * j + 1) then m_st1 w j else m_logs (vp_updL (vp_updL (m_st1 w j) (48 + 8 * j + 6) (w (48 + 8 * j + 6) + 1)) 9 (w 9 + 1)) j
def m_flB (k : Nat) (f : Nat → Int64) : Nat → Int64 := if f (48 + 8 * k + 2) = 1 then vp_updL (vp_updL (vp_updL f 14 (f 14 + f (48 + 8 * k + 0))) 1 (f 1 + f (48 + 8 * k + 0))) (48 + 8 * k + 5) (f (48 + 8 * k + 5) + 1) else f
def m_fl0 (w : Nat → Int64) (n : Nat) : Nat → Int64 := itr m_flB n w
def m_fl1 (g : Nat → Int64) (h : Nat) : Nat → Int64 :=
  vp_updL (vp_updL (vp_updL (vp_updL (vp_updL g 15 (g 15 + (g 1 - m_least (g 1) (g 0)))) 16 (g 16 + m_least (m_least (g 1) (g 0)) (g (24 + h)))) 17 (g 17 + (g (24 + h) - m_least (m_least (g 1) (g 0)) (g (24 + h))))) 18 (g 18 + m_least (m_least (g 1) (g 0) - m_least (m_least (g 1) (g 0)) (g (24 + h))) (g 5))) 1 (m_least (g 1) (g 0) - m_least (m_least (g 1) (g 0)) (g (24 + h)) - m_least (m_least (g 1) (g 0) - m_least (m_least (g 1) (g 0)) (g (24 + h))) (g 5))
def m_flow (w : Nat → Int64) (n h : Nat) : Nat → Int64 := m_fl1 (m_fl0 w n) h
def m_placeP (w : Nat → Int64) (x : Int32) (k : Nat) : Bool := decide (w (96 + k) = x.toInt64)
def m_place (w : Nat → Int64) (x : Int32) : Nat := frst (m_placeP w x) 6

set_option maxHeartbeats 1000000 in
set_option maxRecDepth 100000 in
theorem c_X5_p (l : Launch) (D : va_G) (cI cJ : ClassId) (x y : Int32)  : kI l yX5_p wsX5_p ({ frames := 0, cells := 0, slots := 0, locals := 0 } : Room) D [(cI, .int), (cJ, .long)] [.int x, .int y] ([]) (48 + 8 * x + y) ([]) := by
  refine kBody.met (cc := cX5_p) (maxL := 2) (ret := (some .int)) (by decide) rfl (Nat.le_of_ble_eq_true rfl) ?_
  intro p9 e9 s9 m9 below meth c9 A9 ls hx hb hr hml hts hown hlk hK hP hD hA hl
  have hown : s9.vm.findClass RX5 = some m9.cls := hown
  have hS : va_S A9 s9.heap s9.heap [] := va_S.rf
  have hl : lv_has ls 2 [(0, .int x), (1, .int y)] := hl
  refine lv_bipush (v := 48) hx hb dX5_p_0 (by decide) ?_
  refine lv_bipush (v := 8) hx hb dX5_p_2 (by decide) ?_
  refine lv_iload_n hx hb dX5_p_4 rfl (lv_at hl 0 rfl) ?_
  refine lv_imul hx hb dX5_p_5 ?_
  refine lv_iadd hx hb dX5_p_6 ?_
  refine lv_iload_n hx hb dX5_p_7 rfl (lv_at hl 1 rfl) ?_
  refine lv_iadd hx hb dX5_p_8 ?_
  exact k_iret hx hb hr hlk hP hS dX5_p_9 rfl rfl (fun h => h)

set_option maxHeartbeats 1000000 in
set_option maxRecDepth 100000 in
theorem c_X5_least (l : Launch) (D : va_G) (cI cJ : ClassId) (x y : Int64)  : kL l yX5_least wsX5_least ({ frames := 0, cells := 0, slots := 0, locals := 0 } : Room) D [(cI, .int), (cJ, .long)] [.long x, .long y] ([]) (m_least x y) ([]) := by
  refine kBody.met (cc := cX5_least) (maxL := 4) (ret := (some .long)) (by decide) rfl (Nat.le_of_ble_eq_true rfl) ?_
  intro p9 e9 s9 m9 below meth c9 A9 ls hx hb hr hml hts hown hlk hK hP hD hA hl
  have hown : s9.vm.findClass RX5 = some m9.cls := hown
  have hS : va_S A9 s9.heap s9.heap [] := va_S.rf
  have hl : lv_has ls 4 [(0, .long x), (2, .long y)] := hl
  refine lv_lload_n hx hb dX5_least_0 rfl (lv_at hl 0 rfl) ?_
  refine lv_lload_n hx hb dX5_least_1 rfl (lv_at hl 1 rfl) ?_
  refine W.lcmp hx hb dX5_least_2 ?_
  refine lv_if_ge (tgt := 10) hx hb dX5_least_3 (by decide) (fun c_3_0 => ?_) (fun c_3_0 => ?_)
  · have c_3_0 : y ≤ x := (lg_cmp_ge x y).mp c_3_0
    refine lv_lload_n hx hb dX5_least_10 rfl (lv_at hl 1 rfl) ?_
    exact k_lret hx hb hr hlk hP hS dX5_least_11 (by first | rfl | (simp only [m_least, c_3_0]; done) | (simp [m_least, c_3_0]; done)) (fun h => h)
  · have c_3_0 : ¬ y ≤ x := mt (lg_cmp_ge x y).mpr c_3_0
    refine lv_lload_n hx hb dX5_least_6 rfl (lv_at hl 0 rfl) ?_
    refine lv_goto (tgt := 11) hx hb dX5_least_7 (by decide) ?_
    exact k_lret hx hb hr hlk hP hS dX5_least_11 (by first | rfl | (simp only [m_least, c_3_0]; done) | (simp [m_least, c_3_0]; done)) (fun h => h)

set_option maxHeartbeats 1000000 in
set_option maxRecDepth 100000 in
theorem c_X5_in (l : Launch) (D : va_G) (cI cJ : ClassId) (x y z : Int64)  : kI l yX5_in wsX5_in ({ frames := 0, cells := 0, slots := 0, locals := 0 } : Room) D [(cI, .int), (cJ, .long)] [.long x, .long y, .long z] ([]) (bi (m_in x y z)) ([]) := by
  refine kBody.met (cc := cX5_in) (maxL := 6) (ret := (some .boolean)) (by decide) rfl (Nat.le_of_ble_eq_true rfl) ?_
  intro p9 e9 s9 m9 below meth c9 A9 ls hx hb hr hml hts hown hlk hK hP hD hA hl
  have hown : s9.vm.findClass RX5 = some m9.cls := hown
  have hS : va_S A9 s9.heap s9.heap [] := va_S.rf
  have hl : lv_has ls 6 [(0, .long x), (2, .long y), (4, .long z)] := hl
  refine lv_lload_n hx hb dX5_in_0 rfl (lv_at hl 0 rfl) ?_
  refine lv_lload_n hx hb dX5_in_1 rfl (lv_at hl 1 rfl) ?_
  refine W.lcmp hx hb dX5_in_2 ?_
  refine lv_if_lt (tgt := 17) hx hb dX5_in_3 (by decide) (fun c_3_0 => ?_) (fun c_3_0 => ?_)
  · have c_3_0 : x < y := (lg_cmp_lt x y).mp c_3_0
    refine lv_iconst (v := 0) hx hb dX5_in_17 (by decide) ?_
    exact k_iret hx hb hr hlk hP hS dX5_in_18 rfl (by simp [m_in, bi, c_3_0]) (fun h => h)
  · have c_3_0 : ¬ x < y := mt (lg_cmp_lt x y).mpr c_3_0
    refine lv_lload_n hx hb dX5_in_6 rfl (lv_at hl 0 rfl) ?_
    refine lv_lload hx hb dX5_in_7 (lv_at hl 2 rfl) ?_
    refine W.lcmp hx hb dX5_in_9 ?_
    refine lv_if_gt (tgt := 17) hx hb dX5_in_10 (by decide) (fun c_10_1 => ?_) (fun c_10_1 => ?_)
    · have c_10_1 : z < x := (lg_cmp_gt x z).mp c_10_1
      refine lv_iconst (v := 0) hx hb dX5_in_17 (by decide) ?_
      exact k_iret hx hb hr hlk hP hS dX5_in_18 rfl (by simp [m_in, bi, c_3_0, c_10_1]) (fun h => h)
    · have c_10_1 : ¬ z < x := mt (lg_cmp_gt x z).mpr c_10_1
      refine lv_iconst (v := 1) hx hb dX5_in_13 (by decide) ?_
      refine lv_goto (tgt := 18) hx hb dX5_in_14 (by decide) ?_
      exact k_iret hx hb hr hlk hP hS dX5_in_18 rfl (by simp [m_in, bi, c_3_0, c_10_1]) (fun h => h)

set_option maxHeartbeats 1000000 in
set_option maxRecDepth 100000 in
theorem c_X5_balance (l : Launch) (D : va_G) (a : Nat) (cI cJ : ClassId) (w : Nat → Int64)  : kL l yX5_balance wsX5_balance ({ frames := 0, cells := 0, slots := 0, locals := 0 } : Room) D [(cI, .int), (cJ, .long)] [.ref a] (rwW a cJ w) (m_bal w) (rwW a cJ w) := by
  refine kBody.met (cc := cX5_balance) (maxL := 1) (ret := (some .long)) (by decide) rfl (Nat.le_of_ble_eq_true rfl) ?_
  intro p9 e9 s9 m9 below meth c9 A9 ls hx hb hr hml hts hown hlk hK hP hD hA hl
  have hown : s9.vm.findClass RX5 = some m9.cls := hown
  have hS : va_S A9 s9.heap s9.heap [] := va_S.rf
  have hl : lv_has ls 1 [(0, .ref a)] := hl
  refine lv_aload_n hx hb dX5_balance_0 rfl (lv_at hl 0 rfl) ?_
  refine lv_iconst (v := 1) hx hb dX5_balance_1 (by decide) ?_
  refine va_lald (f := w) hx hb hK hP 0 1 rfl rfl (k_in (k := 1) rfl (by decide) (by decide)) dX5_balance_2 ?_
  rw [show (1 : Int32).toNatClampNeg = 1 from rfl]
  refine lv_aload_n hx hb dX5_balance_3 rfl (lv_at hl 0 rfl) ?_
  refine lv_bipush (v := 14) hx hb dX5_balance_4 (by decide) ?_
  refine va_lald (f := w) hx hb hK hP 0 1 rfl rfl (k_in (k := 14) rfl (by decide) (by decide)) dX5_balance_6 ?_
  rw [show (14 : Int32).toNatClampNeg = 14 from rfl]
  refine lv_lsub hx hb dX5_balance_7 ?_
  refine lv_aload_n hx hb dX5_balance_8 rfl (lv_at hl 0 rfl) ?_
  refine lv_bipush (v := 15) hx hb dX5_balance_9 (by decide) ?_
  refine va_lald (f := w) hx hb hK hP 0 1 rfl rfl (k_in (k := 15) rfl (by decide) (by decide)) dX5_balance_11 ?_
  rw [show (15 : Int32).toNatClampNeg = 15 from rfl]
  refine lv_ladd hx hb dX5_balance_12 ?_
  refine lv_aload_n hx hb dX5_balance_13 rfl (lv_at hl 0 rfl) ?_
  refine lv_bipush (v := 16) hx hb dX5_balance_14 (by decide) ?_
  refine va_lald (f := w) hx hb hK hP 0 1 rfl rfl (k_in (k := 16) rfl (by decide) (by decide)) dX5_balance_16 ?_
  rw [show (16 : Int32).toNatClampNeg = 16 from rfl]
  refine lv_ladd hx hb dX5_balance_17 ?_
  exact k_lret hx hb hr hlk hP hS dX5_balance_18 rfl (fun h => h)

set_option maxHeartbeats 1000000 in
set_option maxRecDepth 100000 in
theorem c_X5_many (l : Launch) (D : va_G) (a : Nat) (cI cJ : ClassId) (w : Nat → Int64) (v : Int32) (n : Nat) (hn : w 7 = lN n) (hn6 : n ≤ 6) : kI l yX5_many wsX5_many ({ frames := 1, cells := 0, slots := 0, locals := 21 } : Room) D [(cI, .int), (cJ, .long)] [.ref a, .int v] (rwW a cJ w) (m_many w n v) (rwW a cJ w) := by
  refine kBody.met (cc := cX5_many) (maxL := 4) (ret := (some .int)) (by decide) rfl (Nat.le_of_ble_eq_true rfl) ?_
  intro p9 e9 s9 m9 below meth c9 A9 ls hx hb hr hml hts hown hlk hK hP hD hA hl
  have hown : s9.vm.findClass RX5 = some m9.cls := hown
  have hS : va_S A9 s9.heap s9.heap [] := va_S.rf
  have hl : lv_has ls 4 [(0, .ref a), (1, .int v)] := hl
  refine lv_iconst (v := 0) hx hb dX5_many_0 (by decide) ?_
  refine lv_istore_n (lv' := [(2, .int 0), (0, .ref a), (1, .int v)]) hx hb dX5_many_1 rfl hl (by decide) rfl (fun ls hl => ?_)
  refine lv_iconst (v := 0) hx hb dX5_many_2 (by decide) ?_
  refine lv_istore_n (lv' := [(3, .int 0), (2, .int 0), (0, .ref a), (1, .int v)]) hx hb dX5_many_3 rfl hl (by decide) rfl (fun ls hl => ?_)
  have L_4_0 : ∀ (d : Nat) (k : Nat) (x : Int32), n < k + d → k ≤ n → ∀  (e4 : itr (m_cntB w v) k 0 = x) (H : Heap) (locs : List Loc) (ls : Array Slot), va_P D vwCl (rwW a cJ w) H → va_D A9 (rwW a cJ w) → va_S A9 s9.heap H locs → lv_has ls 4 [(0, .ref a), (1, .int v), (2, .int x), (3, .int (nI k))] → W p9 l e9 ({ frames := 1, cells := 0, slots := 0, locals := 21 } : Room) s9 m9 (List.toArray [.ref a, .int v]) below meth c9 H locs 0 0 (MQ below (va_Qi (fun r (_ : Unit) => r = (m_many w n v)) (fun _ t9 => va_P D vwCl (rwW a cJ w) t9.heap) A9) (List.toArray [.ref a, .int v]) s9 0 0 A9) (F0 m9 4 ls []) := by
    intro d
    induction d with
    | zero =>
      intro k x hf
      intro hkn; exact absurd hf (by omega)
    | succ d ih_4 =>
      intro k x hf_4 hkn_4 e4 H locs ls hP hD hS hl
      refine lv_iload_n hx hb dX5_many_4 rfl (lv_at hl 3 rfl) ?_
      refine lv_i2l hx hb dX5_many_5 rfl ?_
      refine lv_aload_n hx hb dX5_many_6 rfl (lv_at hl 0 rfl) ?_
      refine lv_bipush (v := 7) hx hb dX5_many_7 (by decide) ?_
      refine va_lald (f := w) hx hb hK hP 0 1 rfl rfl (k_in (k := 7) rfl (by decide) (by decide)) dX5_many_9 ?_
      rw [show (7 : Int32).toNatClampNeg = 7 from rfl]
      refine W.lcmp hx hb dX5_many_10 ?_
      refine lv_if_ge (tgt := 41) hx hb dX5_many_11 (by decide) (fun c_11_1 => ?_) (fun c_11_1 => ?_)
      · have c_11_1 : (w 7) ≤ ((nI k).toInt64) := (lg_cmp_ge ((nI k).toInt64) (w 7)).mp c_11_1
        have hke_4 : n = k := (k_exitL c_11_1 hn hkn_4 (by omega)).symm
        subst hke_4
        refine lv_iload_n hx hb dX5_many_41 rfl (lv_at hl 2 rfl) ?_
        exact k_iret hx hb hr hlk hP hS dX5_many_42 rfl (by rw [m_many, e4]) (fun h => h)
      · have c_11_1 : ¬ (w 7) ≤ ((nI k).toInt64) := mt (lg_cmp_ge ((nI k).toInt64) (w 7)).mpr c_11_1
        have hkl_4 : k < n := k_bodyL c_11_1 hn hkn_4 (by omega)
        refine lv_iload_n hx hb dX5_many_14 rfl (lv_at hl 2 rfl) ?_
        refine lv_aload_n hx hb dX5_many_15 rfl (lv_at hl 0 rfl) ?_
        refine lv_iload_n hx hb dX5_many_16 rfl (lv_at hl 3 rfl) ?_
        refine lv_iconst (v := 2) hx hb dX5_many_17 (by decide) ?_
        refine k_calli (a := []) (z := rwW a cJ w) (wc := []) (wc' := []) (w' := rwW a cJ w) (va_runS (As := [.int (nI k), .int 2]) (rest := [.ref a, .int x]) ⟨hx, hb, hml, hown, hts⟩ (c_X5_p l D cI cJ (nI k) 2 _) (cwS 2 hts gX5_many_X5_p rfl rfl rfl (by decide +kernel) ⟨Nat.le_of_ble_eq_true rfl, Nat.le_of_ble_eq_true rfl⟩) ⟨kB_blind, k_pre (a := []) (z := rwW a cJ w) rfl hK hP hD⟩ rfl rfl hl.1 rfl (lv_room (Nat.le_of_ble_eq_true rfl)) dX5_many_18 ⟨Nat.zero_le _, Nat.zero_le _⟩) rfl rfl rfl hP hD hS hA (fun H locs hP hD hS => ?_)
        rw [show 48 + 8 * (nI k) + 2 = nI (48 + 8 * k + 2) from k_p k 2]
        refine va_lald (f := w) hx hb hK hP 0 1 rfl rfl (k_in (k := 48 + 8 * k + 2) rfl (by omega) (by decide)) dX5_many_21 ?_
        rw [show (nI (48 + 8 * k + 2) : Int32).toNatClampNeg = 48 + 8 * k + 2 from nI_clamp (by omega)]
        refine lv_iload_n hx hb dX5_many_22 rfl (lv_at hl 1 rfl) ?_
        refine lv_i2l hx hb dX5_many_23 rfl ?_
        refine W.lcmp hx hb dX5_many_24 ?_
        refine lv_if_ne (tgt := 32) hx hb dX5_many_25 (by decide) (fun c_25_2 => ?_) (fun c_25_2 => ?_)
        · have c_25_2 : ¬ (w (48 + 8 * k + 2)) = v.toInt64 := mt (lg_cmp_eq (w (48 + 8 * k + 2)) v.toInt64).mpr c_25_2
          refine lv_iconst (v := 0) hx hb dX5_many_32 (by decide) ?_
          refine lv_iadd hx hb dX5_many_33 ?_
          refine lv_istore_n (lv' := [(2, .int (x + 0)), (0, .ref a), (1, .int v), (3, .int (nI k))]) hx hb dX5_many_34 rfl hl (by decide) rfl (fun ls hl => ?_)
          refine lv_iinc (v := (nI k) + 1) (lv' := [(3, .int ((nI k) + 1)), (2, .int (x + 0)), (0, .ref a), (1, .int v)]) hx hb dX5_many_35 hl (k := 3) rfl rfl (by decide) rfl (fun ls hl => ?_)
          refine lv_goto (tgt := 4) hx hb dX5_many_38 (by decide) ?_
          rw [show ((nI k) + 1) = (nI (k + 1)) from nI_1 _] at hl
          exact ih_4 (k + 1) (x + 0) (by omega) (by omega) (by rw [itr_s, e4]; simp [m_cntB, c_11_1, c_25_2]) _ _ _ hP hD hS (lv_sub hl [2, 3, 1, 0] rfl)
        · have c_25_2 : (w (48 + 8 * k + 2)) = v.toInt64 := (lg_cmp_eq (w (48 + 8 * k + 2)) v.toInt64).mp c_25_2
          refine lv_iconst (v := 1) hx hb dX5_many_28 (by decide) ?_
          refine lv_goto (tgt := 33) hx hb dX5_many_29 (by decide) ?_
          refine lv_iadd hx hb dX5_many_33 ?_
          refine lv_istore_n (lv' := [(2, .int (x + 1)), (0, .ref a), (1, .int v), (3, .int (nI k))]) hx hb dX5_many_34 rfl hl (by decide) rfl (fun ls hl => ?_)
          refine lv_iinc (v := (nI k) + 1) (lv' := [(3, .int ((nI k) + 1)), (2, .int (x + 1)), (0, .ref a), (1, .int v)]) hx hb dX5_many_35 hl (k := 3) rfl rfl (by decide) rfl (fun ls hl => ?_)
          refine lv_goto (tgt := 4) hx hb dX5_many_38 (by decide) ?_
          rw [show ((nI k) + 1) = (nI (k + 1)) from nI_1 _] at hl
          exact ih_4 (k + 1) (x + 1) (by omega) (by omega) (by rw [itr_s, e4]; simp [m_cntB, c_11_1, c_25_2]) _ _ _ hP hD hS (lv_sub hl [2, 3, 1, 0] rfl)
  exact L_4_0 (n + 1) 0 0 (by omega) (by omega) (rfl) _ _ _ hP hD hS (lv_sub hl [2, 3, 1, 0] rfl)

set_option maxHeartbeats 1000000 in
set_option maxRecDepth 100000 in
theorem c_X5_firstOff (l : Launch) (D : va_G) (a : Nat) (cI cJ : ClassId) (w : Nat → Int64) (v : Int32) (n : Nat) (hn : w 7 = lN n) (hn6 : n ≤ 6) (hord : ∀ k, k < n → ∃ j, j < 6 ∧ w (96 + k) = lN j) : kI l yX5_firstOff wsX5_firstOff ({ frames := 1, cells := 0, slots := 0, locals := 21 } : Room) D [(cI, .int), (cJ, .long)] [.ref a, .int v] (rwW a cJ w) (m_fo w n v) (rwW a cJ w) := by
  refine kBody.met (cc := cX5_firstOff) (maxL := 4) (ret := (some .int)) (by decide) rfl (Nat.le_of_ble_eq_true rfl) ?_
  intro p9 e9 s9 m9 below meth c9 A9 ls hx hb hr hml hts hown hlk hK hP hD hA hl
  have hown : s9.vm.findClass RX5 = some m9.cls := hown
  have hS : va_S A9 s9.heap s9.heap [] := va_S.rf
  have hl : lv_has ls 4 [(0, .ref a), (1, .int v)] := hl
  refine lv_iconst (v := 0) hx hb dX5_firstOff_0 (by decide) ?_
  refine lv_istore_n (lv' := [(2, .int 0), (0, .ref a), (1, .int v)]) hx hb dX5_firstOff_1 rfl hl (by decide) rfl (fun ls hl => ?_)
  have L_2_0 : ∀ (d : Nat) (k : Nat), n < k + d → k ≤ n → ∀  (hno : ∀ i, i < k → m_fits w v i = false) (H : Heap) (locs : List Loc) (ls : Array Slot), va_P D vwCl (rwW a cJ w) H → va_D A9 (rwW a cJ w) → va_S A9 s9.heap H locs → lv_has ls 4 [(0, .ref a), (1, .int v), (2, .int (nI k))] → W p9 l e9 ({ frames := 1, cells := 0, slots := 0, locals := 21 } : Room) s9 m9 (List.toArray [.ref a, .int v]) below meth c9 H locs 0 0 (MQ below (va_Qi (fun r (_ : Unit) => r = (m_fo w n v)) (fun _ t9 => va_P D vwCl (rwW a cJ w) t9.heap) A9) (List.toArray [.ref a, .int v]) s9 0 0 A9) (F0 m9 2 ls []) := by
    intro d
    induction d with
    | zero =>
      intro k  hf
      intro hkn; exact absurd hf (by omega)
    | succ d ih_2 =>
      intro k  hf_2 hkn_2 hno H locs ls hP hD hS hl
      refine lv_iload_n hx hb dX5_firstOff_2 rfl (lv_at hl 2 rfl) ?_
      refine lv_i2l hx hb dX5_firstOff_3 rfl ?_
      refine lv_aload_n hx hb dX5_firstOff_4 rfl (lv_at hl 0 rfl) ?_
      refine lv_bipush (v := 7) hx hb dX5_firstOff_5 (by decide) ?_
      refine va_lald (f := w) hx hb hK hP 0 1 rfl rfl (k_in (k := 7) rfl (by decide) (by decide)) dX5_firstOff_7 ?_
      rw [show (7 : Int32).toNatClampNeg = 7 from rfl]
      refine W.lcmp hx hb dX5_firstOff_8 ?_
      refine lv_if_ge (tgt := 62) hx hb dX5_firstOff_9 (by decide) (fun c_9_1 => ?_) (fun c_9_1 => ?_)
      · have c_9_1 : (w 7) ≤ ((nI k).toInt64) := (lg_cmp_ge ((nI k).toInt64) (w 7)).mp c_9_1
        have hke_2 : n = k := (k_exitL c_9_1 hn hkn_2 (by omega)).symm
        subst hke_2
        refine lv_iconst (v := (-1)) hx hb dX5_firstOff_62 (by decide) ?_
        exact k_iret hx hb hr hlk hP hS dX5_firstOff_63 rfl (by simp [m_fo, m_foAt, frst_none hno]) (fun h => h)
      · have c_9_1 : ¬ (w 7) ≤ ((nI k).toInt64) := mt (lg_cmp_ge ((nI k).toInt64) (w 7)).mpr c_9_1
        have hkl_2 : k < n := k_bodyL c_9_1 hn hkn_2 (by omega)
        obtain ⟨j, hj6, hwj⟩ := hord k hkl_2
        have hq : m_q w k = j := by rw [m_q, hwj]; exact lN_cl (by omega)
        refine lv_aload_n hx hb dX5_firstOff_12 rfl (lv_at hl 0 rfl) ?_
        refine lv_bipush (v := 96) hx hb dX5_firstOff_13 (by decide) ?_
        refine lv_iload_n hx hb dX5_firstOff_15 rfl (lv_at hl 2 rfl) ?_
        refine lv_iadd hx hb dX5_firstOff_16 ?_
        refine va_lald (f := w) hx hb hK hP 0 1 rfl rfl (k_in (k := 96 + k) (show 96 + nI k = nI (96 + k) from nI_add 96 k) (by omega) (by decide)) dX5_firstOff_17 ?_
        rw [show (96 + (nI k) : Int32).toNatClampNeg = 96 + k from k_cl (show 96 + nI k = nI (96 + k) from nI_add 96 k) (by omega)]
        refine lv_l2i hx hb dX5_firstOff_18 rfl ?_
        rw [show (w (96 + k)).toInt32 = nI j from (by rw [hwj, lN_i])]
        refine lv_istore_n (lv' := [(3, .int (nI j)), (0, .ref a), (1, .int v), (2, .int (nI k))]) hx hb dX5_firstOff_19 rfl hl (by decide) rfl (fun ls hl => ?_)
        refine lv_aload_n hx hb dX5_firstOff_20 rfl (lv_at hl 1 rfl) ?_
        refine lv_iload_n hx hb dX5_firstOff_21 rfl (lv_at hl 0 rfl) ?_
        refine lv_iconst (v := 2) hx hb dX5_firstOff_22 (by decide) ?_
        refine k_calli (a := []) (z := rwW a cJ w) (wc := []) (wc' := []) (w' := rwW a cJ w) (va_runS (As := [.int (nI j), .int 2]) (rest := [.ref a]) ⟨hx, hb, hml, hown, hts⟩ (c_X5_p l D cI cJ (nI j) 2 _) (cwS 2 hts gX5_firstOff_X5_p rfl rfl rfl (by decide +kernel) ⟨Nat.le_of_ble_eq_true rfl, Nat.le_of_ble_eq_true rfl⟩) ⟨kB_blind, k_pre (a := []) (z := rwW a cJ w) rfl hK hP hD⟩ rfl rfl hl.1 rfl (lv_room (Nat.le_of_ble_eq_true rfl)) dX5_firstOff_23 ⟨Nat.zero_le _, Nat.zero_le _⟩) rfl rfl rfl hP hD hS hA (fun H locs hP hD hS => ?_)
        rw [show 48 + 8 * (nI j) + 2 = nI (48 + 8 * j + 2) from k_p j 2]
        refine va_lald (f := w) hx hb hK hP 0 1 rfl rfl (k_in (k := 48 + 8 * j + 2) rfl (by omega) (by decide)) dX5_firstOff_26 ?_
        rw [show (nI (48 + 8 * j + 2) : Int32).toNatClampNeg = 48 + 8 * j + 2 from nI_clamp (by omega)]
        refine lv_lconst (v := 0) hx hb dX5_firstOff_27 (by decide) ?_
        refine W.lcmp hx hb dX5_firstOff_28 ?_
        refine lv_if_ne (tgt := 56) hx hb dX5_firstOff_29 (by decide) (fun c_29_2 => ?_) (fun c_29_2 => ?_)
        · have c_29_2 : ¬ (w (48 + 8 * j + 2)) = 0 := mt (lg_cmp_eq (w (48 + 8 * j + 2)) 0).mpr c_29_2
          refine lv_iinc (v := (nI k) + 1) (lv' := [(2, .int ((nI k) + 1)), (3, .int (nI j)), (0, .ref a), (1, .int v)]) hx hb dX5_firstOff_56 hl (k := 3) rfl rfl (by decide) rfl (fun ls hl => ?_)
          refine lv_goto (tgt := 2) hx hb dX5_firstOff_59 (by decide) ?_
          rw [show ((nI k) + 1) = (nI (k + 1)) from nI_1 _] at hl
          exact ih_2 (k + 1) (by omega) (by omega) (k_ext hno (by simp [m_fits, hq, c_9_1, c_29_2])) _ _ _ hP hD hS (lv_sub hl [2, 3, 0] rfl)
        · have c_29_2 : (w (48 + 8 * j + 2)) = 0 := (lg_cmp_eq (w (48 + 8 * j + 2)) 0).mp c_29_2
          refine lv_iload_n hx hb dX5_firstOff_32 rfl (lv_at hl 2 rfl) ?_
          refine lv_if_ne (tgt := 54) hx hb dX5_firstOff_33 (by decide) (fun c_33_3 => ?_) (fun c_33_3 => ?_)
          · have c_33_3 : ¬ v = 0 := c_33_3
            refine lv_iload_n hx hb dX5_firstOff_54 rfl (lv_at hl 0 rfl) ?_
            exact k_iret hx hb hr hlk hP hS dX5_firstOff_55 rfl (by rw [m_fo, show m_foAt w n v = k from frst_some (by simp [m_fits, hq, c_9_1, c_29_2, c_33_3]) hno hkl_2, if_pos hkl_2, hq]) (fun h => h)
          · have c_33_3 : v = 0 := c_33_3
            refine lv_aload_n hx hb dX5_firstOff_36 rfl (lv_at hl 1 rfl) ?_
            refine lv_iload_n hx hb dX5_firstOff_37 rfl (lv_at hl 0 rfl) ?_
            refine lv_iconst (v := 3) hx hb dX5_firstOff_38 (by decide) ?_
            refine k_calli (a := []) (z := rwW a cJ w) (wc := []) (wc' := []) (w' := rwW a cJ w) (va_runS (As := [.int (nI j), .int 3]) (rest := [.ref a]) ⟨hx, hb, hml, hown, hts⟩ (c_X5_p l D cI cJ (nI j) 3 _) (cwS 2 hts gX5_firstOff_X5_p rfl rfl rfl (by decide +kernel) ⟨Nat.le_of_ble_eq_true rfl, Nat.le_of_ble_eq_true rfl⟩) ⟨kB_blind, k_pre (a := []) (z := rwW a cJ w) rfl hK hP hD⟩ rfl rfl hl.1 rfl (lv_room (Nat.le_of_ble_eq_true rfl)) dX5_firstOff_39 ⟨Nat.zero_le _, Nat.zero_le _⟩) rfl rfl rfl hP hD hS hA (fun H locs hP hD hS => ?_)
            rw [show 48 + 8 * (nI j) + 3 = nI (48 + 8 * j + 3) from k_p j 3]
            refine va_lald (f := w) hx hb hK hP 0 1 rfl rfl (k_in (k := 48 + 8 * j + 3) rfl (by omega) (by decide)) dX5_firstOff_42 ?_
            rw [show (nI (48 + 8 * j + 3) : Int32).toNatClampNeg = 48 + 8 * j + 3 from nI_clamp (by omega)]
            refine lv_aload_n hx hb dX5_firstOff_43 rfl (lv_at hl 1 rfl) ?_
            refine lv_iload_n hx hb dX5_firstOff_44 rfl (lv_at hl 0 rfl) ?_
            refine lv_iconst (v := 1) hx hb dX5_firstOff_45 (by decide) ?_
            refine k_calli (a := []) (z := rwW a cJ w) (wc := []) (wc' := []) (w' := rwW a cJ w) (va_runS (As := [.int (nI j), .int 1]) (rest := [.ref a, .long (w (48 + 8 * j + 3))]) ⟨hx, hb, hml, hown, hts⟩ (c_X5_p l D cI cJ (nI j) 1 _) (cwS 2 hts gX5_firstOff_X5_p rfl rfl rfl (by decide +kernel) ⟨Nat.le_of_ble_eq_true rfl, Nat.le_of_ble_eq_true rfl⟩) ⟨kB_blind, k_pre (a := []) (z := rwW a cJ w) rfl hK hP hD⟩ rfl rfl hl.1 rfl (lv_room (Nat.le_of_ble_eq_true rfl)) dX5_firstOff_46 ⟨Nat.zero_le _, Nat.zero_le _⟩) rfl rfl rfl hP hD hS hA (fun H locs hP hD hS => ?_)
            rw [show 48 + 8 * (nI j) + 1 = nI (48 + 8 * j + 1) from k_p j 1]
            refine va_lald (f := w) hx hb hK hP 0 1 rfl rfl (k_in (k := 48 + 8 * j + 1) rfl (by omega) (by decide)) dX5_firstOff_49 ?_
            rw [show (nI (48 + 8 * j + 1) : Int32).toNatClampNeg = 48 + 8 * j + 1 from nI_clamp (by omega)]
            refine W.lcmp hx hb dX5_firstOff_50 ?_
            refine lv_if_ge (tgt := 56) hx hb dX5_firstOff_51 (by decide) (fun c_51_4 => ?_) (fun c_51_4 => ?_)
            · have c_51_4 : (w (48 + 8 * j + 1)) ≤ (w (48 + 8 * j + 3)) := (lg_cmp_ge (w (48 + 8 * j + 3)) (w (48 + 8 * j + 1))).mp c_51_4
              refine lv_iinc (v := (nI k) + 1) (lv' := [(2, .int ((nI k) + 1)), (3, .int (nI j)), (0, .ref a), (1, .int v)]) hx hb dX5_firstOff_56 hl (k := 3) rfl rfl (by decide) rfl (fun ls hl => ?_)
              refine lv_goto (tgt := 2) hx hb dX5_firstOff_59 (by decide) ?_
              rw [show ((nI k) + 1) = (nI (k + 1)) from nI_1 _] at hl
              exact ih_2 (k + 1) (by omega) (by omega) (k_ext hno (by simp [m_fits, hq, c_9_1, c_29_2, c_33_3, c_51_4])) _ _ _ hP hD hS (lv_sub hl [2, 3, 0] rfl)
            · have c_51_4 : ¬ (w (48 + 8 * j + 1)) ≤ (w (48 + 8 * j + 3)) := mt (lg_cmp_ge (w (48 + 8 * j + 3)) (w (48 + 8 * j + 1))).mpr c_51_4
              refine lv_iload_n hx hb dX5_firstOff_54 rfl (lv_at hl 0 rfl) ?_
              exact k_iret hx hb hr hlk hP hS dX5_firstOff_55 rfl (by rw [m_fo, show m_foAt w n v = k from frst_some (by simp [m_fits, hq, c_9_1, c_29_2, c_33_3, c_51_4]) hno hkl_2, if_pos hkl_2, hq]) (fun h => h)
  exact L_2_0 (n + 1) 0 (by omega) (by omega) (fun i hi => absurd hi (Nat.not_lt_zero _)) _ _ _ hP hD hS (lv_sub hl [1, 2, 0] rfl)

set_option maxHeartbeats 1000000 in
set_option maxRecDepth 100000 in
theorem c_X5_starter (l : Launch) (D : va_G) (a : Nat) (cI cJ : ClassId) (w : Nat → Int64) (n : Nat) (hn : w 7 = lN n) (hn6 : n ≤ 6) (hord : ∀ k, k < n → ∃ j, j < 6 ∧ w (96 + k) = lN j) : kI l yX5_starter wsX5_starter ({ frames := 2, cells := 0, slots := 0, locals := 44 } : Room) D [(cI, .int), (cJ, .long)] [.ref a] (rwW a cJ w) (m_starter w n) (rwW a cJ w) := by
  refine kBody.met (cc := cX5_starter) (maxL := 3) (ret := (some .int)) (by decide) rfl (Nat.le_of_ble_eq_true rfl) ?_
  intro p9 e9 s9 m9 below meth c9 A9 ls hx hb hr hml hts hown hlk hK hP hD hA hl
  have hown : s9.vm.findClass RX5 = some m9.cls := hown
  have hS : va_S A9 s9.heap s9.heap [] := va_S.rf
  have hl : lv_has ls 3 [(0, .ref a)] := hl
  refine lv_iconst (v := 0) hx hb dX5_starter_0 (by decide) ?_
  refine lv_istore_n (lv' := [(1, .int 0), (0, .ref a)]) hx hb dX5_starter_1 rfl hl (by decide) rfl (fun ls hl => ?_)
  have L_2_0 : ∀ (d : Nat) (k : Nat), n < k + d → k ≤ n → ∀  (hno : ∀ i, i < k → m_wantP w i = false) (H : Heap) (locs : List Loc) (ls : Array Slot), va_P D vwCl (rwW a cJ w) H → va_D A9 (rwW a cJ w) → va_S A9 s9.heap H locs → lv_has ls 3 [(0, .ref a), (1, .int (nI k))] → W p9 l e9 ({ frames := 2, cells := 0, slots := 0, locals := 44 } : Room) s9 m9 (List.toArray [.ref a]) below meth c9 H locs 0 0 (MQ below (va_Qi (fun r (_ : Unit) => r = (m_starter w n)) (fun _ t9 => va_P D vwCl (rwW a cJ w) t9.heap) A9) (List.toArray [.ref a]) s9 0 0 A9) (F0 m9 2 ls []) := by
    intro d
    induction d with
    | zero =>
      intro k  hf
      intro hkn; exact absurd hf (by omega)
    | succ d ih_2 =>
      intro k  hf_2 hkn_2 hno H locs ls hP hD hS hl
      refine lv_iload_n hx hb dX5_starter_2 rfl (lv_at hl 1 rfl) ?_
      refine lv_i2l hx hb dX5_starter_3 rfl ?_
      refine lv_aload_n hx hb dX5_starter_4 rfl (lv_at hl 0 rfl) ?_
      refine lv_bipush (v := 7) hx hb dX5_starter_5 (by decide) ?_
      refine va_lald (f := w) hx hb hK hP 0 1 rfl rfl (k_in (k := 7) rfl (by decide) (by decide)) dX5_starter_7 ?_
      rw [show (7 : Int32).toNatClampNeg = 7 from rfl]
      refine W.lcmp hx hb dX5_starter_8 ?_
      refine lv_if_ge (tgt := 35) hx hb dX5_starter_9 (by decide) (fun c_9_1 => ?_) (fun c_9_1 => ?_)
      · have c_9_1 : (w 7) ≤ ((nI k).toInt64) := (lg_cmp_ge ((nI k).toInt64) (w 7)).mp c_9_1
        have hW : m_want w n = k := by rw [← k_exitL c_9_1 hn hkn_2 (by omega)]; exact frst_none hno
        refine lv_aload_n hx hb dX5_starter_35 rfl (lv_at hl 0 rfl) ?_
        refine lv_iconst (v := 1) hx hb dX5_starter_36 (by decide) ?_
        refine k_calli (a := []) (z := []) (wc := rwW a cJ w) (wc' := rwW a cJ w) (w' := rwW a cJ w) (va_runS (As := [.ref a, .int 1]) (rest := []) ⟨hx, hb, hml, hown, hts⟩ (c_X5_many l D a cI cJ w 1 n hn hn6 _) (cwS 2 hts gX5_starter_X5_many rfl rfl rfl (by decide +kernel) ⟨Nat.le_of_ble_eq_true rfl, Nat.le_of_ble_eq_true rfl⟩) ⟨kB_blind, k_pre (a := []) (z := []) (k_w0 _) hK hP hD⟩ rfl rfl hl.1 rfl (lv_room (Nat.le_of_ble_eq_true rfl)) dX5_starter_37 ⟨Nat.zero_le _, Nat.zero_le _⟩) (k_w0 _) (k_w0 _) (rwW_ad _ _ _ _) hP hD hS hA (fun H locs hP hD hS => ?_)
        refine lv_iload_n hx hb dX5_starter_40 rfl (lv_at hl 1 rfl) ?_
        refine lv_icmp_lt (tgt := 46) hx hb dX5_starter_41 (by decide) (fun c_41_2 => ?_) (fun c_41_2 => ?_)
        · have c_41_2 : (m_many w n 1) < (nI k) := c_41_2
          refine lv_aload_n hx hb dX5_starter_46 rfl (lv_at hl 0 rfl) ?_
          refine lv_iconst (v := 0) hx hb dX5_starter_47 (by decide) ?_
          refine k_calli (a := []) (z := []) (wc := rwW a cJ w) (wc' := rwW a cJ w) (w' := rwW a cJ w) (va_runS (As := [.ref a, .int 0]) (rest := []) ⟨hx, hb, hml, hown, hts⟩ (c_X5_firstOff l D a cI cJ w 0 n hn hn6 hord _) (cwS 2 hts gX5_starter_X5_firstOff rfl rfl rfl (by decide +kernel) ⟨Nat.le_of_ble_eq_true rfl, Nat.le_of_ble_eq_true rfl⟩) ⟨kB_blind, k_pre (a := []) (z := []) (k_w0 _) hK hP hD⟩ rfl rfl hl.1 rfl (lv_room (Nat.le_of_ble_eq_true rfl)) dX5_starter_48 ⟨Nat.zero_le _, Nat.zero_le _⟩) (k_w0 _) (k_w0 _) (rwW_ad _ _ _ _) hP hD hS hA (fun H locs hP hD hS => ?_)
          refine lv_istore_n (lv' := [(2, .int (m_fo w n 0)), (0, .ref a), (1, .int (nI k))]) hx hb dX5_starter_51 rfl hl (by decide) rfl (fun ls hl => ?_)
          refine lv_iload_n hx hb dX5_starter_52 rfl (lv_at hl 0 rfl) ?_
          refine lv_iconst (v := (-1)) hx hb dX5_starter_53 (by decide) ?_
          refine lv_icmp_ne (tgt := 74) hx hb dX5_starter_54 (by decide) (fun c_54_3 => ?_) (fun c_54_3 => ?_)
          · have c_54_3 : ¬ (m_fo w n 0) = (-1) := c_54_3
            refine lv_iload_n hx hb dX5_starter_74 rfl (lv_at hl 0 rfl) ?_
            exact k_iret hx hb hr hlk hP hS dX5_starter_75 rfl (by simp [m_starter, hW, c_9_1, c_41_2, c_54_3]) (fun h => h)
          · have c_54_3 : (m_fo w n 0) = (-1) := c_54_3
            refine lv_aload_n hx hb dX5_starter_57 rfl (lv_at hl 1 rfl) ?_
            refine lv_bipush (v := 6) hx hb dX5_starter_58 (by decide) ?_
            refine va_lald (f := w) hx hb hK hP 0 1 rfl rfl (k_in (k := 6) rfl (by decide) (by decide)) dX5_starter_60 ?_
            rw [show (6 : Int32).toNatClampNeg = 6 from rfl]
            refine lv_lconst (v := 1) hx hb dX5_starter_61 (by decide) ?_
            refine W.lcmp hx hb dX5_starter_62 ?_
            refine lv_if_ne (tgt := 74) hx hb dX5_starter_63 (by decide) (fun c_63_4 => ?_) (fun c_63_4 => ?_)
            · have c_63_4 : ¬ (w 6) = 1 := mt (lg_cmp_eq (w 6) 1).mpr c_63_4
              refine lv_iload_n hx hb dX5_starter_74 rfl (lv_at hl 0 rfl) ?_
              exact k_iret hx hb hr hlk hP hS dX5_starter_75 rfl (by simp [m_starter, hW, c_9_1, c_41_2, c_54_3, c_63_4]) (fun h => h)
            · have c_63_4 : (w 6) = 1 := (lg_cmp_eq (w 6) 1).mp c_63_4
              refine lv_aload_n hx hb dX5_starter_66 rfl (lv_at hl 1 rfl) ?_
              refine lv_iconst (v := 1) hx hb dX5_starter_67 (by decide) ?_
              refine k_calli (a := []) (z := []) (wc := rwW a cJ w) (wc' := rwW a cJ w) (w' := rwW a cJ w) (va_runS (As := [.ref a, .int 1]) (rest := []) ⟨hx, hb, hml, hown, hts⟩ (c_X5_firstOff l D a cI cJ w 1 n hn hn6 hord _) (cwS 2 hts gX5_starter_X5_firstOff rfl rfl rfl (by decide +kernel) ⟨Nat.le_of_ble_eq_true rfl, Nat.le_of_ble_eq_true rfl⟩) ⟨kB_blind, k_pre (a := []) (z := []) (k_w0 _) hK hP hD⟩ rfl rfl hl.1 rfl (lv_room (Nat.le_of_ble_eq_true rfl)) dX5_starter_68 ⟨Nat.zero_le _, Nat.zero_le _⟩) (k_w0 _) (k_w0 _) (rwW_ad _ _ _ _) hP hD hS hA (fun H locs hP hD hS => ?_)
              refine lv_goto (tgt := 75) hx hb dX5_starter_71 (by decide) ?_
              exact k_iret hx hb hr hlk hP hS dX5_starter_75 rfl (by simp [m_starter, hW, c_9_1, c_41_2, c_54_3, c_63_4]) (fun h => h)
        · have c_41_2 : ¬ (m_many w n 1) < (nI k) := c_41_2
          refine lv_iconst (v := (-1)) hx hb dX5_starter_44 (by decide) ?_
          exact k_iret hx hb hr hlk hP hS dX5_starter_45 rfl (by simp [m_starter, hW, c_9_1, c_41_2]) (fun h => h)
      · have c_9_1 : ¬ (w 7) ≤ ((nI k).toInt64) := mt (lg_cmp_ge ((nI k).toInt64) (w 7)).mpr c_9_1
        have hkl_2 : k < n := k_bodyL c_9_1 hn hkn_2 (by omega)
        refine lv_aload_n hx hb dX5_starter_12 rfl (lv_at hl 0 rfl) ?_
        refine lv_iconst (v := 1) hx hb dX5_starter_13 (by decide) ?_
        refine va_lald (f := w) hx hb hK hP 0 1 rfl rfl (k_in (k := 1) rfl (by decide) (by decide)) dX5_starter_14 ?_
        rw [show (1 : Int32).toNatClampNeg = 1 from rfl]
        refine lv_aload_n hx hb dX5_starter_15 rfl (lv_at hl 0 rfl) ?_
        refine lv_iconst (v := 2) hx hb dX5_starter_16 (by decide) ?_
        refine va_lald (f := w) hx hb hK hP 0 1 rfl rfl (k_in (k := 2) rfl (by decide) (by decide)) dX5_starter_17 ?_
        rw [show (2 : Int32).toNatClampNeg = 2 from rfl]
        refine lv_iload_n hx hb dX5_starter_18 rfl (lv_at hl 1 rfl) ?_
        refine lv_i2l hx hb dX5_starter_19 rfl ?_
        refine lv_aload_n hx hb dX5_starter_20 rfl (lv_at hl 0 rfl) ?_
        refine lv_iconst (v := 4) hx hb dX5_starter_21 (by decide) ?_
        refine va_lald (f := w) hx hb hK hP 0 1 rfl rfl (k_in (k := 4) rfl (by decide) (by decide)) dX5_starter_22 ?_
        rw [show (4 : Int32).toNatClampNeg = 4 from rfl]
        refine lv_lmul hx hb dX5_starter_23 ?_
        refine lv_lsub hx hb dX5_starter_24 ?_
        refine W.lcmp hx hb dX5_starter_25 ?_
        refine lv_if_ge (tgt := 35) hx hb dX5_starter_26 (by decide) (fun c_26_5 => ?_) (fun c_26_5 => ?_)
        · have c_26_5 : ((w 2) - (((nI k).toInt64) * (w 4))) ≤ (w 1) := (lg_cmp_ge (w 1) ((w 2) - (((nI k).toInt64) * (w 4)))).mp c_26_5
          have hW : m_want w n = k := frst_some (by simp [m_wantP, c_26_5]) hno hkl_2
          refine lv_aload_n hx hb dX5_starter_35 rfl (lv_at hl 0 rfl) ?_
          refine lv_iconst (v := 1) hx hb dX5_starter_36 (by decide) ?_
          refine k_calli (a := []) (z := []) (wc := rwW a cJ w) (wc' := rwW a cJ w) (w' := rwW a cJ w) (va_runS (As := [.ref a, .int 1]) (rest := []) ⟨hx, hb, hml, hown, hts⟩ (c_X5_many l D a cI cJ w 1 n hn hn6 _) (cwS 2 hts gX5_starter_X5_many rfl rfl rfl (by decide +kernel) ⟨Nat.le_of_ble_eq_true rfl, Nat.le_of_ble_eq_true rfl⟩) ⟨kB_blind, k_pre (a := []) (z := []) (k_w0 _) hK hP hD⟩ rfl rfl hl.1 rfl (lv_room (Nat.le_of_ble_eq_true rfl)) dX5_starter_37 ⟨Nat.zero_le _, Nat.zero_le _⟩) (k_w0 _) (k_w0 _) (rwW_ad _ _ _ _) hP hD hS hA (fun H locs hP hD hS => ?_)
          refine lv_iload_n hx hb dX5_starter_40 rfl (lv_at hl 1 rfl) ?_
          refine lv_icmp_lt (tgt := 46) hx hb dX5_starter_41 (by decide) (fun c_41_6 => ?_) (fun c_41_6 => ?_)
          · have c_41_6 : (m_many w n 1) < (nI k) := c_41_6
            refine lv_aload_n hx hb dX5_starter_46 rfl (lv_at hl 0 rfl) ?_
            refine lv_iconst (v := 0) hx hb dX5_starter_47 (by decide) ?_
            refine k_calli (a := []) (z := []) (wc := rwW a cJ w) (wc' := rwW a cJ w) (w' := rwW a cJ w) (va_runS (As := [.ref a, .int 0]) (rest := []) ⟨hx, hb, hml, hown, hts⟩ (c_X5_firstOff l D a cI cJ w 0 n hn hn6 hord _) (cwS 2 hts gX5_starter_X5_firstOff rfl rfl rfl (by decide +kernel) ⟨Nat.le_of_ble_eq_true rfl, Nat.le_of_ble_eq_true rfl⟩) ⟨kB_blind, k_pre (a := []) (z := []) (k_w0 _) hK hP hD⟩ rfl rfl hl.1 rfl (lv_room (Nat.le_of_ble_eq_true rfl)) dX5_starter_48 ⟨Nat.zero_le _, Nat.zero_le _⟩) (k_w0 _) (k_w0 _) (rwW_ad _ _ _ _) hP hD hS hA (fun H locs hP hD hS => ?_)
            refine lv_istore_n (lv' := [(2, .int (m_fo w n 0)), (0, .ref a), (1, .int (nI k))]) hx hb dX5_starter_51 rfl hl (by decide) rfl (fun ls hl => ?_)
            refine lv_iload_n hx hb dX5_starter_52 rfl (lv_at hl 0 rfl) ?_
            refine lv_iconst (v := (-1)) hx hb dX5_starter_53 (by decide) ?_
            refine lv_icmp_ne (tgt := 74) hx hb dX5_starter_54 (by decide) (fun c_54_7 => ?_) (fun c_54_7 => ?_)
            · have c_54_7 : ¬ (m_fo w n 0) = (-1) := c_54_7
              refine lv_iload_n hx hb dX5_starter_74 rfl (lv_at hl 0 rfl) ?_
              exact k_iret hx hb hr hlk hP hS dX5_starter_75 rfl (by simp [m_starter, hW, c_9_1, c_26_5, c_41_6, c_54_7]) (fun h => h)
            · have c_54_7 : (m_fo w n 0) = (-1) := c_54_7
              refine lv_aload_n hx hb dX5_starter_57 rfl (lv_at hl 1 rfl) ?_
              refine lv_bipush (v := 6) hx hb dX5_starter_58 (by decide) ?_
              refine va_lald (f := w) hx hb hK hP 0 1 rfl rfl (k_in (k := 6) rfl (by decide) (by decide)) dX5_starter_60 ?_
              rw [show (6 : Int32).toNatClampNeg = 6 from rfl]
              refine lv_lconst (v := 1) hx hb dX5_starter_61 (by decide) ?_
              refine W.lcmp hx hb dX5_starter_62 ?_
              refine lv_if_ne (tgt := 74) hx hb dX5_starter_63 (by decide) (fun c_63_8 => ?_) (fun c_63_8 => ?_)
              · have c_63_8 : ¬ (w 6) = 1 := mt (lg_cmp_eq (w 6) 1).mpr c_63_8
                refine lv_iload_n hx hb dX5_starter_74 rfl (lv_at hl 0 rfl) ?_
                exact k_iret hx hb hr hlk hP hS dX5_starter_75 rfl (by simp [m_starter, hW, c_9_1, c_26_5, c_41_6, c_54_7, c_63_8]) (fun h => h)
              · have c_63_8 : (w 6) = 1 := (lg_cmp_eq (w 6) 1).mp c_63_8
                refine lv_aload_n hx hb dX5_starter_66 rfl (lv_at hl 1 rfl) ?_
                refine lv_iconst (v := 1) hx hb dX5_starter_67 (by decide) ?_
                refine k_calli (a := []) (z := []) (wc := rwW a cJ w) (wc' := rwW a cJ w) (w' := rwW a cJ w) (va_runS (As := [.ref a, .int 1]) (rest := []) ⟨hx, hb, hml, hown, hts⟩ (c_X5_firstOff l D a cI cJ w 1 n hn hn6 hord _) (cwS 2 hts gX5_starter_X5_firstOff rfl rfl rfl (by decide +kernel) ⟨Nat.le_of_ble_eq_true rfl, Nat.le_of_ble_eq_true rfl⟩) ⟨kB_blind, k_pre (a := []) (z := []) (k_w0 _) hK hP hD⟩ rfl rfl hl.1 rfl (lv_room (Nat.le_of_ble_eq_true rfl)) dX5_starter_68 ⟨Nat.zero_le _, Nat.zero_le _⟩) (k_w0 _) (k_w0 _) (rwW_ad _ _ _ _) hP hD hS hA (fun H locs hP hD hS => ?_)
                refine lv_goto (tgt := 75) hx hb dX5_starter_71 (by decide) ?_
                exact k_iret hx hb hr hlk hP hS dX5_starter_75 rfl (by simp [m_starter, hW, c_9_1, c_26_5, c_41_6, c_54_7, c_63_8]) (fun h => h)
          · have c_41_6 : ¬ (m_many w n 1) < (nI k) := c_41_6
            refine lv_iconst (v := (-1)) hx hb dX5_starter_44 (by decide) ?_
            exact k_iret hx hb hr hlk hP hS dX5_starter_45 rfl (by simp [m_starter, hW, c_9_1, c_26_5, c_41_6]) (fun h => h)
        · have c_26_5 : ¬ ((w 2) - (((nI k).toInt64) * (w 4))) ≤ (w 1) := mt (lg_cmp_ge (w 1) ((w 2) - (((nI k).toInt64) * (w 4)))).mpr c_26_5
          refine lv_iinc (v := (nI k) + 1) (lv' := [(1, .int ((nI k) + 1)), (0, .ref a)]) hx hb dX5_starter_29 hl (k := 1) rfl rfl (by decide) rfl (fun ls hl => ?_)
          refine lv_goto (tgt := 2) hx hb dX5_starter_32 (by decide) ?_
          rw [show ((nI k) + 1) = (nI (k + 1)) from nI_1 _] at hl
          exact ih_2 (k + 1) (by omega) (by omega) (k_ext hno (by simp [m_wantP, c_9_1, c_26_5])) _ _ _ hP hD hS (lv_sub hl [1, 0] rfl)
  exact L_2_0 (n + 1) 0 (by omega) (by omega) (fun i hi => absurd hi (Nat.not_lt_zero _)) _ _ _ hP hD hS (lv_sub hl [1, 0] rfl)

set_option maxHeartbeats 1000000 in
set_option maxRecDepth 100000 in
theorem c_X5_rests (l : Launch) (D : va_G) (a : Nat) (cI cJ : ClassId) (w : Nat → Int64) (n : Nat) (hn : w 7 = lN n) (hn6 : n ≤ 6) : kV l yX5_rests wsX5_rests ({ frames := 2, cells := 0, slots := 0, locals := 44 } : Room) D [(cI, .int), (cJ, .long)] [.ref a] (rwW a cJ w) (rwW a cJ (m_rest w n)) := by
  refine kBody.met (cc := cX5_rests) (maxL := 5) (ret := none) (by decide) rfl (Nat.le_of_ble_eq_true rfl) ?_
  intro p9 e9 s9 m9 below meth c9 A9 ls hx hb hr hml hts hown hlk hK hP hD hA hl
  have hown : s9.vm.findClass RX5 = some m9.cls := hown
  have hS : va_S A9 s9.heap s9.heap [] := va_S.rf
  have hl : lv_has ls 5 [(0, .ref a)] := hl
  refine lv_aload_n hx hb dX5_rests_0 rfl (lv_at hl 0 rfl) ?_
  refine lv_iconst (v := 1) hx hb dX5_rests_1 (by decide) ?_
  refine k_calli (a := []) (z := []) (wc := rwW a cJ w) (wc' := rwW a cJ w) (w' := rwW a cJ w) (va_runS (As := [.ref a, .int 1]) (rest := []) ⟨hx, hb, hml, hown, hts⟩ (c_X5_many l D a cI cJ w 1 n hn hn6 _) (cwS 2 hts gX5_rests_X5_many rfl rfl rfl (by decide +kernel) ⟨Nat.le_of_ble_eq_true rfl, Nat.le_of_ble_eq_true rfl⟩) ⟨kB_blind, k_pre (a := []) (z := []) (k_w0 _) hK hP hD⟩ rfl rfl hl.1 rfl (lv_room (Nat.le_of_ble_eq_true rfl)) dX5_rests_2 ⟨Nat.zero_le _, Nat.zero_le _⟩) (k_w0 _) (k_w0 _) (rwW_ad _ _ _ _) hP hD hS hA (fun H locs hP hD hS => ?_)
  refine lv_if_ne (tgt := 9) hx hb dX5_rests_5 (by decide) (fun c_5_0 => ?_) (fun c_5_0 => ?_)
  · have c_5_0 : ¬ (m_many w n 1) = 0 := c_5_0
    have hn1 : 1 ≤ n := m_many_pos c_5_0
    refine lv_aload_n hx hb dX5_rests_9 rfl (lv_at hl 0 rfl) ?_
    refine lv_bipush (v := 7) hx hb dX5_rests_10 (by decide) ?_
    refine va_lald (f := w) hx hb hK hP 0 1 rfl rfl (k_in (k := 7) rfl (by decide) (by decide)) dX5_rests_12 ?_
    rw [show (7 : Int32).toNatClampNeg = 7 from rfl]
    refine lv_l2i hx hb dX5_rests_13 rfl ?_
    refine lv_iconst (v := 1) hx hb dX5_rests_14 (by decide) ?_
    refine lv_isub hx hb dX5_rests_15 ?_
    rw [show ((w 7).toInt32) - 1 = nI (n - 1) from (by rw [hn, lN_i, show (1 : Int32) = nI 1 from rfl, pk_sub hn1])]
    refine lv_istore_n (lv' := [(1, .int (nI (n - 1))), (0, .ref a)]) hx hb dX5_rests_16 rfl hl (by decide) rfl (fun ls hl => ?_)
    refine lv_iconst (v := 0) hx hb dX5_rests_17 (by decide) ?_
    refine lv_istore_n (lv' := [(2, .int 0), (1, .int (nI (n - 1))), (0, .ref a)]) hx hb dX5_rests_18 rfl hl (by decide) rfl (fun ls hl => ?_)
    have L_19_1 : ∀ (d : Nat) (k : Nat) (f : Nat → Int64), n < k + d → k ≤ n → ∀  (e19 : itr m_offB k w = f) (H : Heap) (locs : List Loc) (ls : Array Slot), va_P D vwCl (rwW a cJ f) H → va_D A9 (rwW a cJ f) → va_S A9 s9.heap H locs → lv_has ls 5 [(0, .ref a), (1, .int (nI (n - 1))), (2, .int (nI k))] → W p9 l e9 ({ frames := 2, cells := 0, slots := 0, locals := 44 } : Room) s9 m9 (List.toArray [.ref a]) below meth c9 H locs 0 0 (MQ below (va_Qv (fun (_ : Unit) => True) (fun _ t9 => va_P D vwCl (rwW a cJ (m_rest w n)) t9.heap) A9) (List.toArray [.ref a]) s9 0 0 A9) (F0 m9 19 ls []) := by
      intro d
      induction d with
      | zero =>
        intro k f hf
        intro hkn; exact absurd hf (by omega)
      | succ d ih_19 =>
        intro k f hf_19 hkn_19 e19 H locs ls hP hD hS hl
        refine lv_iload_n hx hb dX5_rests_19 rfl (lv_at hl 2 rfl) ?_
        refine lv_iload_n hx hb dX5_rests_20 rfl (lv_at hl 1 rfl) ?_
        refine lv_icmp_gt (tgt := 60) hx hb dX5_rests_21 (by decide) (fun c_21_2 => ?_) (fun c_21_2 => ?_)
        · have c_21_2 : (nI (n - 1)) < (nI k) := c_21_2
          have hke_19 : k = n := by
            rcases Nat.lt_or_ge k n with q9 | q9
            · exact absurd c_21_2 (nI_nlt (by omega) (by omega))
            · omega
          refine lv_aload_n hx hb dX5_rests_60 rfl (lv_at hl 0 rfl) ?_
          refine lv_bipush (v := 96) hx hb dX5_rests_61 (by decide) ?_
          refine va_lald (f := f) hx hb hK hP 0 1 rfl rfl (k_in (k := 96) rfl (by decide) (by decide)) dX5_rests_63 ?_
          rw [show (96 : Int32).toNatClampNeg = 96 from rfl]
          refine lv_lstore_n (lv' := [(2, .long (f 96)), (0, .ref a), (1, .int (nI (n - 1)))]) hx hb dX5_rests_64 rfl hl (by decide) rfl (fun ls hl => ?_)
          refine lv_iconst (v := 0) hx hb dX5_rests_65 (by decide) ?_
          refine lv_istore (lv' := [(4, .int 0), (2, .long (f 96)), (0, .ref a), (1, .int (nI (n - 1)))]) hx hb dX5_rests_66 hl (by decide) rfl (fun ls hl => ?_)
          have L_68_3 : ∀ (d : Nat) (i : Nat) (g : Nat → Int64), n - 1 < i + d → i ≤ n - 1 → ∀  (e68 : itr m_shB i f = g) (H : Heap) (locs : List Loc) (ls : Array Slot), va_P D vwCl (rwW a cJ g) H → va_D A9 (rwW a cJ g) → va_S A9 s9.heap H locs → lv_has ls 5 [(0, .ref a), (1, .int (nI (n - 1))), (2, .long (f 96)), (4, .int (nI i))] → W p9 l e9 ({ frames := 2, cells := 0, slots := 0, locals := 44 } : Room) s9 m9 (List.toArray [.ref a]) below meth c9 H locs 0 0 (MQ below (va_Qv (fun (_ : Unit) => True) (fun _ t9 => va_P D vwCl (rwW a cJ (m_rest w n)) t9.heap) A9) (List.toArray [.ref a]) s9 0 0 A9) (F0 m9 68 ls []) := by
            intro d
            induction d with
            | zero =>
              intro i g hf
              intro hkn; exact absurd hf (by omega)
            | succ d ih_68 =>
              intro i g hf_68 hkn_68 e68 H locs ls hP hD hS hl
              refine lv_iload hx hb dX5_rests_68 (lv_at hl 3 rfl) ?_
              refine lv_iload_n hx hb dX5_rests_70 rfl (lv_at hl 1 rfl) ?_
              refine lv_icmp_ge (tgt := 96) hx hb dX5_rests_71 (by decide) (fun c_71_4 => ?_) (fun c_71_4 => ?_)
              · have c_71_4 : (nI (n - 1)) ≤ (nI i) := c_71_4
                have hke_68 : i = n - 1 := k_exitN c_71_4 rfl hkn_68 (by omega)
                refine lv_aload_n hx hb dX5_rests_96 rfl (lv_at hl 0 rfl) ?_
                refine lv_bipush (v := 96) hx hb dX5_rests_97 (by decide) ?_
                refine lv_iload_n hx hb dX5_rests_99 rfl (lv_at hl 1 rfl) ?_
                refine lv_iadd hx hb dX5_rests_100 ?_
                refine lv_lload_n hx hb dX5_rests_101 rfl (lv_at hl 2 rfl) ?_
                refine va_last (f := g) hx hb hK hP hD hS 0 1 rfl rfl (k_in (k := 96 + (n - 1)) (show 96 + nI (n - 1) = nI (96 + (n - 1)) from nI_add 96 (n - 1)) (by omega) (by decide)) dX5_rests_102 (fun H locs hP hD hS => ?_)
                rw [show (96 + (nI (n - 1)) : Int32).toNatClampNeg = 96 + (n - 1) from k_cl (show 96 + nI (n - 1) = nI (96 + (n - 1)) from nI_add 96 (n - 1)) (by omega)] at hP hD
                have hP : va_P D vwCl (rwW a cJ (vp_updL g (96 + (n - 1)) (f 96))) H := hP
                have hD : va_D A9 (rwW a cJ (vp_updL g (96 + (n - 1)) (f 96))) := hD
                exact k_vret hx hb hr hlk hP hS dX5_rests_103 (k_P (by rw [hke_19] at e19; rw [hke_68] at e68; simp only [m_rest, m_rest1, e19, e68]; rw [if_neg c_5_0]))
              · have c_71_4 : ¬ (nI (n - 1)) ≤ (nI i) := c_71_4
                have hkl_68 : i < n - 1 := k_bodyN c_71_4 rfl hkn_68 (by omega)
                refine lv_aload_n hx hb dX5_rests_74 rfl (lv_at hl 0 rfl) ?_
                refine lv_bipush (v := 96) hx hb dX5_rests_75 (by decide) ?_
                refine lv_iload hx hb dX5_rests_77 (lv_at hl 3 rfl) ?_
                refine lv_iadd hx hb dX5_rests_79 ?_
                refine lv_aload_n hx hb dX5_rests_80 rfl (lv_at hl 0 rfl) ?_
                refine lv_bipush (v := 96) hx hb dX5_rests_81 (by decide) ?_
                refine lv_iload hx hb dX5_rests_83 (lv_at hl 3 rfl) ?_
                refine lv_iadd hx hb dX5_rests_85 ?_
                refine lv_iconst (v := 1) hx hb dX5_rests_86 (by decide) ?_
                refine lv_iadd hx hb dX5_rests_87 ?_
                refine va_lald (f := g) hx hb hK hP 0 1 rfl rfl (k_in (k := 96 + i + 1) (show 96 + nI i + 1 = nI (96 + i + 1) from by rw [show (96 : Int32) = nI 96 from rfl, nI_add, nI_1]) (by omega) (by decide)) dX5_rests_88 ?_
                rw [show ((96 + (nI i)) + 1 : Int32).toNatClampNeg = 96 + i + 1 from k_cl (show 96 + nI i + 1 = nI (96 + i + 1) from by rw [show (96 : Int32) = nI 96 from rfl, nI_add, nI_1]) (by omega)]
                refine va_last (f := g) hx hb hK hP hD hS 0 1 rfl rfl (k_in (k := 96 + i) (show 96 + nI i = nI (96 + i) from nI_add 96 i) (by omega) (by decide)) dX5_rests_89 (fun H locs hP hD hS => ?_)
                rw [show (96 + (nI i) : Int32).toNatClampNeg = 96 + i from k_cl (show 96 + nI i = nI (96 + i) from nI_add 96 i) (by omega)] at hP hD
                have hP : va_P D vwCl (rwW a cJ (vp_updL g (96 + i) (g (96 + i + 1)))) H := hP
                have hD : va_D A9 (rwW a cJ (vp_updL g (96 + i) (g (96 + i + 1)))) := hD
                refine lv_iinc (v := (nI i) + 1) (lv' := [(4, .int ((nI i) + 1)), (0, .ref a), (1, .int (nI (n - 1))), (2, .long (f 96))]) hx hb dX5_rests_90 hl (k := 3) rfl rfl (by decide) rfl (fun ls hl => ?_)
                refine lv_goto (tgt := 68) hx hb dX5_rests_93 (by decide) ?_
                rw [show ((nI i) + 1) = (nI (i + 1)) from nI_1 _] at hl
                exact ih_68 (i + 1) (vp_updL g (96 + i) (g (96 + i + 1))) (by omega) (by omega) (by rw [itr_s, e68]; simp [m_shB, c_5_0, c_21_2, c_71_4]) _ _ _ hP hD hS (lv_sub hl [1, 2, 3, 0] rfl)
          exact L_68_3 (n - 1 + 1) 0 f (by omega) (by omega) (rfl) _ _ _ hP hD hS (lv_sub hl [2, 3, 1, 0] rfl)
        · have c_21_2 : ¬ (nI (n - 1)) < (nI k) := c_21_2
          have hkl_19 : k < n := by
            rcases Nat.lt_or_ge k n with q9 | q9
            · exact q9
            · exact absurd (nI_lt (by omega) (by omega)) c_21_2
          refine lv_aload_n hx hb dX5_rests_24 rfl (lv_at hl 0 rfl) ?_
          refine lv_iload_n hx hb dX5_rests_25 rfl (lv_at hl 2 rfl) ?_
          refine lv_iconst (v := 2) hx hb dX5_rests_26 (by decide) ?_
          refine k_calli (a := []) (z := rwW a cJ f) (wc := []) (wc' := []) (w' := rwW a cJ f) (va_runS (As := [.int (nI k), .int 2]) (rest := [.ref a]) ⟨hx, hb, hml, hown, hts⟩ (c_X5_p l D cI cJ (nI k) 2 _) (cwS 2 hts gX5_rests_X5_p rfl rfl rfl (by decide +kernel) ⟨Nat.le_of_ble_eq_true rfl, Nat.le_of_ble_eq_true rfl⟩) ⟨kB_blind, k_pre (a := []) (z := rwW a cJ f) rfl hK hP hD⟩ rfl rfl hl.1 rfl (lv_room (Nat.le_of_ble_eq_true rfl)) dX5_rests_27 ⟨Nat.zero_le _, Nat.zero_le _⟩) rfl rfl rfl hP hD hS hA (fun H locs hP hD hS => ?_)
          rw [show 48 + 8 * (nI k) + 2 = nI (48 + 8 * k + 2) from k_p k 2]
          refine lv_aload_n hx hb dX5_rests_30 rfl (lv_at hl 0 rfl) ?_
          refine lv_iload_n hx hb dX5_rests_31 rfl (lv_at hl 2 rfl) ?_
          refine lv_iconst (v := 2) hx hb dX5_rests_32 (by decide) ?_
          refine k_calli (a := []) (z := rwW a cJ f) (wc := []) (wc' := []) (w' := rwW a cJ f) (va_runS (As := [.int (nI k), .int 2]) (rest := [.ref a, .int (nI (48 + 8 * k + 2)), .ref a]) ⟨hx, hb, hml, hown, hts⟩ (c_X5_p l D cI cJ (nI k) 2 _) (cwS 2 hts gX5_rests_X5_p rfl rfl rfl (by decide +kernel) ⟨Nat.le_of_ble_eq_true rfl, Nat.le_of_ble_eq_true rfl⟩) ⟨kB_blind, k_pre (a := []) (z := rwW a cJ f) rfl hK hP hD⟩ rfl rfl hl.1 rfl (lv_room (Nat.le_of_ble_eq_true rfl)) dX5_rests_33 ⟨Nat.zero_le _, Nat.zero_le _⟩) rfl rfl rfl hP hD hS hA (fun H locs hP hD hS => ?_)
          rw [show 48 + 8 * (nI k) + 2 = nI (48 + 8 * k + 2) from k_p k 2]
          refine va_lald (f := f) hx hb hK hP 0 1 rfl rfl (k_in (k := 48 + 8 * k + 2) rfl (by omega) (by decide)) dX5_rests_36 ?_
          rw [show (nI (48 + 8 * k + 2) : Int32).toNatClampNeg = 48 + 8 * k + 2 from nI_clamp (by omega)]
          refine lv_lconst (v := 1) hx hb dX5_rests_37 (by decide) ?_
          refine W.lcmp hx hb dX5_rests_38 ?_
          refine lv_if_ne (tgt := 46) hx hb dX5_rests_39 (by decide) (fun c_39_5 => ?_) (fun c_39_5 => ?_)
          · have c_39_5 : ¬ (f (48 + 8 * k + 2)) = 1 := mt (lg_cmp_eq (f (48 + 8 * k + 2)) 1).mpr c_39_5
            refine lv_aload_n hx hb dX5_rests_46 rfl (lv_at hl 0 rfl) ?_
            refine lv_iload_n hx hb dX5_rests_47 rfl (lv_at hl 2 rfl) ?_
            refine lv_iconst (v := 2) hx hb dX5_rests_48 (by decide) ?_
            refine k_calli (a := []) (z := rwW a cJ f) (wc := []) (wc' := []) (w' := rwW a cJ f) (va_runS (As := [.int (nI k), .int 2]) (rest := [.ref a, .int (nI (48 + 8 * k + 2)), .ref a]) ⟨hx, hb, hml, hown, hts⟩ (c_X5_p l D cI cJ (nI k) 2 _) (cwS 2 hts gX5_rests_X5_p rfl rfl rfl (by decide +kernel) ⟨Nat.le_of_ble_eq_true rfl, Nat.le_of_ble_eq_true rfl⟩) ⟨kB_blind, k_pre (a := []) (z := rwW a cJ f) rfl hK hP hD⟩ rfl rfl hl.1 rfl (lv_room (Nat.le_of_ble_eq_true rfl)) dX5_rests_49 ⟨Nat.zero_le _, Nat.zero_le _⟩) rfl rfl rfl hP hD hS hA (fun H locs hP hD hS => ?_)
            rw [show 48 + 8 * (nI k) + 2 = nI (48 + 8 * k + 2) from k_p k 2]
            refine va_lald (f := f) hx hb hK hP 0 1 rfl rfl (k_in (k := 48 + 8 * k + 2) rfl (by omega) (by decide)) dX5_rests_52 ?_
            rw [show (nI (48 + 8 * k + 2) : Int32).toNatClampNeg = 48 + 8 * k + 2 from nI_clamp (by omega)]
            refine va_last (f := f) hx hb hK hP hD hS 0 1 rfl rfl (k_in (k := 48 + 8 * k + 2) rfl (by omega) (by decide)) dX5_rests_53 (fun H locs hP hD hS => ?_)
            rw [show (nI (48 + 8 * k + 2) : Int32).toNatClampNeg = 48 + 8 * k + 2 from nI_clamp (by omega)] at hP hD
            have hP : va_P D vwCl (rwW a cJ (vp_updL f (48 + 8 * k + 2) (f (48 + 8 * k + 2)))) H := hP
            have hD : va_D A9 (rwW a cJ (vp_updL f (48 + 8 * k + 2) (f (48 + 8 * k + 2)))) := hD
            refine lv_iinc (v := (nI k) + 1) (lv' := [(2, .int ((nI k) + 1)), (0, .ref a), (1, .int (nI (n - 1)))]) hx hb dX5_rests_54 hl (k := 2) rfl rfl (by decide) rfl (fun ls hl => ?_)
            refine lv_goto (tgt := 19) hx hb dX5_rests_57 (by decide) ?_
            rw [show ((nI k) + 1) = (nI (k + 1)) from nI_1 _] at hl
            exact ih_19 (k + 1) (vp_updL f (48 + 8 * k + 2) (f (48 + 8 * k + 2))) (by omega) (by omega) (by rw [itr_s, e19]; simp [m_offB, c_5_0, c_21_2, c_39_5]) _ _ _ hP hD hS (lv_sub hl [1, 2, 0] rfl)
          · have c_39_5 : (f (48 + 8 * k + 2)) = 1 := (lg_cmp_eq (f (48 + 8 * k + 2)) 1).mp c_39_5
            refine lv_lconst (v := 0) hx hb dX5_rests_42 (by decide) ?_
            refine lv_goto (tgt := 53) hx hb dX5_rests_43 (by decide) ?_
            refine va_last (f := f) hx hb hK hP hD hS 0 1 rfl rfl (k_in (k := 48 + 8 * k + 2) rfl (by omega) (by decide)) dX5_rests_53 (fun H locs hP hD hS => ?_)
            rw [show (nI (48 + 8 * k + 2) : Int32).toNatClampNeg = 48 + 8 * k + 2 from nI_clamp (by omega)] at hP hD
            have hP : va_P D vwCl (rwW a cJ (vp_updL f (48 + 8 * k + 2) 0)) H := hP
            have hD : va_D A9 (rwW a cJ (vp_updL f (48 + 8 * k + 2) 0)) := hD
            refine lv_iinc (v := (nI k) + 1) (lv' := [(2, .int ((nI k) + 1)), (0, .ref a), (1, .int (nI (n - 1)))]) hx hb dX5_rests_54 hl (k := 2) rfl rfl (by decide) rfl (fun ls hl => ?_)
            refine lv_goto (tgt := 19) hx hb dX5_rests_57 (by decide) ?_
            rw [show ((nI k) + 1) = (nI (k + 1)) from nI_1 _] at hl
            exact ih_19 (k + 1) (vp_updL f (48 + 8 * k + 2) 0) (by omega) (by omega) (by rw [itr_s, e19]; simp [m_offB, c_5_0, c_21_2, c_39_5]) _ _ _ hP hD hS (lv_sub hl [1, 2, 0] rfl)
    exact L_19_1 (n + 1) 0 w (by omega) (by omega) (rfl) _ _ _ hP hD hS (lv_sub hl [2, 1, 0] rfl)
  · have c_5_0 : (m_many w n 1) = 0 := c_5_0
    exact k_vret hx hb hr hlk hP hS dX5_rests_8 (k_P (by simp [m_rest, c_5_0]))

set_option maxHeartbeats 1000000 in
set_option maxRecDepth 100000 in
theorem c_X5_logs (l : Launch) (D : va_G) (a : Nat) (cI cJ : ClassId) (w : Nat → Int64) (j : Nat) (hj : j < 6) : kV l yX5_logs wsX5_logs ({ frames := 1, cells := 0, slots := 0, locals := 21 } : Room) D [(cI, .int), (cJ, .long)] [.ref a, .int (nI j)] (rwW a cJ w) (rwW a cJ (m_logs w j)) := by
  refine kBody.met (cc := cX5_logs) (maxL := 3) (ret := none) (by decide) rfl (Nat.le_of_ble_eq_true rfl) ?_
  intro p9 e9 s9 m9 below meth c9 A9 ls hx hb hr hml hts hown hlk hK hP hD hA hl
  have hown : s9.vm.findClass RX5 = some m9.cls := hown
  have hS : va_S A9 s9.heap s9.heap [] := va_S.rf
  have hl : lv_has ls 3 [(0, .ref a), (1, .int (nI j))] := hl
  refine lv_sipush (v := 137) hx hb dX5_logs_0 (by decide) ?_
  refine lv_istore_n (lv' := [(2, .int 137), (0, .ref a), (1, .int (nI j))]) hx hb dX5_logs_3 rfl hl (by decide) rfl (fun ls hl => ?_)
  have L_4_0 : ∀ (d : Nat) (k : Nat) (f : Nat → Int64), 33 < k + d → k ≤ 33 → ∀  (e4 : itr m_logB k w = f) (H : Heap) (locs : List Loc) (ls : Array Slot), va_P D vwCl (rwW a cJ f) H → va_D A9 (rwW a cJ f) → va_S A9 s9.heap H locs → lv_has ls 3 [(0, .ref a), (1, .int (nI j)), (2, .int (nI (137 - k)))] → W p9 l e9 ({ frames := 1, cells := 0, slots := 0, locals := 21 } : Room) s9 m9 (List.toArray [.ref a, .int (nI j)]) below meth c9 H locs 0 0 (MQ below (va_Qv (fun (_ : Unit) => True) (fun _ t9 => va_P D vwCl (rwW a cJ (m_logs w j)) t9.heap) A9) (List.toArray [.ref a, .int (nI j)]) s9 0 0 A9) (F0 m9 4 ls []) := by
    intro d
    induction d with
    | zero =>
      intro k f hf
      intro hkn; exact absurd hf (by omega)
    | succ d ih_4 =>
      intro k f hf_4 hkn_4 e4 H locs ls hP hD hS hl
      refine lv_iload_n hx hb dX5_logs_4 rfl (lv_at hl 2 rfl) ?_
      refine lv_bipush (v := 105) hx hb dX5_logs_5 (by decide) ?_
      refine lv_icmp_lt (tgt := 24) hx hb dX5_logs_7 (by decide) (fun c_7_1 => ?_) (fun c_7_1 => ?_)
      · have c_7_1 : (nI (137 - k)) < 105 := c_7_1
        have hke_4 : k = 33 := by
          rcases Nat.lt_or_ge k 33 with q9 | q9
          · exact absurd (show nI (137 - k) < nI 105 from c_7_1) (nI_nlt (by omega) (by omega))
          · omega
        refine lv_aload_n hx hb dX5_logs_24 rfl (lv_at hl 0 rfl) ?_
        refine lv_bipush (v := 102) hx hb dX5_logs_25 (by decide) ?_
        refine lv_iload_n hx hb dX5_logs_27 rfl (lv_at hl 1 rfl) ?_
        refine lv_i2l hx hb dX5_logs_28 rfl ?_
        refine va_last (f := f) hx hb hK hP hD hS 0 1 rfl rfl (k_in (k := 102) rfl (by decide) (by decide)) dX5_logs_29 (fun H locs hP hD hS => ?_)
        rw [show (102 : Int32).toNatClampNeg = 102 from rfl] at hP hD
        have hP : va_P D vwCl (rwW a cJ (vp_updL f 102 ((nI j).toInt64))) H := hP
        have hD : va_D A9 (rwW a cJ (vp_updL f 102 ((nI j).toInt64))) := hD
        refine lv_aload_n hx hb dX5_logs_30 rfl (lv_at hl 0 rfl) ?_
        refine lv_bipush (v := 103) hx hb dX5_logs_31 (by decide) ?_
        refine lv_aload_n hx hb dX5_logs_33 rfl (lv_at hl 0 rfl) ?_
        refine lv_bipush (v := 8) hx hb dX5_logs_34 (by decide) ?_
        refine va_lald (f := vp_updL f 102 ((nI j).toInt64)) hx hb hK hP 0 1 rfl rfl (k_in (k := 8) rfl (by decide) (by decide)) dX5_logs_36 ?_
        rw [show (8 : Int32).toNatClampNeg = 8 from rfl]
        rw [show (vp_updL f 102 ((nI j).toInt64)) 8 = f 8 from (pk_uLn (by omega)).trans (rfl)]
        refine va_last (f := vp_updL f 102 ((nI j).toInt64)) hx hb hK hP hD hS 0 1 rfl rfl (k_in (k := 103) rfl (by decide) (by decide)) dX5_logs_37 (fun H locs hP hD hS => ?_)
        rw [show (103 : Int32).toNatClampNeg = 103 from rfl] at hP hD
        have hP : va_P D vwCl (rwW a cJ (vp_updL (vp_updL f 102 ((nI j).toInt64)) 103 (f 8))) H := hP
        have hD : va_D A9 (rwW a cJ (vp_updL (vp_updL f 102 ((nI j).toInt64)) 103 (f 8))) := hD
        refine lv_aload_n hx hb dX5_logs_38 rfl (lv_at hl 0 rfl) ?_
        refine lv_bipush (v := 104) hx hb dX5_logs_39 (by decide) ?_
        refine lv_aload_n hx hb dX5_logs_41 rfl (lv_at hl 0 rfl) ?_
        refine lv_iload_n hx hb dX5_logs_42 rfl (lv_at hl 1 rfl) ?_
        refine lv_iconst (v := 3) hx hb dX5_logs_43 (by decide) ?_
        refine k_calli (a := []) (z := rwW a cJ (vp_updL (vp_updL f 102 ((nI j).toInt64)) 103 (f 8))) (wc := []) (wc' := []) (w' := rwW a cJ (vp_updL (vp_updL f 102 ((nI j).toInt64)) 103 (f 8))) (va_runS (As := [.int (nI j), .int 3]) (rest := [.ref a, .int 104, .ref a]) ⟨hx, hb, hml, hown, hts⟩ (c_X5_p l D cI cJ (nI j) 3 _) (cwS 2 hts gX5_logs_X5_p rfl rfl rfl (by decide +kernel) ⟨Nat.le_of_ble_eq_true rfl, Nat.le_of_ble_eq_true rfl⟩) ⟨kB_blind, k_pre (a := []) (z := rwW a cJ (vp_updL (vp_updL f 102 ((nI j).toInt64)) 103 (f 8))) rfl hK hP hD⟩ rfl rfl hl.1 rfl (lv_room (Nat.le_of_ble_eq_true rfl)) dX5_logs_44 ⟨Nat.zero_le _, Nat.zero_le _⟩) rfl rfl rfl hP hD hS hA (fun H locs hP hD hS => ?_)
        rw [show 48 + 8 * (nI j) + 3 = nI (48 + 8 * j + 3) from k_p j 3]
        refine va_lald (f := vp_updL (vp_updL f 102 ((nI j).toInt64)) 103 (f 8)) hx hb hK hP 0 1 rfl rfl (k_in (k := 48 + 8 * j + 3) rfl (by omega) (by decide)) dX5_logs_47 ?_
        rw [show (nI (48 + 8 * j + 3) : Int32).toNatClampNeg = 48 + 8 * j + 3 from nI_clamp (by omega)]
        rw [show (vp_updL (vp_updL f 102 ((nI j).toInt64)) 103 (f 8)) (48 + 8 * j + 3) = f (48 + 8 * j + 3) from (pk_uLn (by omega)).trans ((pk_uLn (by omega)).trans (rfl))]
        refine va_last (f := vp_updL (vp_updL f 102 ((nI j).toInt64)) 103 (f 8)) hx hb hK hP hD hS 0 1 rfl rfl (k_in (k := 104) rfl (by decide) (by decide)) dX5_logs_48 (fun H locs hP hD hS => ?_)
        rw [show (104 : Int32).toNatClampNeg = 104 from rfl] at hP hD
        have hP : va_P D vwCl (rwW a cJ (vp_updL (vp_updL (vp_updL f 102 ((nI j).toInt64)) 103 (f 8)) 104 (f (48 + 8 * j + 3)))) H := hP
        have hD : va_D A9 (rwW a cJ (vp_updL (vp_updL (vp_updL f 102 ((nI j).toInt64)) 103 (f 8)) 104 (f (48 + 8 * j + 3)))) := hD
        refine lv_aload_n hx hb dX5_logs_49 rfl (lv_at hl 0 rfl) ?_
        refine lv_bipush (v := 13) hx hb dX5_logs_50 (by decide) ?_
        refine lv_dup2_11 hx hb dX5_logs_52 rfl rfl ?_
        refine va_lald (f := vp_updL (vp_updL (vp_updL f 102 ((nI j).toInt64)) 103 (f 8)) 104 (f (48 + 8 * j + 3))) hx hb hK hP 0 1 rfl rfl (k_in (k := 13) rfl (by decide) (by decide)) dX5_logs_53 ?_
        rw [show (13 : Int32).toNatClampNeg = 13 from rfl]
        rw [show (vp_updL (vp_updL (vp_updL f 102 ((nI j).toInt64)) 103 (f 8)) 104 (f (48 + 8 * j + 3))) 13 = f 13 from (pk_uLn (by omega)).trans ((pk_uLn (by omega)).trans ((pk_uLn (by omega)).trans (rfl)))]
        refine lv_aload_n hx hb dX5_logs_54 rfl (lv_at hl 0 rfl) ?_
        refine lv_bipush (v := 13) hx hb dX5_logs_55 (by decide) ?_
        refine va_lald (f := vp_updL (vp_updL (vp_updL f 102 ((nI j).toInt64)) 103 (f 8)) 104 (f (48 + 8 * j + 3))) hx hb hK hP 0 1 rfl rfl (k_in (k := 13) rfl (by decide) (by decide)) dX5_logs_57 ?_
        rw [show (13 : Int32).toNatClampNeg = 13 from rfl]
        rw [show (vp_updL (vp_updL (vp_updL f 102 ((nI j).toInt64)) 103 (f 8)) 104 (f (48 + 8 * j + 3))) 13 = f 13 from (pk_uLn (by omega)).trans ((pk_uLn (by omega)).trans ((pk_uLn (by omega)).trans (rfl)))]
        refine lv_ldc2 (v := 12) hx hb hown (hts (.constantLong RX5 78 (12)) (List.mem_of_getElem? (i := 1) rfl)) dX5_logs_58 ?_
        refine W.lcmp hx hb dX5_logs_61 ?_
        refine lv_if_ge (tgt := 69) hx hb dX5_logs_62 (by decide) (fun c_62_2 => ?_) (fun c_62_2 => ?_)
        · have c_62_2 : 12 ≤ (f 13) := (lg_cmp_ge (f 13) 12).mp c_62_2
          refine lv_lconst (v := 0) hx hb dX5_logs_69 (by decide) ?_
          refine lv_ladd hx hb dX5_logs_70 ?_
          refine va_last (f := vp_updL (vp_updL (vp_updL f 102 ((nI j).toInt64)) 103 (f 8)) 104 (f (48 + 8 * j + 3))) hx hb hK hP hD hS 0 1 rfl rfl (k_in (k := 13) rfl (by decide) (by decide)) dX5_logs_71 (fun H locs hP hD hS => ?_)
          rw [show (13 : Int32).toNatClampNeg = 13 from rfl] at hP hD
          have hP : va_P D vwCl (rwW a cJ (vp_updL (vp_updL (vp_updL (vp_updL f 102 ((nI j).toInt64)) 103 (f 8)) 104 (f (48 + 8 * j + 3))) 13 ((f 13) + 0))) H := hP
          have hD : va_D A9 (rwW a cJ (vp_updL (vp_updL (vp_updL (vp_updL f 102 ((nI j).toInt64)) 103 (f 8)) 104 (f (48 + 8 * j + 3))) 13 ((f 13) + 0))) := hD
          exact k_vret hx hb hr hlk hP hS dX5_logs_72 (k_P (by rw [hke_4] at e4; simp [m_logs, m_log3, m_logF, e4, c_7_1, c_62_2]))
        · have c_62_2 : ¬ 12 ≤ (f 13) := mt (lg_cmp_ge (f 13) 12).mpr c_62_2
          refine lv_lconst (v := 1) hx hb dX5_logs_65 (by decide) ?_
          refine lv_goto (tgt := 70) hx hb dX5_logs_66 (by decide) ?_
          refine lv_ladd hx hb dX5_logs_70 ?_
          refine va_last (f := vp_updL (vp_updL (vp_updL f 102 ((nI j).toInt64)) 103 (f 8)) 104 (f (48 + 8 * j + 3))) hx hb hK hP hD hS 0 1 rfl rfl (k_in (k := 13) rfl (by decide) (by decide)) dX5_logs_71 (fun H locs hP hD hS => ?_)
          rw [show (13 : Int32).toNatClampNeg = 13 from rfl] at hP hD
          have hP : va_P D vwCl (rwW a cJ (vp_updL (vp_updL (vp_updL (vp_updL f 102 ((nI j).toInt64)) 103 (f 8)) 104 (f (48 + 8 * j + 3))) 13 ((f 13) + 1))) H := hP
          have hD : va_D A9 (rwW a cJ (vp_updL (vp_updL (vp_updL (vp_updL f 102 ((nI j).toInt64)) 103 (f 8)) 104 (f (48 + 8 * j + 3))) 13 ((f 13) + 1))) := hD
          exact k_vret hx hb hr hlk hP hS dX5_logs_72 (k_P (by rw [hke_4] at e4; simp [m_logs, m_log3, m_logF, e4, c_7_1, c_62_2]))
      · have c_7_1 : ¬ (nI (137 - k)) < 105 := c_7_1
        have hkl_4 : k < 33 := by
          rcases Nat.lt_or_ge k 33 with q9 | q9
          · exact q9
          · exact absurd (show nI (137 - k) < nI 105 from nI_lt (by omega) (by decide)) c_7_1
        refine lv_aload_n hx hb dX5_logs_10 rfl (lv_at hl 0 rfl) ?_
        refine lv_iload_n hx hb dX5_logs_11 rfl (lv_at hl 2 rfl) ?_
        refine lv_aload_n hx hb dX5_logs_12 rfl (lv_at hl 0 rfl) ?_
        refine lv_iload_n hx hb dX5_logs_13 rfl (lv_at hl 2 rfl) ?_
        refine lv_iconst (v := 3) hx hb dX5_logs_14 (by decide) ?_
        refine lv_isub hx hb dX5_logs_15 ?_
        refine va_lald (f := f) hx hb hK hP 0 1 rfl rfl (k_in (k := 134 - k) (show nI (137 - k) - 3 = nI (134 - k) from by rw [show (3 : Int32) = nI 3 from rfl, pk_sub (by omega)]; congr 1; omega) (by omega) (by decide)) dX5_logs_16 ?_
        rw [show ((nI (137 - k)) - 3 : Int32).toNatClampNeg = 134 - k from k_cl (show nI (137 - k) - 3 = nI (134 - k) from by rw [show (3 : Int32) = nI 3 from rfl, pk_sub (by omega)]; congr 1; omega) (by omega)]
        refine va_last (f := f) hx hb hK hP hD hS 0 1 rfl rfl (k_in (k := 137 - k) rfl (by omega) (by decide)) dX5_logs_17 (fun H locs hP hD hS => ?_)
        rw [show (nI (137 - k) : Int32).toNatClampNeg = 137 - k from nI_clamp (by omega)] at hP hD
        have hP : va_P D vwCl (rwW a cJ (vp_updL f (137 - k) (f (134 - k)))) H := hP
        have hD : va_D A9 (rwW a cJ (vp_updL f (137 - k) (f (134 - k)))) := hD
        refine lv_iinc (v := (nI (137 - k)) + (-1)) (lv' := [(2, .int ((nI (137 - k)) + (-1))), (0, .ref a), (1, .int (nI j))]) hx hb dX5_logs_18 hl (k := 2) rfl rfl (by decide) rfl (fun ls hl => ?_)
        refine lv_goto (tgt := 4) hx hb dX5_logs_21 (by decide) ?_
        rw [show ((nI (137 - k)) + (-1)) = (nI (137 - (k + 1))) from (by rw [show 137 - k = (137 - (k + 1)) + 1 by omega]; exact pk_m1 _)] at hl
        exact ih_4 (k + 1) (vp_updL f (137 - k) (f (134 - k))) (by omega) (by omega) (by rw [itr_s, e4]; simp [m_logB, c_7_1]) _ _ _ hP hD hS (lv_sub hl [1, 2, 0] rfl)
  exact L_4_0 (33 + 1) 0 w (by omega) (by omega) (rfl) _ _ _ hP hD hS (lv_sub hl [1, 2, 0] rfl)

set_option maxHeartbeats 1000000 in
set_option maxRecDepth 100000 in
theorem c_X5_starts (l : Launch) (D : va_G) (a : Nat) (cI cJ : ClassId) (w : Nat → Int64) (j : Nat) (hj : j < 6) : kV l yX5_starts wsX5_starts ({ frames := 2, cells := 0, slots := 0, locals := 43 } : Room) D [(cI, .int), (cJ, .long)] [.ref a, .int (nI j)] (rwW a cJ w) (rwW a cJ (m_start w j)) := by
  refine kBody.met (cc := cX5_starts) (maxL := 3) (ret := none) (by decide) rfl (Nat.le_of_ble_eq_true rfl) ?_
  intro p9 e9 s9 m9 below meth c9 A9 ls hx hb hr hml hts hown hlk hK hP hD hA hl
  have hown : s9.vm.findClass RX5 = some m9.cls := hown
  have hS : va_S A9 s9.heap s9.heap [] := va_S.rf
  have hl : lv_has ls 3 [(0, .ref a), (1, .int (nI j))] := hl
  refine lv_aload_n hx hb dX5_starts_0 rfl (lv_at hl 0 rfl) ?_
  refine lv_iload_n hx hb dX5_starts_1 rfl (lv_at hl 1 rfl) ?_
  refine lv_iconst (v := 3) hx hb dX5_starts_2 (by decide) ?_
  refine k_calli (a := []) (z := rwW a cJ w) (wc := []) (wc' := []) (w' := rwW a cJ w) (va_runS (As := [.int (nI j), .int 3]) (rest := [.ref a]) ⟨hx, hb, hml, hown, hts⟩ (c_X5_p l D cI cJ (nI j) 3 _) (cwS 2 hts gX5_starts_X5_p rfl rfl rfl (by decide +kernel) ⟨Nat.le_of_ble_eq_true rfl, Nat.le_of_ble_eq_true rfl⟩) ⟨kB_blind, k_pre (a := []) (z := rwW a cJ w) rfl hK hP hD⟩ rfl rfl hl.1 rfl (lv_room (Nat.le_of_ble_eq_true rfl)) dX5_starts_3 ⟨Nat.zero_le _, Nat.zero_le _⟩) rfl rfl rfl hP hD hS hA (fun H locs hP hD hS => ?_)
  rw [show 48 + 8 * (nI j) + 3 = nI (48 + 8 * j + 3) from k_p j 3]
  refine va_lald (f := w) hx hb hK hP 0 1 rfl rfl (k_in (k := 48 + 8 * j + 3) rfl (by omega) (by decide)) dX5_starts_6 ?_
  rw [show (nI (48 + 8 * j + 3) : Int32).toNatClampNeg = 48 + 8 * j + 3 from nI_clamp (by omega)]
  refine lv_aload_n hx hb dX5_starts_7 rfl (lv_at hl 0 rfl) ?_
  refine lv_iload_n hx hb dX5_starts_8 rfl (lv_at hl 1 rfl) ?_
  refine lv_iconst (v := 1) hx hb dX5_starts_9 (by decide) ?_
  refine k_calli (a := []) (z := rwW a cJ w) (wc := []) (wc' := []) (w' := rwW a cJ w) (va_runS (As := [.int (nI j), .int 1]) (rest := [.ref a, .long (w (48 + 8 * j + 3))]) ⟨hx, hb, hml, hown, hts⟩ (c_X5_p l D cI cJ (nI j) 1 _) (cwS 2 hts gX5_starts_X5_p rfl rfl rfl (by decide +kernel) ⟨Nat.le_of_ble_eq_true rfl, Nat.le_of_ble_eq_true rfl⟩) ⟨kB_blind, k_pre (a := []) (z := rwW a cJ w) rfl hK hP hD⟩ rfl rfl hl.1 rfl (lv_room (Nat.le_of_ble_eq_true rfl)) dX5_starts_10 ⟨Nat.zero_le _, Nat.zero_le _⟩) rfl rfl rfl hP hD hS hA (fun H locs hP hD hS => ?_)
  rw [show 48 + 8 * (nI j) + 1 = nI (48 + 8 * j + 1) from k_p j 1]
  refine va_lald (f := w) hx hb hK hP 0 1 rfl rfl (k_in (k := 48 + 8 * j + 1) rfl (by omega) (by decide)) dX5_starts_13 ?_
  rw [show (nI (48 + 8 * j + 1) : Int32).toNatClampNeg = 48 + 8 * j + 1 from nI_clamp (by omega)]
  refine W.lcmp hx hb dX5_starts_14 ?_
  refine lv_if_lt (tgt := 22) hx hb dX5_starts_15 (by decide) (fun c_15_0 => ?_) (fun c_15_0 => ?_)
  · have c_15_0 : (w (48 + 8 * j + 3)) < (w (48 + 8 * j + 1)) := (lg_cmp_lt (w (48 + 8 * j + 3)) (w (48 + 8 * j + 1))).mp c_15_0
    refine lv_iconst (v := 0) hx hb dX5_starts_22 (by decide) ?_
    refine lv_istore_n (lv' := [(2, .int 0), (0, .ref a), (1, .int (nI j))]) hx hb dX5_starts_23 rfl hl (by decide) rfl (fun ls hl => ?_)
    refine lv_aload_n hx hb dX5_starts_24 rfl (lv_at hl 1 rfl) ?_
    refine lv_iload_n hx hb dX5_starts_25 rfl (lv_at hl 2 rfl) ?_
    refine lv_iconst (v := 2) hx hb dX5_starts_26 (by decide) ?_
    refine k_calli (a := []) (z := rwW a cJ w) (wc := []) (wc' := []) (w' := rwW a cJ w) (va_runS (As := [.int (nI j), .int 2]) (rest := [.ref a]) ⟨hx, hb, hml, hown, hts⟩ (c_X5_p l D cI cJ (nI j) 2 _) (cwS 2 hts gX5_starts_X5_p rfl rfl rfl (by decide +kernel) ⟨Nat.le_of_ble_eq_true rfl, Nat.le_of_ble_eq_true rfl⟩) ⟨kB_blind, k_pre (a := []) (z := rwW a cJ w) rfl hK hP hD⟩ rfl rfl hl.1 rfl (lv_room (Nat.le_of_ble_eq_true rfl)) dX5_starts_27 ⟨Nat.zero_le _, Nat.zero_le _⟩) rfl rfl rfl hP hD hS hA (fun H locs hP hD hS => ?_)
    rw [show 48 + 8 * (nI j) + 2 = nI (48 + 8 * j + 2) from k_p j 2]
    refine lv_lconst (v := 1) hx hb dX5_starts_30 (by decide) ?_
    refine va_last (f := w) hx hb hK hP hD hS 0 1 rfl rfl (k_in (k := 48 + 8 * j + 2) rfl (by omega) (by decide)) dX5_starts_31 (fun H locs hP hD hS => ?_)
    rw [show (nI (48 + 8 * j + 2) : Int32).toNatClampNeg = 48 + 8 * j + 2 from nI_clamp (by omega)] at hP hD
    have hP : va_P D vwCl (rwW a cJ (vp_updL w (48 + 8 * j + 2) 1)) H := hP
    have hD : va_D A9 (rwW a cJ (vp_updL w (48 + 8 * j + 2) 1)) := hD
    refine lv_aload_n hx hb dX5_starts_32 rfl (lv_at hl 1 rfl) ?_
    refine lv_iload_n hx hb dX5_starts_33 rfl (lv_at hl 2 rfl) ?_
    refine lv_iconst (v := 3) hx hb dX5_starts_34 (by decide) ?_
    refine k_calli (a := []) (z := rwW a cJ (vp_updL w (48 + 8 * j + 2) 1)) (wc := []) (wc' := []) (w' := rwW a cJ (vp_updL w (48 + 8 * j + 2) 1)) (va_runS (As := [.int (nI j), .int 3]) (rest := [.ref a]) ⟨hx, hb, hml, hown, hts⟩ (c_X5_p l D cI cJ (nI j) 3 _) (cwS 2 hts gX5_starts_X5_p rfl rfl rfl (by decide +kernel) ⟨Nat.le_of_ble_eq_true rfl, Nat.le_of_ble_eq_true rfl⟩) ⟨kB_blind, k_pre (a := []) (z := rwW a cJ (vp_updL w (48 + 8 * j + 2) 1)) rfl hK hP hD⟩ rfl rfl hl.1 rfl (lv_room (Nat.le_of_ble_eq_true rfl)) dX5_starts_35 ⟨Nat.zero_le _, Nat.zero_le _⟩) rfl rfl rfl hP hD hS hA (fun H locs hP hD hS => ?_)
    rw [show 48 + 8 * (nI j) + 3 = nI (48 + 8 * j + 3) from k_p j 3]
    refine lv_dup2_11 hx hb dX5_starts_38 rfl rfl ?_
    refine va_lald (f := vp_updL w (48 + 8 * j + 2) 1) hx hb hK hP 0 1 rfl rfl (k_in (k := 48 + 8 * j + 3) rfl (by omega) (by decide)) dX5_starts_39 ?_
    rw [show (nI (48 + 8 * j + 3) : Int32).toNatClampNeg = 48 + 8 * j + 3 from nI_clamp (by omega)]
    rw [show (vp_updL w (48 + 8 * j + 2) 1) (48 + 8 * j + 3) = w (48 + 8 * j + 3) from (pk_uLn (by omega)).trans (rfl)]
    refine lv_lconst (v := 1) hx hb dX5_starts_40 (by decide) ?_
    refine lv_ladd hx hb dX5_starts_41 ?_
    refine va_last (f := vp_updL w (48 + 8 * j + 2) 1) hx hb hK hP hD hS 0 1 rfl rfl (k_in (k := 48 + 8 * j + 3) rfl (by omega) (by decide)) dX5_starts_42 (fun H locs hP hD hS => ?_)
    rw [show (nI (48 + 8 * j + 3) : Int32).toNatClampNeg = 48 + 8 * j + 3 from nI_clamp (by omega)] at hP hD
    have hP : va_P D vwCl (rwW a cJ (vp_updL (vp_updL w (48 + 8 * j + 2) 1) (48 + 8 * j + 3) ((w (48 + 8 * j + 3)) + 1))) H := hP
    have hD : va_D A9 (rwW a cJ (vp_updL (vp_updL w (48 + 8 * j + 2) 1) (48 + 8 * j + 3) ((w (48 + 8 * j + 3)) + 1))) := hD
    refine lv_aload_n hx hb dX5_starts_43 rfl (lv_at hl 1 rfl) ?_
    refine lv_iload_n hx hb dX5_starts_44 rfl (lv_at hl 2 rfl) ?_
    refine lv_iconst (v := 4) hx hb dX5_starts_45 (by decide) ?_
    refine k_calli (a := []) (z := rwW a cJ (vp_updL (vp_updL w (48 + 8 * j + 2) 1) (48 + 8 * j + 3) ((w (48 + 8 * j + 3)) + 1))) (wc := []) (wc' := []) (w' := rwW a cJ (vp_updL (vp_updL w (48 + 8 * j + 2) 1) (48 + 8 * j + 3) ((w (48 + 8 * j + 3)) + 1))) (va_runS (As := [.int (nI j), .int 4]) (rest := [.ref a]) ⟨hx, hb, hml, hown, hts⟩ (c_X5_p l D cI cJ (nI j) 4 _) (cwS 2 hts gX5_starts_X5_p rfl rfl rfl (by decide +kernel) ⟨Nat.le_of_ble_eq_true rfl, Nat.le_of_ble_eq_true rfl⟩) ⟨kB_blind, k_pre (a := []) (z := rwW a cJ (vp_updL (vp_updL w (48 + 8 * j + 2) 1) (48 + 8 * j + 3) ((w (48 + 8 * j + 3)) + 1))) rfl hK hP hD⟩ rfl rfl hl.1 rfl (lv_room (Nat.le_of_ble_eq_true rfl)) dX5_starts_46 ⟨Nat.zero_le _, Nat.zero_le _⟩) rfl rfl rfl hP hD hS hA (fun H locs hP hD hS => ?_)
    rw [show 48 + 8 * (nI j) + 4 = nI (48 + 8 * j + 4) from k_p j 4]
    refine lv_dup2_11 hx hb dX5_starts_49 rfl rfl ?_
    refine va_lald (f := vp_updL (vp_updL w (48 + 8 * j + 2) 1) (48 + 8 * j + 3) ((w (48 + 8 * j + 3)) + 1)) hx hb hK hP 0 1 rfl rfl (k_in (k := 48 + 8 * j + 4) rfl (by omega) (by decide)) dX5_starts_50 ?_
    rw [show (nI (48 + 8 * j + 4) : Int32).toNatClampNeg = 48 + 8 * j + 4 from nI_clamp (by omega)]
    rw [show (vp_updL (vp_updL w (48 + 8 * j + 2) 1) (48 + 8 * j + 3) ((w (48 + 8 * j + 3)) + 1)) (48 + 8 * j + 4) = w (48 + 8 * j + 4) from (pk_uLn (by omega)).trans ((pk_uLn (by omega)).trans (rfl))]
    refine lv_lconst (v := 1) hx hb dX5_starts_51 (by decide) ?_
    refine lv_ladd hx hb dX5_starts_52 ?_
    refine va_last (f := vp_updL (vp_updL w (48 + 8 * j + 2) 1) (48 + 8 * j + 3) ((w (48 + 8 * j + 3)) + 1)) hx hb hK hP hD hS 0 1 rfl rfl (k_in (k := 48 + 8 * j + 4) rfl (by omega) (by decide)) dX5_starts_53 (fun H locs hP hD hS => ?_)
    rw [show (nI (48 + 8 * j + 4) : Int32).toNatClampNeg = 48 + 8 * j + 4 from nI_clamp (by omega)] at hP hD
    have hP : va_P D vwCl (rwW a cJ (vp_updL (vp_updL (vp_updL w (48 + 8 * j + 2) 1) (48 + 8 * j + 3) ((w (48 + 8 * j + 3)) + 1)) (48 + 8 * j + 4) ((w (48 + 8 * j + 4)) + 1))) H := hP
    have hD : va_D A9 (rwW a cJ (vp_updL (vp_updL (vp_updL w (48 + 8 * j + 2) 1) (48 + 8 * j + 3) ((w (48 + 8 * j + 3)) + 1)) (48 + 8 * j + 4) ((w (48 + 8 * j + 4)) + 1))) := hD
    refine lv_iload_n hx hb dX5_starts_54 rfl (lv_at hl 0 rfl) ?_
    refine lv_if_eq (tgt := 83) hx hb dX5_starts_55 (by decide) (fun _ => ?_) (fun h => absurd h (by decide))
    exact k_vret hx hb hr hlk hP hS dX5_starts_83 (k_P (by simp only [m_start, m_st1, c_15_0]; rfl))
  · have c_15_0 : ¬ (w (48 + 8 * j + 3)) < (w (48 + 8 * j + 1)) := mt (lg_cmp_lt (w (48 + 8 * j + 3)) (w (48 + 8 * j + 1))).mpr c_15_0
    refine lv_iconst (v := 1) hx hb dX5_starts_18 (by decide) ?_
    refine lv_goto (tgt := 23) hx hb dX5_starts_19 (by decide) ?_
    refine lv_istore_n (lv' := [(2, .int 1), (0, .ref a), (1, .int (nI j))]) hx hb dX5_starts_23 rfl hl (by decide) rfl (fun ls hl => ?_)
    refine lv_aload_n hx hb dX5_starts_24 rfl (lv_at hl 1 rfl) ?_
    refine lv_iload_n hx hb dX5_starts_25 rfl (lv_at hl 2 rfl) ?_
    refine lv_iconst (v := 2) hx hb dX5_starts_26 (by decide) ?_
    refine k_calli (a := []) (z := rwW a cJ w) (wc := []) (wc' := []) (w' := rwW a cJ w) (va_runS (As := [.int (nI j), .int 2]) (rest := [.ref a]) ⟨hx, hb, hml, hown, hts⟩ (c_X5_p l D cI cJ (nI j) 2 _) (cwS 2 hts gX5_starts_X5_p rfl rfl rfl (by decide +kernel) ⟨Nat.le_of_ble_eq_true rfl, Nat.le_of_ble_eq_true rfl⟩) ⟨kB_blind, k_pre (a := []) (z := rwW a cJ w) rfl hK hP hD⟩ rfl rfl hl.1 rfl (lv_room (Nat.le_of_ble_eq_true rfl)) dX5_starts_27 ⟨Nat.zero_le _, Nat.zero_le _⟩) rfl rfl rfl hP hD hS hA (fun H locs hP hD hS => ?_)
    rw [show 48 + 8 * (nI j) + 2 = nI (48 + 8 * j + 2) from k_p j 2]
    refine lv_lconst (v := 1) hx hb dX5_starts_30 (by decide) ?_
    refine va_last (f := w) hx hb hK hP hD hS 0 1 rfl rfl (k_in (k := 48 + 8 * j + 2) rfl (by omega) (by decide)) dX5_starts_31 (fun H locs hP hD hS => ?_)
    rw [show (nI (48 + 8 * j + 2) : Int32).toNatClampNeg = 48 + 8 * j + 2 from nI_clamp (by omega)] at hP hD
    have hP : va_P D vwCl (rwW a cJ (vp_updL w (48 + 8 * j + 2) 1)) H := hP
    have hD : va_D A9 (rwW a cJ (vp_updL w (48 + 8 * j + 2) 1)) := hD
    refine lv_aload_n hx hb dX5_starts_32 rfl (lv_at hl 1 rfl) ?_
    refine lv_iload_n hx hb dX5_starts_33 rfl (lv_at hl 2 rfl) ?_
    refine lv_iconst (v := 3) hx hb dX5_starts_34 (by decide) ?_
    refine k_calli (a := []) (z := rwW a cJ (vp_updL w (48 + 8 * j + 2) 1)) (wc := []) (wc' := []) (w' := rwW a cJ (vp_updL w (48 + 8 * j + 2) 1)) (va_runS (As := [.int (nI j), .int 3]) (rest := [.ref a]) ⟨hx, hb, hml, hown, hts⟩ (c_X5_p l D cI cJ (nI j) 3 _) (cwS 2 hts gX5_starts_X5_p rfl rfl rfl (by decide +kernel) ⟨Nat.le_of_ble_eq_true rfl, Nat.le_of_ble_eq_true rfl⟩) ⟨kB_blind, k_pre (a := []) (z := rwW a cJ (vp_updL w (48 + 8 * j + 2) 1)) rfl hK hP hD⟩ rfl rfl hl.1 rfl (lv_room (Nat.le_of_ble_eq_true rfl)) dX5_starts_35 ⟨Nat.zero_le _, Nat.zero_le _⟩) rfl rfl rfl hP hD hS hA (fun H locs hP hD hS => ?_)
    rw [show 48 + 8 * (nI j) + 3 = nI (48 + 8 * j + 3) from k_p j 3]
    refine lv_dup2_11 hx hb dX5_starts_38 rfl rfl ?_
    refine va_lald (f := vp_updL w (48 + 8 * j + 2) 1) hx hb hK hP 0 1 rfl rfl (k_in (k := 48 + 8 * j + 3) rfl (by omega) (by decide)) dX5_starts_39 ?_
    rw [show (nI (48 + 8 * j + 3) : Int32).toNatClampNeg = 48 + 8 * j + 3 from nI_clamp (by omega)]
    rw [show (vp_updL w (48 + 8 * j + 2) 1) (48 + 8 * j + 3) = w (48 + 8 * j + 3) from (pk_uLn (by omega)).trans (rfl)]
    refine lv_lconst (v := 1) hx hb dX5_starts_40 (by decide) ?_
    refine lv_ladd hx hb dX5_starts_41 ?_
    refine va_last (f := vp_updL w (48 + 8 * j + 2) 1) hx hb hK hP hD hS 0 1 rfl rfl (k_in (k := 48 + 8 * j + 3) rfl (by omega) (by decide)) dX5_starts_42 (fun H locs hP hD hS => ?_)
    rw [show (nI (48 + 8 * j + 3) : Int32).toNatClampNeg = 48 + 8 * j + 3 from nI_clamp (by omega)] at hP hD
    have hP : va_P D vwCl (rwW a cJ (vp_updL (vp_updL w (48 + 8 * j + 2) 1) (48 + 8 * j + 3) ((w (48 + 8 * j + 3)) + 1))) H := hP
    have hD : va_D A9 (rwW a cJ (vp_updL (vp_updL w (48 + 8 * j + 2) 1) (48 + 8 * j + 3) ((w (48 + 8 * j + 3)) + 1))) := hD
    refine lv_aload_n hx hb dX5_starts_43 rfl (lv_at hl 1 rfl) ?_
    refine lv_iload_n hx hb dX5_starts_44 rfl (lv_at hl 2 rfl) ?_
    refine lv_iconst (v := 4) hx hb dX5_starts_45 (by decide) ?_
    refine k_calli (a := []) (z := rwW a cJ (vp_updL (vp_updL w (48 + 8 * j + 2) 1) (48 + 8 * j + 3) ((w (48 + 8 * j + 3)) + 1))) (wc := []) (wc' := []) (w' := rwW a cJ (vp_updL (vp_updL w (48 + 8 * j + 2) 1) (48 + 8 * j + 3) ((w (48 + 8 * j + 3)) + 1))) (va_runS (As := [.int (nI j), .int 4]) (rest := [.ref a]) ⟨hx, hb, hml, hown, hts⟩ (c_X5_p l D cI cJ (nI j) 4 _) (cwS 2 hts gX5_starts_X5_p rfl rfl rfl (by decide +kernel) ⟨Nat.le_of_ble_eq_true rfl, Nat.le_of_ble_eq_true rfl⟩) ⟨kB_blind, k_pre (a := []) (z := rwW a cJ (vp_updL (vp_updL w (48 + 8 * j + 2) 1) (48 + 8 * j + 3) ((w (48 + 8 * j + 3)) + 1))) rfl hK hP hD⟩ rfl rfl hl.1 rfl (lv_room (Nat.le_of_ble_eq_true rfl)) dX5_starts_46 ⟨Nat.zero_le _, Nat.zero_le _⟩) rfl rfl rfl hP hD hS hA (fun H locs hP hD hS => ?_)
    rw [show 48 + 8 * (nI j) + 4 = nI (48 + 8 * j + 4) from k_p j 4]
    refine lv_dup2_11 hx hb dX5_starts_49 rfl rfl ?_
    refine va_lald (f := vp_updL (vp_updL w (48 + 8 * j + 2) 1) (48 + 8 * j + 3) ((w (48 + 8 * j + 3)) + 1)) hx hb hK hP 0 1 rfl rfl (k_in (k := 48 + 8 * j + 4) rfl (by omega) (by decide)) dX5_starts_50 ?_
    rw [show (nI (48 + 8 * j + 4) : Int32).toNatClampNeg = 48 + 8 * j + 4 from nI_clamp (by omega)]
    rw [show (vp_updL (vp_updL w (48 + 8 * j + 2) 1) (48 + 8 * j + 3) ((w (48 + 8 * j + 3)) + 1)) (48 + 8 * j + 4) = w (48 + 8 * j + 4) from (pk_uLn (by omega)).trans ((pk_uLn (by omega)).trans (rfl))]
    refine lv_lconst (v := 1) hx hb dX5_starts_51 (by decide) ?_
    refine lv_ladd hx hb dX5_starts_52 ?_
    refine va_last (f := vp_updL (vp_updL w (48 + 8 * j + 2) 1) (48 + 8 * j + 3) ((w (48 + 8 * j + 3)) + 1)) hx hb hK hP hD hS 0 1 rfl rfl (k_in (k := 48 + 8 * j + 4) rfl (by omega) (by decide)) dX5_starts_53 (fun H locs hP hD hS => ?_)
    rw [show (nI (48 + 8 * j + 4) : Int32).toNatClampNeg = 48 + 8 * j + 4 from nI_clamp (by omega)] at hP hD
    have hP : va_P D vwCl (rwW a cJ (vp_updL (vp_updL (vp_updL w (48 + 8 * j + 2) 1) (48 + 8 * j + 3) ((w (48 + 8 * j + 3)) + 1)) (48 + 8 * j + 4) ((w (48 + 8 * j + 4)) + 1))) H := hP
    have hD : va_D A9 (rwW a cJ (vp_updL (vp_updL (vp_updL w (48 + 8 * j + 2) 1) (48 + 8 * j + 3) ((w (48 + 8 * j + 3)) + 1)) (48 + 8 * j + 4) ((w (48 + 8 * j + 4)) + 1))) := hD
    refine lv_iload_n hx hb dX5_starts_54 rfl (lv_at hl 0 rfl) ?_
    refine lv_if_eq (tgt := 83) hx hb dX5_starts_55 (by decide) (fun h => absurd h (by decide)) (fun _ => ?_)
    refine lv_aload_n hx hb dX5_starts_58 rfl (lv_at hl 1 rfl) ?_
    refine lv_iload_n hx hb dX5_starts_59 rfl (lv_at hl 2 rfl) ?_
    refine lv_bipush (v := 6) hx hb dX5_starts_60 (by decide) ?_
    refine k_calli (a := []) (z := rwW a cJ (vp_updL (vp_updL (vp_updL w (48 + 8 * j + 2) 1) (48 + 8 * j + 3) ((w (48 + 8 * j + 3)) + 1)) (48 + 8 * j + 4) ((w (48 + 8 * j + 4)) + 1))) (wc := []) (wc' := []) (w' := rwW a cJ (vp_updL (vp_updL (vp_updL w (48 + 8 * j + 2) 1) (48 + 8 * j + 3) ((w (48 + 8 * j + 3)) + 1)) (48 + 8 * j + 4) ((w (48 + 8 * j + 4)) + 1))) (va_runS (As := [.int (nI j), .int 6]) (rest := [.ref a]) ⟨hx, hb, hml, hown, hts⟩ (c_X5_p l D cI cJ (nI j) 6 _) (cwS 2 hts gX5_starts_X5_p rfl rfl rfl (by decide +kernel) ⟨Nat.le_of_ble_eq_true rfl, Nat.le_of_ble_eq_true rfl⟩) ⟨kB_blind, k_pre (a := []) (z := rwW a cJ (vp_updL (vp_updL (vp_updL w (48 + 8 * j + 2) 1) (48 + 8 * j + 3) ((w (48 + 8 * j + 3)) + 1)) (48 + 8 * j + 4) ((w (48 + 8 * j + 4)) + 1))) rfl hK hP hD⟩ rfl rfl hl.1 rfl (lv_room (Nat.le_of_ble_eq_true rfl)) dX5_starts_62 ⟨Nat.zero_le _, Nat.zero_le _⟩) rfl rfl rfl hP hD hS hA (fun H locs hP hD hS => ?_)
    rw [show 48 + 8 * (nI j) + 6 = nI (48 + 8 * j + 6) from k_p j 6]
    refine lv_dup2_11 hx hb dX5_starts_65 rfl rfl ?_
    refine va_lald (f := vp_updL (vp_updL (vp_updL w (48 + 8 * j + 2) 1) (48 + 8 * j + 3) ((w (48 + 8 * j + 3)) + 1)) (48 + 8 * j + 4) ((w (48 + 8 * j + 4)) + 1)) hx hb hK hP 0 1 rfl rfl (k_in (k := 48 + 8 * j + 6) rfl (by omega) (by decide)) dX5_starts_66 ?_
    rw [show (nI (48 + 8 * j + 6) : Int32).toNatClampNeg = 48 + 8 * j + 6 from nI_clamp (by omega)]
    rw [show (vp_updL (vp_updL (vp_updL w (48 + 8 * j + 2) 1) (48 + 8 * j + 3) ((w (48 + 8 * j + 3)) + 1)) (48 + 8 * j + 4) ((w (48 + 8 * j + 4)) + 1)) (48 + 8 * j + 6) = w (48 + 8 * j + 6) from (pk_uLn (by omega)).trans ((pk_uLn (by omega)).trans ((pk_uLn (by omega)).trans (rfl)))]
    refine lv_lconst (v := 1) hx hb dX5_starts_67 (by decide) ?_
    refine lv_ladd hx hb dX5_starts_68 ?_
    refine va_last (f := vp_updL (vp_updL (vp_updL w (48 + 8 * j + 2) 1) (48 + 8 * j + 3) ((w (48 + 8 * j + 3)) + 1)) (48 + 8 * j + 4) ((w (48 + 8 * j + 4)) + 1)) hx hb hK hP hD hS 0 1 rfl rfl (k_in (k := 48 + 8 * j + 6) rfl (by omega) (by decide)) dX5_starts_69 (fun H locs hP hD hS => ?_)
    rw [show (nI (48 + 8 * j + 6) : Int32).toNatClampNeg = 48 + 8 * j + 6 from nI_clamp (by omega)] at hP hD
    have hP : va_P D vwCl (rwW a cJ (vp_updL (vp_updL (vp_updL (vp_updL w (48 + 8 * j + 2) 1) (48 + 8 * j + 3) ((w (48 + 8 * j + 3)) + 1)) (48 + 8 * j + 4) ((w (48 + 8 * j + 4)) + 1)) (48 + 8 * j + 6) ((w (48 + 8 * j + 6)) + 1))) H := hP
    have hD : va_D A9 (rwW a cJ (vp_updL (vp_updL (vp_updL (vp_updL w (48 + 8 * j + 2) 1) (48 + 8 * j + 3) ((w (48 + 8 * j + 3)) + 1)) (48 + 8 * j + 4) ((w (48 + 8 * j + 4)) + 1)) (48 + 8 * j + 6) ((w (48 + 8 * j + 6)) + 1))) := hD
    refine lv_aload_n hx hb dX5_starts_70 rfl (lv_at hl 1 rfl) ?_
    refine lv_bipush (v := 9) hx hb dX5_starts_71 (by decide) ?_
    refine lv_dup2_11 hx hb dX5_starts_73 rfl rfl ?_
    refine va_lald (f := vp_updL (vp_updL (vp_updL (vp_updL w (48 + 8 * j + 2) 1) (48 + 8 * j + 3) ((w (48 + 8 * j + 3)) + 1)) (48 + 8 * j + 4) ((w (48 + 8 * j + 4)) + 1)) (48 + 8 * j + 6) ((w (48 + 8 * j + 6)) + 1)) hx hb hK hP 0 1 rfl rfl (k_in (k := 9) rfl (by decide) (by decide)) dX5_starts_74 ?_
    rw [show (9 : Int32).toNatClampNeg = 9 from rfl]
    rw [show (vp_updL (vp_updL (vp_updL (vp_updL w (48 + 8 * j + 2) 1) (48 + 8 * j + 3) ((w (48 + 8 * j + 3)) + 1)) (48 + 8 * j + 4) ((w (48 + 8 * j + 4)) + 1)) (48 + 8 * j + 6) ((w (48 + 8 * j + 6)) + 1)) 9 = w 9 from (pk_uLn (by omega)).trans ((pk_uLn (by omega)).trans ((pk_uLn (by omega)).trans ((pk_uLn (by omega)).trans (rfl))))]
    refine lv_lconst (v := 1) hx hb dX5_starts_75 (by decide) ?_
    refine lv_ladd hx hb dX5_starts_76 ?_
    refine va_last (f := vp_updL (vp_updL (vp_updL (vp_updL w (48 + 8 * j + 2) 1) (48 + 8 * j + 3) ((w (48 + 8 * j + 3)) + 1)) (48 + 8 * j + 4) ((w (48 + 8 * j + 4)) + 1)) (48 + 8 * j + 6) ((w (48 + 8 * j + 6)) + 1)) hx hb hK hP hD hS 0 1 rfl rfl (k_in (k := 9) rfl (by decide) (by decide)) dX5_starts_77 (fun H locs hP hD hS => ?_)
    rw [show (9 : Int32).toNatClampNeg = 9 from rfl] at hP hD
    have hP : va_P D vwCl (rwW a cJ (vp_updL (vp_updL (vp_updL (vp_updL (vp_updL w (48 + 8 * j + 2) 1) (48 + 8 * j + 3) ((w (48 + 8 * j + 3)) + 1)) (48 + 8 * j + 4) ((w (48 + 8 * j + 4)) + 1)) (48 + 8 * j + 6) ((w (48 + 8 * j + 6)) + 1)) 9 ((w 9) + 1))) H := hP
    have hD : va_D A9 (rwW a cJ (vp_updL (vp_updL (vp_updL (vp_updL (vp_updL w (48 + 8 * j + 2) 1) (48 + 8 * j + 3) ((w (48 + 8 * j + 3)) + 1)) (48 + 8 * j + 4) ((w (48 + 8 * j + 4)) + 1)) (48 + 8 * j + 6) ((w (48 + 8 * j + 6)) + 1)) 9 ((w 9) + 1))) := hD
    refine lv_aload_n hx hb dX5_starts_78 rfl (lv_at hl 1 rfl) ?_
    refine lv_iload_n hx hb dX5_starts_79 rfl (lv_at hl 2 rfl) ?_
    refine k_callv (a := []) (z := []) (wc := rwW a cJ (vp_updL (vp_updL (vp_updL (vp_updL (vp_updL w (48 + 8 * j + 2) 1) (48 + 8 * j + 3) ((w (48 + 8 * j + 3)) + 1)) (48 + 8 * j + 4) ((w (48 + 8 * j + 4)) + 1)) (48 + 8 * j + 6) ((w (48 + 8 * j + 6)) + 1)) 9 ((w 9) + 1))) (wc' := rwW a cJ (m_logs (vp_updL (vp_updL (vp_updL (vp_updL (vp_updL w (48 + 8 * j + 2) 1) (48 + 8 * j + 3) ((w (48 + 8 * j + 3)) + 1)) (48 + 8 * j + 4) ((w (48 + 8 * j + 4)) + 1)) (48 + 8 * j + 6) ((w (48 + 8 * j + 6)) + 1)) 9 ((w 9) + 1)) j)) (w' := rwW a cJ (m_logs (vp_updL (vp_updL (vp_updL (vp_updL (vp_updL w (48 + 8 * j + 2) 1) (48 + 8 * j + 3) ((w (48 + 8 * j + 3)) + 1)) (48 + 8 * j + 4) ((w (48 + 8 * j + 4)) + 1)) (48 + 8 * j + 6) ((w (48 + 8 * j + 6)) + 1)) 9 ((w 9) + 1)) j)) (va_runS (As := [.ref a, .int (nI j)]) (rest := []) ⟨hx, hb, hml, hown, hts⟩ (c_X5_logs l D a cI cJ (vp_updL (vp_updL (vp_updL (vp_updL (vp_updL w (48 + 8 * j + 2) 1) (48 + 8 * j + 3) ((w (48 + 8 * j + 3)) + 1)) (48 + 8 * j + 4) ((w (48 + 8 * j + 4)) + 1)) (48 + 8 * j + 6) ((w (48 + 8 * j + 6)) + 1)) 9 ((w 9) + 1)) j hj _) (cwS 2 hts gX5_starts_X5_logs rfl rfl rfl (by decide +kernel) ⟨Nat.le_of_ble_eq_true rfl, Nat.le_of_ble_eq_true rfl⟩) ⟨kB_blind, k_pre (a := []) (z := []) (k_w0 _) hK hP hD⟩ rfl rfl hl.1 rfl (lv_room (Nat.le_of_ble_eq_true rfl)) dX5_starts_80 ⟨Nat.zero_le _, Nat.zero_le _⟩) (k_w0 _) (k_w0 _) (rwW_ad _ _ _ _) hP hD hS hA (fun H locs hP hD hS => ?_)
    exact k_vret hx hb hr hlk hP hS dX5_starts_83 (k_P (by simp only [m_start, m_st1, c_15_0]; rfl))

set_option maxHeartbeats 1000000 in
set_option maxRecDepth 100000 in
theorem c_X5_flows (l : Launch) (D : va_G) (a : Nat) (cI cJ : ClassId) (w : Nat → Int64) (h : Nat) (hh : h < 24) (n : Nat) (hn : w 7 = lN n) (hn6 : n ≤ 6) : kV l yX5_flows wsX5_flows ({ frames := 1, cells := 0, slots := 0, locals := 23 } : Room) D [(cI, .int), (cJ, .long)] [.ref a, .int (nI h)] (rwW a cJ w) (rwW a cJ (m_flow w n h)) := by
  refine kBody.met (cc := cX5_flows) (maxL := 8) (ret := none) (by decide) rfl (Nat.le_of_ble_eq_true rfl) ?_
  intro p9 e9 s9 m9 below meth c9 A9 ls hx hb hr hml hts hown hlk hK hP hD hA hl
  have hown : s9.vm.findClass RX5 = some m9.cls := hown
  have hS : va_S A9 s9.heap s9.heap [] := va_S.rf
  have hl : lv_has ls 8 [(0, .ref a), (1, .int (nI h))] := hl
  refine lv_iconst (v := 0) hx hb dX5_flows_0 (by decide) ?_
  refine lv_istore_n (lv' := [(2, .int 0), (0, .ref a), (1, .int (nI h))]) hx hb dX5_flows_1 rfl hl (by decide) rfl (fun ls hl => ?_)
  have L_2_0 : ∀ (d : Nat) (k : Nat) (f : Nat → Int64), n < k + d → k ≤ n → ∀  (e2 : itr m_flB k w = f) (h7 : f 7 = lN n) (H : Heap) (locs : List Loc) (ls : Array Slot), va_P D vwCl (rwW a cJ f) H → va_D A9 (rwW a cJ f) → va_S A9 s9.heap H locs → lv_has ls 8 [(0, .ref a), (1, .int (nI h)), (2, .int (nI k))] → W p9 l e9 ({ frames := 1, cells := 0, slots := 0, locals := 23 } : Room) s9 m9 (List.toArray [.ref a, .int (nI h)]) below meth c9 H locs 0 0 (MQ below (va_Qv (fun (_ : Unit) => True) (fun _ t9 => va_P D vwCl (rwW a cJ (m_flow w n h)) t9.heap) A9) (List.toArray [.ref a, .int (nI h)]) s9 0 0 A9) (F0 m9 2 ls []) := by
    intro d
    induction d with
    | zero =>
      intro k f hf
      intro hkn; exact absurd hf (by omega)
    | succ d ih_2 =>
      intro k f hf_2 hkn_2 e2 h7 H locs ls hP hD hS hl
      refine lv_iload_n hx hb dX5_flows_2 rfl (lv_at hl 2 rfl) ?_
      refine lv_i2l hx hb dX5_flows_3 rfl ?_
      refine lv_aload_n hx hb dX5_flows_4 rfl (lv_at hl 0 rfl) ?_
      refine lv_bipush (v := 7) hx hb dX5_flows_5 (by decide) ?_
      refine va_lald (f := f) hx hb hK hP 0 1 rfl rfl (k_in (k := 7) rfl (by decide) (by decide)) dX5_flows_7 ?_
      rw [show (7 : Int32).toNatClampNeg = 7 from rfl]
      refine W.lcmp hx hb dX5_flows_8 ?_
      refine lv_if_ge (tgt := 68) hx hb dX5_flows_9 (by decide) (fun c_9_1 => ?_) (fun c_9_1 => ?_)
      · have c_9_1 : (f 7) ≤ ((nI k).toInt64) := (lg_cmp_ge ((nI k).toInt64) (f 7)).mp c_9_1
        have hke_2 : n = k := (k_exitL c_9_1 h7 hkn_2 (by omega)).symm
        subst hke_2
        refine lv_aload_n hx hb dX5_flows_68 rfl (lv_at hl 0 rfl) ?_
        refine lv_iconst (v := 1) hx hb dX5_flows_69 (by decide) ?_
        refine va_lald (f := f) hx hb hK hP 0 1 rfl rfl (k_in (k := 1) rfl (by decide) (by decide)) dX5_flows_70 ?_
        rw [show (1 : Int32).toNatClampNeg = 1 from rfl]
        refine lv_aload_n hx hb dX5_flows_71 rfl (lv_at hl 0 rfl) ?_
        refine lv_iconst (v := 0) hx hb dX5_flows_72 (by decide) ?_
        refine va_lald (f := f) hx hb hK hP 0 1 rfl rfl (k_in (k := 0) rfl (by decide) (by decide)) dX5_flows_73 ?_
        rw [show (0 : Int32).toNatClampNeg = 0 from rfl]
        refine k_calll (a := []) (z := rwW a cJ f) (wc := []) (wc' := []) (w' := rwW a cJ f) (va_runS (As := [.long (f 1), .long (f 0)]) (rest := []) ⟨hx, hb, hml, hown, hts⟩ (c_X5_least l D cI cJ (f 1) (f 0) _) (cwS 2 hts gX5_flows_X5_least rfl rfl rfl (by decide +kernel) ⟨Nat.le_of_ble_eq_true rfl, Nat.le_of_ble_eq_true rfl⟩) ⟨kB_blind, k_pre (a := []) (z := rwW a cJ f) rfl hK hP hD⟩ rfl rfl hl.1 rfl (lv_room (Nat.le_of_ble_eq_true rfl)) dX5_flows_74 ⟨Nat.zero_le _, Nat.zero_le _⟩) rfl rfl rfl hP hD hS hA (fun H locs hP hD hS => ?_)
        refine lv_lstore_n (lv' := [(2, .long (m_least (f 1) (f 0))), (0, .ref a), (1, .int (nI h))]) hx hb dX5_flows_77 rfl hl (by decide) rfl (fun ls hl => ?_)
        refine lv_aload_n hx hb dX5_flows_78 rfl (lv_at hl 1 rfl) ?_
        refine lv_bipush (v := 15) hx hb dX5_flows_79 (by decide) ?_
        refine lv_dup2_11 hx hb dX5_flows_81 rfl rfl ?_
        refine va_lald (f := f) hx hb hK hP 0 1 rfl rfl (k_in (k := 15) rfl (by decide) (by decide)) dX5_flows_82 ?_
        rw [show (15 : Int32).toNatClampNeg = 15 from rfl]
        refine lv_aload_n hx hb dX5_flows_83 rfl (lv_at hl 1 rfl) ?_
        refine lv_iconst (v := 1) hx hb dX5_flows_84 (by decide) ?_
        refine va_lald (f := f) hx hb hK hP 0 1 rfl rfl (k_in (k := 1) rfl (by decide) (by decide)) dX5_flows_85 ?_
        rw [show (1 : Int32).toNatClampNeg = 1 from rfl]
        refine lv_lload_n hx hb dX5_flows_86 rfl (lv_at hl 0 rfl) ?_
        refine lv_lsub hx hb dX5_flows_87 ?_
        refine lv_ladd hx hb dX5_flows_88 ?_
        refine va_last (f := f) hx hb hK hP hD hS 0 1 rfl rfl (k_in (k := 15) rfl (by decide) (by decide)) dX5_flows_89 (fun H locs hP hD hS => ?_)
        rw [show (15 : Int32).toNatClampNeg = 15 from rfl] at hP hD
        have hP : va_P D vwCl (rwW a cJ (vp_updL f 15 ((f 15) + ((f 1) - (m_least (f 1) (f 0)))))) H := hP
        have hD : va_D A9 (rwW a cJ (vp_updL f 15 ((f 15) + ((f 1) - (m_least (f 1) (f 0)))))) := hD
        refine lv_lload_n hx hb dX5_flows_90 rfl (lv_at hl 0 rfl) ?_
        refine lv_aload_n hx hb dX5_flows_91 rfl (lv_at hl 1 rfl) ?_
        refine lv_bipush (v := 24) hx hb dX5_flows_92 (by decide) ?_
        refine lv_iload_n hx hb dX5_flows_94 rfl (lv_at hl 2 rfl) ?_
        refine lv_iadd hx hb dX5_flows_95 ?_
        refine va_lald (f := vp_updL f 15 ((f 15) + ((f 1) - (m_least (f 1) (f 0))))) hx hb hK hP 0 1 rfl rfl (k_in (k := 24 + h) (show 24 + nI h = nI (24 + h) from nI_add 24 h) (by omega) (by decide)) dX5_flows_96 ?_
        rw [show (24 + (nI h) : Int32).toNatClampNeg = 24 + h from k_cl (show 24 + nI h = nI (24 + h) from nI_add 24 h) (by omega)]
        rw [show (vp_updL f 15 ((f 15) + ((f 1) - (m_least (f 1) (f 0))))) (24 + h) = f (24 + h) from (pk_uLn (by omega)).trans (rfl)]
        refine k_calll (a := []) (z := rwW a cJ (vp_updL f 15 ((f 15) + ((f 1) - (m_least (f 1) (f 0)))))) (wc := []) (wc' := []) (w' := rwW a cJ (vp_updL f 15 ((f 15) + ((f 1) - (m_least (f 1) (f 0)))))) (va_runS (As := [.long (m_least (f 1) (f 0)), .long (f (24 + h))]) (rest := []) ⟨hx, hb, hml, hown, hts⟩ (c_X5_least l D cI cJ (m_least (f 1) (f 0)) (f (24 + h)) _) (cwS 2 hts gX5_flows_X5_least rfl rfl rfl (by decide +kernel) ⟨Nat.le_of_ble_eq_true rfl, Nat.le_of_ble_eq_true rfl⟩) ⟨kB_blind, k_pre (a := []) (z := rwW a cJ (vp_updL f 15 ((f 15) + ((f 1) - (m_least (f 1) (f 0)))))) rfl hK hP hD⟩ rfl rfl hl.1 rfl (lv_room (Nat.le_of_ble_eq_true rfl)) dX5_flows_97 ⟨Nat.zero_le _, Nat.zero_le _⟩) rfl rfl rfl hP hD hS hA (fun H locs hP hD hS => ?_)
        refine lv_lstore (lv' := [(4, .long (m_least (m_least (f 1) (f 0)) (f (24 + h)))), (2, .long (m_least (f 1) (f 0))), (0, .ref a), (1, .int (nI h))]) hx hb dX5_flows_100 hl (by decide) rfl (fun ls hl => ?_)
        refine lv_aload_n hx hb dX5_flows_102 rfl (lv_at hl 2 rfl) ?_
        refine lv_bipush (v := 16) hx hb dX5_flows_103 (by decide) ?_
        refine lv_dup2_11 hx hb dX5_flows_105 rfl rfl ?_
        refine va_lald (f := vp_updL f 15 ((f 15) + ((f 1) - (m_least (f 1) (f 0))))) hx hb hK hP 0 1 rfl rfl (k_in (k := 16) rfl (by decide) (by decide)) dX5_flows_106 ?_
        rw [show (16 : Int32).toNatClampNeg = 16 from rfl]
        rw [show (vp_updL f 15 ((f 15) + ((f 1) - (m_least (f 1) (f 0))))) 16 = f 16 from (pk_uLn (by omega)).trans (rfl)]
        refine lv_lload hx hb dX5_flows_107 (lv_at hl 0 rfl) ?_
        refine lv_ladd hx hb dX5_flows_109 ?_
        refine va_last (f := vp_updL f 15 ((f 15) + ((f 1) - (m_least (f 1) (f 0))))) hx hb hK hP hD hS 0 1 rfl rfl (k_in (k := 16) rfl (by decide) (by decide)) dX5_flows_110 (fun H locs hP hD hS => ?_)
        rw [show (16 : Int32).toNatClampNeg = 16 from rfl] at hP hD
        have hP : va_P D vwCl (rwW a cJ (vp_updL (vp_updL f 15 ((f 15) + ((f 1) - (m_least (f 1) (f 0))))) 16 ((f 16) + (m_least (m_least (f 1) (f 0)) (f (24 + h)))))) H := hP
        have hD : va_D A9 (rwW a cJ (vp_updL (vp_updL f 15 ((f 15) + ((f 1) - (m_least (f 1) (f 0))))) 16 ((f 16) + (m_least (m_least (f 1) (f 0)) (f (24 + h)))))) := hD
        refine lv_aload_n hx hb dX5_flows_111 rfl (lv_at hl 2 rfl) ?_
        refine lv_bipush (v := 17) hx hb dX5_flows_112 (by decide) ?_
        refine lv_dup2_11 hx hb dX5_flows_114 rfl rfl ?_
        refine va_lald (f := vp_updL (vp_updL f 15 ((f 15) + ((f 1) - (m_least (f 1) (f 0))))) 16 ((f 16) + (m_least (m_least (f 1) (f 0)) (f (24 + h))))) hx hb hK hP 0 1 rfl rfl (k_in (k := 17) rfl (by decide) (by decide)) dX5_flows_115 ?_
        rw [show (17 : Int32).toNatClampNeg = 17 from rfl]
        rw [show (vp_updL (vp_updL f 15 ((f 15) + ((f 1) - (m_least (f 1) (f 0))))) 16 ((f 16) + (m_least (m_least (f 1) (f 0)) (f (24 + h))))) 17 = f 17 from (pk_uLn (by omega)).trans ((pk_uLn (by omega)).trans (rfl))]
        refine lv_aload_n hx hb dX5_flows_116 rfl (lv_at hl 2 rfl) ?_
        refine lv_bipush (v := 24) hx hb dX5_flows_117 (by decide) ?_
        refine lv_iload_n hx hb dX5_flows_119 rfl (lv_at hl 3 rfl) ?_
        refine lv_iadd hx hb dX5_flows_120 ?_
        refine va_lald (f := vp_updL (vp_updL f 15 ((f 15) + ((f 1) - (m_least (f 1) (f 0))))) 16 ((f 16) + (m_least (m_least (f 1) (f 0)) (f (24 + h))))) hx hb hK hP 0 1 rfl rfl (k_in (k := 24 + h) (show 24 + nI h = nI (24 + h) from nI_add 24 h) (by omega) (by decide)) dX5_flows_121 ?_
        rw [show (24 + (nI h) : Int32).toNatClampNeg = 24 + h from k_cl (show 24 + nI h = nI (24 + h) from nI_add 24 h) (by omega)]
        rw [show (vp_updL (vp_updL f 15 ((f 15) + ((f 1) - (m_least (f 1) (f 0))))) 16 ((f 16) + (m_least (m_least (f 1) (f 0)) (f (24 + h))))) (24 + h) = f (24 + h) from (pk_uLn (by omega)).trans ((pk_uLn (by omega)).trans (rfl))]
        refine lv_lload hx hb dX5_flows_122 (lv_at hl 0 rfl) ?_
        refine lv_lsub hx hb dX5_flows_124 ?_
        refine lv_ladd hx hb dX5_flows_125 ?_
        refine va_last (f := vp_updL (vp_updL f 15 ((f 15) + ((f 1) - (m_least (f 1) (f 0))))) 16 ((f 16) + (m_least (m_least (f 1) (f 0)) (f (24 + h))))) hx hb hK hP hD hS 0 1 rfl rfl (k_in (k := 17) rfl (by decide) (by decide)) dX5_flows_126 (fun H locs hP hD hS => ?_)
        rw [show (17 : Int32).toNatClampNeg = 17 from rfl] at hP hD
        have hP : va_P D vwCl (rwW a cJ (vp_updL (vp_updL (vp_updL f 15 ((f 15) + ((f 1) - (m_least (f 1) (f 0))))) 16 ((f 16) + (m_least (m_least (f 1) (f 0)) (f (24 + h))))) 17 ((f 17) + ((f (24 + h)) - (m_least (m_least (f 1) (f 0)) (f (24 + h))))))) H := hP
        have hD : va_D A9 (rwW a cJ (vp_updL (vp_updL (vp_updL f 15 ((f 15) + ((f 1) - (m_least (f 1) (f 0))))) 16 ((f 16) + (m_least (m_least (f 1) (f 0)) (f (24 + h))))) 17 ((f 17) + ((f (24 + h)) - (m_least (m_least (f 1) (f 0)) (f (24 + h))))))) := hD
        refine lv_lload_n hx hb dX5_flows_127 rfl (lv_at hl 1 rfl) ?_
        refine lv_lload hx hb dX5_flows_128 (lv_at hl 0 rfl) ?_
        refine lv_lsub hx hb dX5_flows_130 ?_
        refine lv_aload_n hx hb dX5_flows_131 rfl (lv_at hl 2 rfl) ?_
        refine lv_iconst (v := 5) hx hb dX5_flows_132 (by decide) ?_
        refine va_lald (f := vp_updL (vp_updL (vp_updL f 15 ((f 15) + ((f 1) - (m_least (f 1) (f 0))))) 16 ((f 16) + (m_least (m_least (f 1) (f 0)) (f (24 + h))))) 17 ((f 17) + ((f (24 + h)) - (m_least (m_least (f 1) (f 0)) (f (24 + h)))))) hx hb hK hP 0 1 rfl rfl (k_in (k := 5) rfl (by decide) (by decide)) dX5_flows_133 ?_
        rw [show (5 : Int32).toNatClampNeg = 5 from rfl]
        rw [show (vp_updL (vp_updL (vp_updL f 15 ((f 15) + ((f 1) - (m_least (f 1) (f 0))))) 16 ((f 16) + (m_least (m_least (f 1) (f 0)) (f (24 + h))))) 17 ((f 17) + ((f (24 + h)) - (m_least (m_least (f 1) (f 0)) (f (24 + h)))))) 5 = f 5 from (pk_uLn (by omega)).trans ((pk_uLn (by omega)).trans ((pk_uLn (by omega)).trans (rfl)))]
        refine k_calll (a := []) (z := rwW a cJ (vp_updL (vp_updL (vp_updL f 15 ((f 15) + ((f 1) - (m_least (f 1) (f 0))))) 16 ((f 16) + (m_least (m_least (f 1) (f 0)) (f (24 + h))))) 17 ((f 17) + ((f (24 + h)) - (m_least (m_least (f 1) (f 0)) (f (24 + h))))))) (wc := []) (wc' := []) (w' := rwW a cJ (vp_updL (vp_updL (vp_updL f 15 ((f 15) + ((f 1) - (m_least (f 1) (f 0))))) 16 ((f 16) + (m_least (m_least (f 1) (f 0)) (f (24 + h))))) 17 ((f 17) + ((f (24 + h)) - (m_least (m_least (f 1) (f 0)) (f (24 + h))))))) (va_runS (As := [.long ((m_least (f 1) (f 0)) - (m_least (m_least (f 1) (f 0)) (f (24 + h)))), .long (f 5)]) (rest := []) ⟨hx, hb, hml, hown, hts⟩ (c_X5_least l D cI cJ ((m_least (f 1) (f 0)) - (m_least (m_least (f 1) (f 0)) (f (24 + h)))) (f 5) _) (cwS 2 hts gX5_flows_X5_least rfl rfl rfl (by decide +kernel) ⟨Nat.le_of_ble_eq_true rfl, Nat.le_of_ble_eq_true rfl⟩) ⟨kB_blind, k_pre (a := []) (z := rwW a cJ (vp_updL (vp_updL (vp_updL f 15 ((f 15) + ((f 1) - (m_least (f 1) (f 0))))) 16 ((f 16) + (m_least (m_least (f 1) (f 0)) (f (24 + h))))) 17 ((f 17) + ((f (24 + h)) - (m_least (m_least (f 1) (f 0)) (f (24 + h))))))) rfl hK hP hD⟩ rfl rfl hl.1 rfl (lv_room (Nat.le_of_ble_eq_true rfl)) dX5_flows_134 ⟨Nat.zero_le _, Nat.zero_le _⟩) rfl rfl rfl hP hD hS hA (fun H locs hP hD hS => ?_)
        refine lv_lstore (lv' := [(6, .long (m_least ((m_least (f 1) (f 0)) - (m_least (m_least (f 1) (f 0)) (f (24 + h)))) (f 5))), (4, .long (m_least (m_least (f 1) (f 0)) (f (24 + h)))), (2, .long (m_least (f 1) (f 0))), (0, .ref a), (1, .int (nI h))]) hx hb dX5_flows_137 hl (by decide) rfl (fun ls hl => ?_)
        refine lv_aload_n hx hb dX5_flows_139 rfl (lv_at hl 3 rfl) ?_
        refine lv_bipush (v := 18) hx hb dX5_flows_140 (by decide) ?_
        refine lv_dup2_11 hx hb dX5_flows_142 rfl rfl ?_
        refine va_lald (f := vp_updL (vp_updL (vp_updL f 15 ((f 15) + ((f 1) - (m_least (f 1) (f 0))))) 16 ((f 16) + (m_least (m_least (f 1) (f 0)) (f (24 + h))))) 17 ((f 17) + ((f (24 + h)) - (m_least (m_least (f 1) (f 0)) (f (24 + h)))))) hx hb hK hP 0 1 rfl rfl (k_in (k := 18) rfl (by decide) (by decide)) dX5_flows_143 ?_
        rw [show (18 : Int32).toNatClampNeg = 18 from rfl]
        rw [show (vp_updL (vp_updL (vp_updL f 15 ((f 15) + ((f 1) - (m_least (f 1) (f 0))))) 16 ((f 16) + (m_least (m_least (f 1) (f 0)) (f (24 + h))))) 17 ((f 17) + ((f (24 + h)) - (m_least (m_least (f 1) (f 0)) (f (24 + h)))))) 18 = f 18 from (pk_uLn (by omega)).trans ((pk_uLn (by omega)).trans ((pk_uLn (by omega)).trans (rfl)))]
        refine lv_lload hx hb dX5_flows_144 (lv_at hl 0 rfl) ?_
        refine lv_ladd hx hb dX5_flows_146 ?_
        refine va_last (f := vp_updL (vp_updL (vp_updL f 15 ((f 15) + ((f 1) - (m_least (f 1) (f 0))))) 16 ((f 16) + (m_least (m_least (f 1) (f 0)) (f (24 + h))))) 17 ((f 17) + ((f (24 + h)) - (m_least (m_least (f 1) (f 0)) (f (24 + h)))))) hx hb hK hP hD hS 0 1 rfl rfl (k_in (k := 18) rfl (by decide) (by decide)) dX5_flows_147 (fun H locs hP hD hS => ?_)
        rw [show (18 : Int32).toNatClampNeg = 18 from rfl] at hP hD
        have hP : va_P D vwCl (rwW a cJ (vp_updL (vp_updL (vp_updL (vp_updL f 15 ((f 15) + ((f 1) - (m_least (f 1) (f 0))))) 16 ((f 16) + (m_least (m_least (f 1) (f 0)) (f (24 + h))))) 17 ((f 17) + ((f (24 + h)) - (m_least (m_least (f 1) (f 0)) (f (24 + h)))))) 18 ((f 18) + (m_least ((m_least (f 1) (f 0)) - (m_least (m_least (f 1) (f 0)) (f (24 + h)))) (f 5))))) H := hP
        have hD : va_D A9 (rwW a cJ (vp_updL (vp_updL (vp_updL (vp_updL f 15 ((f 15) + ((f 1) - (m_least (f 1) (f 0))))) 16 ((f 16) + (m_least (m_least (f 1) (f 0)) (f (24 + h))))) 17 ((f 17) + ((f (24 + h)) - (m_least (m_least (f 1) (f 0)) (f (24 + h)))))) 18 ((f 18) + (m_least ((m_least (f 1) (f 0)) - (m_least (m_least (f 1) (f 0)) (f (24 + h)))) (f 5))))) := hD
        refine lv_aload_n hx hb dX5_flows_148 rfl (lv_at hl 3 rfl) ?_
        refine lv_iconst (v := 1) hx hb dX5_flows_149 (by decide) ?_
        refine lv_lload_n hx hb dX5_flows_150 rfl (lv_at hl 2 rfl) ?_
        refine lv_lload hx hb dX5_flows_151 (lv_at hl 1 rfl) ?_
        refine lv_lsub hx hb dX5_flows_153 ?_
        refine lv_lload hx hb dX5_flows_154 (lv_at hl 0 rfl) ?_
        refine lv_lsub hx hb dX5_flows_156 ?_
        refine va_last (f := vp_updL (vp_updL (vp_updL (vp_updL f 15 ((f 15) + ((f 1) - (m_least (f 1) (f 0))))) 16 ((f 16) + (m_least (m_least (f 1) (f 0)) (f (24 + h))))) 17 ((f 17) + ((f (24 + h)) - (m_least (m_least (f 1) (f 0)) (f (24 + h)))))) 18 ((f 18) + (m_least ((m_least (f 1) (f 0)) - (m_least (m_least (f 1) (f 0)) (f (24 + h)))) (f 5)))) hx hb hK hP hD hS 0 1 rfl rfl (k_in (k := 1) rfl (by decide) (by decide)) dX5_flows_157 (fun H locs hP hD hS => ?_)
        rw [show (1 : Int32).toNatClampNeg = 1 from rfl] at hP hD
        have hP : va_P D vwCl (rwW a cJ (vp_updL (vp_updL (vp_updL (vp_updL (vp_updL f 15 ((f 15) + ((f 1) - (m_least (f 1) (f 0))))) 16 ((f 16) + (m_least (m_least (f 1) (f 0)) (f (24 + h))))) 17 ((f 17) + ((f (24 + h)) - (m_least (m_least (f 1) (f 0)) (f (24 + h)))))) 18 ((f 18) + (m_least ((m_least (f 1) (f 0)) - (m_least (m_least (f 1) (f 0)) (f (24 + h)))) (f 5)))) 1 (((m_least (f 1) (f 0)) - (m_least (m_least (f 1) (f 0)) (f (24 + h)))) - (m_least ((m_least (f 1) (f 0)) - (m_least (m_least (f 1) (f 0)) (f (24 + h)))) (f 5))))) H := hP
        have hD : va_D A9 (rwW a cJ (vp_updL (vp_updL (vp_updL (vp_updL (vp_updL f 15 ((f 15) + ((f 1) - (m_least (f 1) (f 0))))) 16 ((f 16) + (m_least (m_least (f 1) (f 0)) (f (24 + h))))) 17 ((f 17) + ((f (24 + h)) - (m_least (m_least (f 1) (f 0)) (f (24 + h)))))) 18 ((f 18) + (m_least ((m_least (f 1) (f 0)) - (m_least (m_least (f 1) (f 0)) (f (24 + h)))) (f 5)))) 1 (((m_least (f 1) (f 0)) - (m_least (m_least (f 1) (f 0)) (f (24 + h)))) - (m_least ((m_least (f 1) (f 0)) - (m_least (m_least (f 1) (f 0)) (f (24 + h)))) (f 5))))) := hD
        exact k_vret hx hb hr hlk hP hS dX5_flows_158 (k_P (by simp only [m_flow, m_fl0, e2]; rfl))
      · have c_9_1 : ¬ (f 7) ≤ ((nI k).toInt64) := mt (lg_cmp_ge ((nI k).toInt64) (f 7)).mpr c_9_1
        have hkl_2 : k < n := k_bodyL c_9_1 h7 hkn_2 (by omega)
        refine lv_aload_n hx hb dX5_flows_12 rfl (lv_at hl 0 rfl) ?_
        refine lv_iload_n hx hb dX5_flows_13 rfl (lv_at hl 2 rfl) ?_
        refine lv_iconst (v := 2) hx hb dX5_flows_14 (by decide) ?_
        refine k_calli (a := []) (z := rwW a cJ f) (wc := []) (wc' := []) (w' := rwW a cJ f) (va_runS (As := [.int (nI k), .int 2]) (rest := [.ref a]) ⟨hx, hb, hml, hown, hts⟩ (c_X5_p l D cI cJ (nI k) 2 _) (cwS 2 hts gX5_flows_X5_p rfl rfl rfl (by decide +kernel) ⟨Nat.le_of_ble_eq_true rfl, Nat.le_of_ble_eq_true rfl⟩) ⟨kB_blind, k_pre (a := []) (z := rwW a cJ f) rfl hK hP hD⟩ rfl rfl hl.1 rfl (lv_room (Nat.le_of_ble_eq_true rfl)) dX5_flows_15 ⟨Nat.zero_le _, Nat.zero_le _⟩) rfl rfl rfl hP hD hS hA (fun H locs hP hD hS => ?_)
        rw [show 48 + 8 * (nI k) + 2 = nI (48 + 8 * k + 2) from k_p k 2]
        refine va_lald (f := f) hx hb hK hP 0 1 rfl rfl (k_in (k := 48 + 8 * k + 2) rfl (by omega) (by decide)) dX5_flows_18 ?_
        rw [show (nI (48 + 8 * k + 2) : Int32).toNatClampNeg = 48 + 8 * k + 2 from nI_clamp (by omega)]
        refine lv_lconst (v := 1) hx hb dX5_flows_19 (by decide) ?_
        refine W.lcmp hx hb dX5_flows_20 ?_
        refine lv_if_ne (tgt := 62) hx hb dX5_flows_21 (by decide) (fun c_21_2 => ?_) (fun c_21_2 => ?_)
        · have c_21_2 : ¬ (f (48 + 8 * k + 2)) = 1 := mt (lg_cmp_eq (f (48 + 8 * k + 2)) 1).mpr c_21_2
          refine lv_iinc (v := (nI k) + 1) (lv' := [(2, .int ((nI k) + 1)), (0, .ref a), (1, .int (nI h))]) hx hb dX5_flows_62 hl (k := 2) rfl rfl (by decide) rfl (fun ls hl => ?_)
          refine lv_goto (tgt := 2) hx hb dX5_flows_65 (by decide) ?_
          rw [show ((nI k) + 1) = (nI (k + 1)) from nI_1 _] at hl
          exact ih_2 (k + 1) f (by omega) (by omega) (by rw [itr_s, e2]; simp [m_flB, c_9_1, c_21_2]) (by first | exact h7 | (simp only [vp_updL]; rw [if_neg (by omega), if_neg (by omega), if_neg (by omega)]; exact h7)) _ _ _ hP hD hS (lv_sub hl [1, 2, 0] rfl)
        · have c_21_2 : (f (48 + 8 * k + 2)) = 1 := (lg_cmp_eq (f (48 + 8 * k + 2)) 1).mp c_21_2
          refine lv_aload_n hx hb dX5_flows_24 rfl (lv_at hl 0 rfl) ?_
          refine lv_bipush (v := 14) hx hb dX5_flows_25 (by decide) ?_
          refine lv_dup2_11 hx hb dX5_flows_27 rfl rfl ?_
          refine va_lald (f := f) hx hb hK hP 0 1 rfl rfl (k_in (k := 14) rfl (by decide) (by decide)) dX5_flows_28 ?_
          rw [show (14 : Int32).toNatClampNeg = 14 from rfl]
          refine lv_aload_n hx hb dX5_flows_29 rfl (lv_at hl 0 rfl) ?_
          refine lv_iload_n hx hb dX5_flows_30 rfl (lv_at hl 2 rfl) ?_
          refine lv_iconst (v := 0) hx hb dX5_flows_31 (by decide) ?_
          refine k_calli (a := []) (z := rwW a cJ f) (wc := []) (wc' := []) (w' := rwW a cJ f) (va_runS (As := [.int (nI k), .int 0]) (rest := [.ref a, .long (f 14), .int 14, .ref a]) ⟨hx, hb, hml, hown, hts⟩ (c_X5_p l D cI cJ (nI k) 0 _) (cwS 2 hts gX5_flows_X5_p rfl rfl rfl (by decide +kernel) ⟨Nat.le_of_ble_eq_true rfl, Nat.le_of_ble_eq_true rfl⟩) ⟨kB_blind, k_pre (a := []) (z := rwW a cJ f) rfl hK hP hD⟩ rfl rfl hl.1 rfl (lv_room (Nat.le_of_ble_eq_true rfl)) dX5_flows_32 ⟨Nat.zero_le _, Nat.zero_le _⟩) rfl rfl rfl hP hD hS hA (fun H locs hP hD hS => ?_)
          rw [show 48 + 8 * (nI k) + 0 = nI (48 + 8 * k + 0) from k_p k 0]
          refine va_lald (f := f) hx hb hK hP 0 1 rfl rfl (k_in (k := 48 + 8 * k + 0) rfl (by omega) (by decide)) dX5_flows_35 ?_
          rw [show (nI (48 + 8 * k + 0) : Int32).toNatClampNeg = 48 + 8 * k + 0 from nI_clamp (by omega)]
          refine lv_ladd hx hb dX5_flows_36 ?_
          refine va_last (f := f) hx hb hK hP hD hS 0 1 rfl rfl (k_in (k := 14) rfl (by decide) (by decide)) dX5_flows_37 (fun H locs hP hD hS => ?_)
          rw [show (14 : Int32).toNatClampNeg = 14 from rfl] at hP hD
          have hP : va_P D vwCl (rwW a cJ (vp_updL f 14 ((f 14) + (f (48 + 8 * k + 0))))) H := hP
          have hD : va_D A9 (rwW a cJ (vp_updL f 14 ((f 14) + (f (48 + 8 * k + 0))))) := hD
          refine lv_aload_n hx hb dX5_flows_38 rfl (lv_at hl 0 rfl) ?_
          refine lv_iconst (v := 1) hx hb dX5_flows_39 (by decide) ?_
          refine lv_dup2_11 hx hb dX5_flows_40 rfl rfl ?_
          refine va_lald (f := vp_updL f 14 ((f 14) + (f (48 + 8 * k + 0)))) hx hb hK hP 0 1 rfl rfl (k_in (k := 1) rfl (by decide) (by decide)) dX5_flows_41 ?_
          rw [show (1 : Int32).toNatClampNeg = 1 from rfl]
          rw [show (vp_updL f 14 ((f 14) + (f (48 + 8 * k + 0)))) 1 = f 1 from (pk_uLn (by omega)).trans (rfl)]
          refine lv_aload_n hx hb dX5_flows_42 rfl (lv_at hl 0 rfl) ?_
          refine lv_iload_n hx hb dX5_flows_43 rfl (lv_at hl 2 rfl) ?_
          refine lv_iconst (v := 0) hx hb dX5_flows_44 (by decide) ?_
          refine k_calli (a := []) (z := rwW a cJ (vp_updL f 14 ((f 14) + (f (48 + 8 * k + 0))))) (wc := []) (wc' := []) (w' := rwW a cJ (vp_updL f 14 ((f 14) + (f (48 + 8 * k + 0))))) (va_runS (As := [.int (nI k), .int 0]) (rest := [.ref a, .long (f 1), .int 1, .ref a]) ⟨hx, hb, hml, hown, hts⟩ (c_X5_p l D cI cJ (nI k) 0 _) (cwS 2 hts gX5_flows_X5_p rfl rfl rfl (by decide +kernel) ⟨Nat.le_of_ble_eq_true rfl, Nat.le_of_ble_eq_true rfl⟩) ⟨kB_blind, k_pre (a := []) (z := rwW a cJ (vp_updL f 14 ((f 14) + (f (48 + 8 * k + 0))))) rfl hK hP hD⟩ rfl rfl hl.1 rfl (lv_room (Nat.le_of_ble_eq_true rfl)) dX5_flows_45 ⟨Nat.zero_le _, Nat.zero_le _⟩) rfl rfl rfl hP hD hS hA (fun H locs hP hD hS => ?_)
          rw [show 48 + 8 * (nI k) + 0 = nI (48 + 8 * k + 0) from k_p k 0]
          refine va_lald (f := vp_updL f 14 ((f 14) + (f (48 + 8 * k + 0)))) hx hb hK hP 0 1 rfl rfl (k_in (k := 48 + 8 * k + 0) rfl (by omega) (by decide)) dX5_flows_48 ?_
          rw [show (nI (48 + 8 * k + 0) : Int32).toNatClampNeg = 48 + 8 * k + 0 from nI_clamp (by omega)]
          rw [show (vp_updL f 14 ((f 14) + (f (48 + 8 * k + 0)))) (48 + 8 * k + 0) = f (48 + 8 * k + 0) from (pk_uLn (by omega)).trans (rfl)]
          refine lv_ladd hx hb dX5_flows_49 ?_
          refine va_last (f := vp_updL f 14 ((f 14) + (f (48 + 8 * k + 0)))) hx hb hK hP hD hS 0 1 rfl rfl (k_in (k := 1) rfl (by decide) (by decide)) dX5_flows_50 (fun H locs hP hD hS => ?_)
          rw [show (1 : Int32).toNatClampNeg = 1 from rfl] at hP hD
          have hP : va_P D vwCl (rwW a cJ (vp_updL (vp_updL f 14 ((f 14) + (f (48 + 8 * k + 0)))) 1 ((f 1) + (f (48 + 8 * k + 0))))) H := hP
          have hD : va_D A9 (rwW a cJ (vp_updL (vp_updL f 14 ((f 14) + (f (48 + 8 * k + 0)))) 1 ((f 1) + (f (48 + 8 * k + 0))))) := hD
          refine lv_aload_n hx hb dX5_flows_51 rfl (lv_at hl 0 rfl) ?_
          refine lv_iload_n hx hb dX5_flows_52 rfl (lv_at hl 2 rfl) ?_
          refine lv_iconst (v := 5) hx hb dX5_flows_53 (by decide) ?_
          refine k_calli (a := []) (z := rwW a cJ (vp_updL (vp_updL f 14 ((f 14) + (f (48 + 8 * k + 0)))) 1 ((f 1) + (f (48 + 8 * k + 0))))) (wc := []) (wc' := []) (w' := rwW a cJ (vp_updL (vp_updL f 14 ((f 14) + (f (48 + 8 * k + 0)))) 1 ((f 1) + (f (48 + 8 * k + 0))))) (va_runS (As := [.int (nI k), .int 5]) (rest := [.ref a]) ⟨hx, hb, hml, hown, hts⟩ (c_X5_p l D cI cJ (nI k) 5 _) (cwS 2 hts gX5_flows_X5_p rfl rfl rfl (by decide +kernel) ⟨Nat.le_of_ble_eq_true rfl, Nat.le_of_ble_eq_true rfl⟩) ⟨kB_blind, k_pre (a := []) (z := rwW a cJ (vp_updL (vp_updL f 14 ((f 14) + (f (48 + 8 * k + 0)))) 1 ((f 1) + (f (48 + 8 * k + 0))))) rfl hK hP hD⟩ rfl rfl hl.1 rfl (lv_room (Nat.le_of_ble_eq_true rfl)) dX5_flows_54 ⟨Nat.zero_le _, Nat.zero_le _⟩) rfl rfl rfl hP hD hS hA (fun H locs hP hD hS => ?_)
          rw [show 48 + 8 * (nI k) + 5 = nI (48 + 8 * k + 5) from k_p k 5]
          refine lv_dup2_11 hx hb dX5_flows_57 rfl rfl ?_
          refine va_lald (f := vp_updL (vp_updL f 14 ((f 14) + (f (48 + 8 * k + 0)))) 1 ((f 1) + (f (48 + 8 * k + 0)))) hx hb hK hP 0 1 rfl rfl (k_in (k := 48 + 8 * k + 5) rfl (by omega) (by decide)) dX5_flows_58 ?_
          rw [show (nI (48 + 8 * k + 5) : Int32).toNatClampNeg = 48 + 8 * k + 5 from nI_clamp (by omega)]
          rw [show (vp_updL (vp_updL f 14 ((f 14) + (f (48 + 8 * k + 0)))) 1 ((f 1) + (f (48 + 8 * k + 0)))) (48 + 8 * k + 5) = f (48 + 8 * k + 5) from (pk_uLn (by omega)).trans ((pk_uLn (by omega)).trans (rfl))]
          refine lv_lconst (v := 1) hx hb dX5_flows_59 (by decide) ?_
          refine lv_ladd hx hb dX5_flows_60 ?_
          refine va_last (f := vp_updL (vp_updL f 14 ((f 14) + (f (48 + 8 * k + 0)))) 1 ((f 1) + (f (48 + 8 * k + 0)))) hx hb hK hP hD hS 0 1 rfl rfl (k_in (k := 48 + 8 * k + 5) rfl (by omega) (by decide)) dX5_flows_61 (fun H locs hP hD hS => ?_)
          rw [show (nI (48 + 8 * k + 5) : Int32).toNatClampNeg = 48 + 8 * k + 5 from nI_clamp (by omega)] at hP hD
          have hP : va_P D vwCl (rwW a cJ (vp_updL (vp_updL (vp_updL f 14 ((f 14) + (f (48 + 8 * k + 0)))) 1 ((f 1) + (f (48 + 8 * k + 0)))) (48 + 8 * k + 5) ((f (48 + 8 * k + 5)) + 1))) H := hP
          have hD : va_D A9 (rwW a cJ (vp_updL (vp_updL (vp_updL f 14 ((f 14) + (f (48 + 8 * k + 0)))) 1 ((f 1) + (f (48 + 8 * k + 0)))) (48 + 8 * k + 5) ((f (48 + 8 * k + 5)) + 1))) := hD
          refine lv_iinc (v := (nI k) + 1) (lv' := [(2, .int ((nI k) + 1)), (0, .ref a), (1, .int (nI h))]) hx hb dX5_flows_62 hl (k := 2) rfl rfl (by decide) rfl (fun ls hl => ?_)
          refine lv_goto (tgt := 2) hx hb dX5_flows_65 (by decide) ?_
          rw [show ((nI k) + 1) = (nI (k + 1)) from nI_1 _] at hl
          exact ih_2 (k + 1) (vp_updL (vp_updL (vp_updL f 14 ((f 14) + (f (48 + 8 * k + 0)))) 1 ((f 1) + (f (48 + 8 * k + 0)))) (48 + 8 * k + 5) ((f (48 + 8 * k + 5)) + 1)) (by omega) (by omega) (by rw [itr_s, e2]; simp [m_flB, c_9_1, c_21_2]) (by first | exact h7 | (simp only [vp_updL]; rw [if_neg (by omega), if_neg (by omega), if_neg (by omega)]; exact h7)) _ _ _ hP hD hS (lv_sub hl [1, 2, 0] rfl)
  exact L_2_0 (n + 1) 0 w (by omega) (by omega) (rfl) (hn) _ _ _ hP hD hS (lv_sub hl [1, 2, 0] rfl)
