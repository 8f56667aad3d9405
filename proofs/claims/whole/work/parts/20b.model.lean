/-! A MINUTE OF THE MODEL -/
def m_p1 (w : Nat → Int64) (t : Nat) : Nat → Int64 := if nI (t % 1440) = 1320 then vp_updL (vp_updL w 23 1) 19 (m_bal (vp_updL w 23 1)) else w
def m_hourB (k : Nat) (f : Nat → Int64) : Nat → Int64 := vp_updL f (48 + 8 * k + 3) 0
def m_p2 (f : Nat → Int64) (n t : Nat) : Nat → Int64 := if nI (t % 1440) - nI (t % 1440) / 60 * 60 = 0 then itr m_hourB n f else f
def m_p3 (f : Nat → Int64) (n : Nat) : Nat → Int64 := if f 1 < f 3 then (if m_starter f n = -1 then f else m_start f (m_starter f n).toNatClampNeg) else m_rest f n
def m_p12 (w : Nat → Int64) (n t : Nat) : Nat → Int64 := m_p2 (m_p1 w t) n t
def m_p4 (w : Nat → Int64) (n t : Nat) : Nat → Int64 := m_flow (m_p3 (m_p12 w n t) n) n (t % 1440 / 60)
def m_p5 (f : Nat → Int64) : Nat → Int64 := vp_updL f 10 (f 10 + (if f 2 ≤ f 1 then 0 else 1))
def m_p8 (f : Nat → Int64) : Nat → Int64 := vp_updL f 8 (f 8 + 1)
def m_p11 (f : Nat → Int64) : Nat → Int64 := vp_updL (vp_updL (m_p8 f) 23 0) 11 (f 11 + 1)
def m_p6 (f : Nat → Int64) (t : Nat) : Nat → Int64 := if nI (t % 1440) = 359 then (if f 23 = 1 then vp_updL (m_p11 f) 12 (f 19 - m_bal (m_p11 f)) else m_p8 f) else m_p8 f
def m_pass (w : Nat → Int64) (n t : Nat) : Nat → Int64 := m_p6 (m_p5 (m_p4 w n t)) t
theorem itr_out {f : Nat → (Nat → Int64) → Nat → Int64} {k : Nat} : ∀ (n : Nat) (g : Nat → Int64), (∀ (i : Nat) (h : Nat → Int64), i < n → f i h k = h k) → itr f n g k = g k
  | 0, _, _ => rfl
  | n + 1, g, h => by rw [itr_s, h n _ (by omega)]; exact itr_out n g (fun i h9 hi => h i h9 (by omega))
theorem m_p1_get {w : Nat → Int64} {t k : Nat} (h1 : k ≠ 23) (h2 : k ≠ 19) : m_p1 w t k = w k := by
  unfold m_p1
  split
  · rw [pk_uLn h2, pk_uLn h1]
  · rfl
theorem m_p2_get {w : Nat → Int64} {n t k : Nat} (hn : n ≤ 6) (h : k < 48 ∨ 96 ≤ k) : m_p2 w n t k = w k := by
  unfold m_p2
  split
  · exact itr_out n w (fun i g hi => pk_uLn (by omega))
  · rfl
theorem m_p12_get {w : Nat → Int64} {n t k : Nat} (hn : n ≤ 6) (h1 : k ≠ 23) (h2 : k ≠ 19) (h : k < 48 ∨ 96 ≤ k) : m_p12 w n t k = w k := (m_p2_get hn h).trans (m_p1_get h1 h2)
theorem m_rest_get {w : Nat → Int64} {n k : Nat} (hn : n ≤ 6) (h : k < 48 ∨ 102 ≤ k) : m_rest w n k = w k := by
  unfold m_rest
  split
  · rfl
  · rename_i hc
    have := m_many_pos hc
    rw [pk_uLn (by omega), itr_out (f := m_shB) (k := k) (n - 1) (m_rest1 w n) (fun i g hi => pk_uLn (by omega))]
    exact itr_out (f := m_offB) n w (fun i g hi => pk_uLn (by omega))
theorem m_logs_get {w : Nat → Int64} {j k : Nat} (h : k < 102) (h2 : k ≠ 13) : m_logs w j k = w k := by
  unfold m_logs m_log3 m_logF
  rw [pk_uLn h2, pk_uLn (by omega), pk_uLn (by omega), pk_uLn (by omega)]
  exact itr_out 33 w (fun i g hi => pk_uLn (by omega))
theorem m_start_get {w : Nat → Int64} {j k : Nat} (hj : j < 6) (h : k < 48 ∨ 96 ≤ k) (h1 : k ≠ 9) (h2 : k ≠ 13) (h3 : k < 102) : m_start w j k = w k := by
  unfold m_start
  split
  · unfold m_st1; rw [pk_uLn (by omega), pk_uLn (by omega), pk_uLn (by omega)]
  · rw [m_logs_get h3 h2, pk_uLn h1, pk_uLn (by omega)]
    unfold m_st1; rw [pk_uLn (by omega), pk_uLn (by omega), pk_uLn (by omega)]
theorem m_foIn {w : Nat → Int64} {n : Nat} {v : Int32} (hord : ∀ k, k < n → ∃ j, j < 6 ∧ w (96 + k) = lN j) (h : ¬ m_fo w n v = -1) : ∃ j, j < 6 ∧ m_fo w n v = nI j := by
  unfold m_fo at h ⊢
  split at h
  · rename_i hk
    rw [if_pos hk]
    obtain ⟨j, hj, e⟩ := hord _ hk
    exact ⟨j, hj, by rw [m_q, e, lN_cl (by omega)]⟩
  · exact absurd rfl h
theorem m_starterIn {w : Nat → Int64} {n : Nat} (hord : ∀ k, k < n → ∃ j, j < 6 ∧ w (96 + k) = lN j) (h : ¬ m_starter w n = -1) : ∃ j, j < 6 ∧ m_starter w n = nI j := by
  unfold m_starter at h ⊢
  split at h
  · rename_i h1
    rw [if_pos h1]
    split at h
    · rename_i h2; rw [if_pos h2]; exact m_foIn hord h
    · rename_i h2; rw [if_neg h2]; exact m_foIn hord h
  · exact absurd rfl h
theorem m_p3_get {w : Nat → Int64} {n k : Nat} (hn : n ≤ 6) (hord : ∀ k, k < n → ∃ j, j < 6 ∧ w (96 + k) = lN j) (h : k < 48) (h1 : k ≠ 9) (h2 : k ≠ 13) : m_p3 w n k = w k := by
  unfold m_p3
  split
  · split
    · rfl
    · rename_i hc
      obtain ⟨j, hj, e⟩ := m_starterIn hord hc
      rw [e, nI_clamp (by omega)]
      exact m_start_get hj (Or.inl h) h1 h2 (by omega)
  · exact m_rest_get hn (Or.inl h)
theorem m_day {w : Nat → Int64} {t : Nat} (ht : w 8 = lN t) (hb : t < 2 ^ 40) : (w 8 - w 8 / 1440 * 1440).toInt32 = nI (t % 1440) := by
  rw [ht, show (1440 : Int64) = lN 1440 from rfl, pk_lRem (by omega) (by omega) (by omega), lN_i]

set_option maxHeartbeats 1000000 in
set_option maxRecDepth 100000 in
theorem c_X5_passes (l : Launch) (D : va_G) (a : Nat) (cI cJ : ClassId) (w : Nat → Int64) (n : Nat) (hn : w 7 = lN n) (hn6 : n ≤ 6) (hord : ∀ k, k < n → ∃ j, j < 6 ∧ w (96 + k) = lN j) (t : Nat) (ht : w 8 = lN t) (htb : t < 2 ^ 40) : kV l yX5_passes wsX5_passes ({ frames := 3, cells := 0, slots := 0, locals := 68 } : Room) D [(cI, .int), (cJ, .long)] [.ref a] (rwW a cJ w) (rwW a cJ (m_pass w n t)) := by
  refine kBody.met (cc := cX5_passes) (maxL := 3) (ret := none) (by decide) rfl (Nat.le_of_ble_eq_true rfl) ?_
  intro p9 e9 s9 m9 below meth c9 A9 ls hx hb hr hml hts hown hlk hK hP hD hA hl
  have hown : s9.vm.findClass RX5 = some m9.cls := hown
  have hS : va_S A9 s9.heap s9.heap [] := va_S.rf
  have hl : lv_has ls 3 [(0, .ref a)] := hl
  refine lv_aload_n hx hb dX5_passes_0 rfl (lv_at hl 0 rfl) ?_
  refine lv_bipush (v := 8) hx hb dX5_passes_1 (by decide) ?_
  refine va_lald (f := w) hx hb hK hP 0 1 rfl rfl (k_in (k := 8) rfl (by decide) (by decide)) dX5_passes_3 ?_
  rw [show (8 : Int32).toNatClampNeg = 8 from rfl]
  refine lv_ldc2 (v := 1440) hx hb hown (hts (.constantLong RX5 107 (1440)) (List.mem_of_getElem? (i := 1) rfl)) dX5_passes_4 ?_
  refine lv_lrem hx hb dX5_passes_7 (by decide) ?_
  refine lv_l2i hx hb dX5_passes_8 rfl ?_
  rw [show ((w 8) - (w 8) / 1440 * 1440).toInt32 = nI (t % 1440) from m_day ht htb]
  have hord2 : ∀ k, k < n → ∃ j, j < 6 ∧ m_p12 w n t (96 + k) = lN j := fun k hk => by
    obtain ⟨j, hj, e⟩ := hord k hk
    exact ⟨j, hj, (m_p12_get hn6 (by omega) (by omega) (by omega)).trans e⟩
  refine lv_istore_n (lv' := [(1, .int (nI (t % 1440))), (0, .ref a)]) hx hb dX5_passes_9 rfl hl (by decide) rfl (fun ls hl => ?_)
  have J_30_0 : ∀ (H : Heap) (locs : List Loc) (ls : Array Slot), va_P D vwCl (rwW a cJ (m_p1 w t)) H → va_D A9 (rwW a cJ (m_p1 w t)) → va_S A9 s9.heap H locs → lv_has ls 3 [(0, .ref a), (1, .int (nI (t % 1440)))] → W p9 l e9 ({ frames := 3, cells := 0, slots := 0, locals := 68 } : Room) s9 m9 (List.toArray [.ref a]) below meth c9 H locs 0 0 (MQ below (va_Qv (fun (_ : Unit) => True) (fun _ t9 => va_P D vwCl (rwW a cJ (m_pass w n t)) t9.heap) A9) (List.toArray [.ref a]) s9 0 0 A9) (F0 m9 30 ls [])  := by
    intro H locs ls hP hD hS hl
    have J_63_1 : ∀ (H : Heap) (locs : List Loc) (ls : Array Slot), va_P D vwCl (rwW a cJ (m_p12 w n t)) H → va_D A9 (rwW a cJ (m_p12 w n t)) → va_S A9 s9.heap H locs → lv_has ls 3 [(0, .ref a), (1, .int (nI (t % 1440)))] → W p9 l e9 ({ frames := 3, cells := 0, slots := 0, locals := 68 } : Room) s9 m9 (List.toArray [.ref a]) below meth c9 H locs 0 0 (MQ below (va_Qv (fun (_ : Unit) => True) (fun _ t9 => va_P D vwCl (rwW a cJ (m_pass w n t)) t9.heap) A9) (List.toArray [.ref a]) s9 0 0 A9) (F0 m9 63 ls [])  := by
      intro H locs ls hP hD hS hl
      have J_95_2 : ∀ (H : Heap) (locs : List Loc) (ls : Array Slot), va_P D vwCl (rwW a cJ (m_p3 (m_p12 w n t) n)) H → va_D A9 (rwW a cJ (m_p3 (m_p12 w n t) n)) → va_S A9 s9.heap H locs → lv_has ls 3 [(0, .ref a), (1, .int (nI (t % 1440)))] → W p9 l e9 ({ frames := 3, cells := 0, slots := 0, locals := 68 } : Room) s9 m9 (List.toArray [.ref a]) below meth c9 H locs 0 0 (MQ below (va_Qv (fun (_ : Unit) => True) (fun _ t9 => va_P D vwCl (rwW a cJ (m_pass w n t)) t9.heap) A9) (List.toArray [.ref a]) s9 0 0 A9) (F0 m9 95 ls [])  := by
        intro H locs ls hP hD hS hl
        refine lv_aload_n hx hb dX5_passes_95 rfl (lv_at hl 0 rfl) ?_
        refine lv_iload_n hx hb dX5_passes_96 rfl (lv_at hl 1 rfl) ?_
        refine lv_bipush (v := 60) hx hb dX5_passes_97 (by decide) ?_
        refine lv_idiv hx hb dX5_passes_99 (by decide) ?_
        rw [show (nI (t % 1440)) / 60 = nI (t % 1440 / 60) from (by rw [show (60 : Int32) = nI 60 from rfl, pk_div (by omega) (by omega) (by omega)])]
        refine k_callv (a := []) (z := []) (wc := rwW a cJ (m_p3 (m_p12 w n t) n)) (wc' := rwW a cJ (m_flow (m_p3 (m_p12 w n t) n) n (t % 1440 / 60))) (w' := rwW a cJ (m_flow (m_p3 (m_p12 w n t) n) n (t % 1440 / 60))) (va_runS (As := [.ref a, .int (nI (t % 1440 / 60))]) (rest := []) ⟨hx, hb, hml, hown, hts⟩ (c_X5_flows l D a cI cJ (m_p3 (m_p12 w n t) n) (t % 1440 / 60) (by omega) n ((m_p3_get hn6 hord2 (by decide) (by decide) (by decide)).trans ((m_p12_get hn6 (by decide) (by decide) (by decide)).trans hn)) hn6 _) (cwS 2 hts gX5_passes_X5_flows rfl rfl rfl (by decide +kernel) ⟨Nat.le_of_ble_eq_true rfl, Nat.le_of_ble_eq_true rfl⟩) ⟨kB_blind, k_pre (a := []) (z := []) (k_w0 _) hK hP hD⟩ rfl rfl hl.1 rfl (lv_room (Nat.le_of_ble_eq_true rfl)) dX5_passes_100 ⟨Nat.zero_le _, Nat.zero_le _⟩) (k_w0 _) (k_w0 _) (rwW_ad _ _ _ _) hP hD hS hA (fun H locs hP hD hS => ?_)
        have J_125_3 : ∀ (H : Heap) (locs : List Loc) (ls : Array Slot), va_P D vwCl (rwW a cJ (m_p5 (m_p4 w n t))) H → va_D A9 (rwW a cJ (m_p5 (m_p4 w n t))) → va_S A9 s9.heap H locs → lv_has ls 3 [(0, .ref a), (1, .int (nI (t % 1440)))] → W p9 l e9 ({ frames := 3, cells := 0, slots := 0, locals := 68 } : Room) s9 m9 (List.toArray [.ref a]) below meth c9 H locs 0 0 (MQ below (va_Qv (fun (_ : Unit) => True) (fun _ t9 => va_P D vwCl (rwW a cJ (m_pass w n t)) t9.heap) A9) (List.toArray [.ref a]) s9 0 0 A9) (F0 m9 125 ls [])  := by
          intro H locs ls hP hD hS hl
          refine lv_aload_n hx hb dX5_passes_125 rfl (lv_at hl 0 rfl) ?_
          refine lv_bipush (v := 8) hx hb dX5_passes_126 (by decide) ?_
          refine lv_dup2_11 hx hb dX5_passes_128 rfl rfl ?_
          refine va_lald (f := m_p5 (m_p4 w n t)) hx hb hK hP 0 1 rfl rfl (k_in (k := 8) rfl (by decide) (by decide)) dX5_passes_129 ?_
          rw [show (8 : Int32).toNatClampNeg = 8 from rfl]
          refine lv_lconst (v := 1) hx hb dX5_passes_130 (by decide) ?_
          refine lv_ladd hx hb dX5_passes_131 ?_
          refine va_last (f := m_p5 (m_p4 w n t)) hx hb hK hP hD hS 0 1 rfl rfl (k_in (k := 8) rfl (by decide) (by decide)) dX5_passes_132 (fun H locs hP hD hS => ?_)
          rw [show (8 : Int32).toNatClampNeg = 8 from rfl] at hP hD
          have hP : va_P D vwCl (rwW a cJ (vp_updL (m_p5 (m_p4 w n t)) 8 (((m_p5 (m_p4 w n t)) 8) + 1))) H := hP
          have hD : va_D A9 (rwW a cJ (vp_updL (m_p5 (m_p4 w n t)) 8 (((m_p5 (m_p4 w n t)) 8) + 1))) := hD
          refine lv_iload_n hx hb dX5_passes_133 rfl (lv_at hl 1 rfl) ?_
          refine lv_sipush (v := 359) hx hb dX5_passes_134 (by decide) ?_
          refine lv_icmp_ne (tgt := 175) hx hb dX5_passes_137 (by decide) (fun c_137_4 => ?_) (fun c_137_4 => ?_)
          · have c_137_4 : ¬ (nI (t % 1440)) = 359 := c_137_4
            exact k_vret hx hb hr hlk hP hS dX5_passes_175 (k_P (congrArg (fun T9 => rwW a cJ T9) (show (vp_updL (m_p5 (m_p4 w n t)) 8 (((m_p5 (m_p4 w n t)) 8) + 1)) = (m_pass w n t) from by first | (simp only [m_pass, m_p6, m_p8, m_p11, c_137_4]; done) | (simp [m_pass, m_p6, m_p8, m_p11, c_137_4]; done) | rfl)))
          · have c_137_4 : (nI (t % 1440)) = 359 := c_137_4
            refine lv_aload_n hx hb dX5_passes_140 rfl (lv_at hl 0 rfl) ?_
            refine lv_bipush (v := 23) hx hb dX5_passes_141 (by decide) ?_
            refine va_lald (f := vp_updL (m_p5 (m_p4 w n t)) 8 (((m_p5 (m_p4 w n t)) 8) + 1)) hx hb hK hP 0 1 rfl rfl (k_in (k := 23) rfl (by decide) (by decide)) dX5_passes_143 ?_
            rw [show (23 : Int32).toNatClampNeg = 23 from rfl]
            rw [show (vp_updL (m_p5 (m_p4 w n t)) 8 (((m_p5 (m_p4 w n t)) 8) + 1)) 23 = (m_p5 (m_p4 w n t)) 23 from (pk_uLn (by omega)).trans (rfl)]
            refine lv_lconst (v := 1) hx hb dX5_passes_144 (by decide) ?_
            refine W.lcmp hx hb dX5_passes_145 ?_
            refine lv_if_ne (tgt := 175) hx hb dX5_passes_146 (by decide) (fun c_146_5 => ?_) (fun c_146_5 => ?_)
            · have c_146_5 : ¬ ((m_p5 (m_p4 w n t)) 23) = 1 := mt (lg_cmp_eq ((m_p5 (m_p4 w n t)) 23) 1).mpr c_146_5
              exact k_vret hx hb hr hlk hP hS dX5_passes_175 (k_P (congrArg (fun T9 => rwW a cJ T9) (show (vp_updL (m_p5 (m_p4 w n t)) 8 (((m_p5 (m_p4 w n t)) 8) + 1)) = (m_pass w n t) from by first | (simp only [m_pass, m_p6, m_p8, m_p11, c_137_4, c_146_5]; done) | (simp [m_pass, m_p6, m_p8, m_p11, c_137_4, c_146_5]; done) | rfl)))
            · have c_146_5 : ((m_p5 (m_p4 w n t)) 23) = 1 := (lg_cmp_eq ((m_p5 (m_p4 w n t)) 23) 1).mp c_146_5
              refine lv_aload_n hx hb dX5_passes_149 rfl (lv_at hl 0 rfl) ?_
              refine lv_bipush (v := 23) hx hb dX5_passes_150 (by decide) ?_
              refine lv_lconst (v := 0) hx hb dX5_passes_152 (by decide) ?_
              refine va_last (f := vp_updL (m_p5 (m_p4 w n t)) 8 (((m_p5 (m_p4 w n t)) 8) + 1)) hx hb hK hP hD hS 0 1 rfl rfl (k_in (k := 23) rfl (by decide) (by decide)) dX5_passes_153 (fun H locs hP hD hS => ?_)
              rw [show (23 : Int32).toNatClampNeg = 23 from rfl] at hP hD
              have hP : va_P D vwCl (rwW a cJ (vp_updL (vp_updL (m_p5 (m_p4 w n t)) 8 (((m_p5 (m_p4 w n t)) 8) + 1)) 23 0)) H := hP
              have hD : va_D A9 (rwW a cJ (vp_updL (vp_updL (m_p5 (m_p4 w n t)) 8 (((m_p5 (m_p4 w n t)) 8) + 1)) 23 0)) := hD
              refine lv_aload_n hx hb dX5_passes_154 rfl (lv_at hl 0 rfl) ?_
              refine lv_bipush (v := 11) hx hb dX5_passes_155 (by decide) ?_
              refine lv_dup2_11 hx hb dX5_passes_157 rfl rfl ?_
              refine va_lald (f := vp_updL (vp_updL (m_p5 (m_p4 w n t)) 8 (((m_p5 (m_p4 w n t)) 8) + 1)) 23 0) hx hb hK hP 0 1 rfl rfl (k_in (k := 11) rfl (by decide) (by decide)) dX5_passes_158 ?_
              rw [show (11 : Int32).toNatClampNeg = 11 from rfl]
              rw [show (vp_updL (vp_updL (m_p5 (m_p4 w n t)) 8 (((m_p5 (m_p4 w n t)) 8) + 1)) 23 0) 11 = (m_p5 (m_p4 w n t)) 11 from (pk_uLn (by omega)).trans ((pk_uLn (by omega)).trans (rfl))]
              refine lv_lconst (v := 1) hx hb dX5_passes_159 (by decide) ?_
              refine lv_ladd hx hb dX5_passes_160 ?_
              refine va_last (f := vp_updL (vp_updL (m_p5 (m_p4 w n t)) 8 (((m_p5 (m_p4 w n t)) 8) + 1)) 23 0) hx hb hK hP hD hS 0 1 rfl rfl (k_in (k := 11) rfl (by decide) (by decide)) dX5_passes_161 (fun H locs hP hD hS => ?_)
              rw [show (11 : Int32).toNatClampNeg = 11 from rfl] at hP hD
              have hP : va_P D vwCl (rwW a cJ (vp_updL (vp_updL (vp_updL (m_p5 (m_p4 w n t)) 8 (((m_p5 (m_p4 w n t)) 8) + 1)) 23 0) 11 (((m_p5 (m_p4 w n t)) 11) + 1))) H := hP
              have hD : va_D A9 (rwW a cJ (vp_updL (vp_updL (vp_updL (m_p5 (m_p4 w n t)) 8 (((m_p5 (m_p4 w n t)) 8) + 1)) 23 0) 11 (((m_p5 (m_p4 w n t)) 11) + 1))) := hD
              refine lv_aload_n hx hb dX5_passes_162 rfl (lv_at hl 0 rfl) ?_
              refine lv_bipush (v := 12) hx hb dX5_passes_163 (by decide) ?_
              refine lv_aload_n hx hb dX5_passes_165 rfl (lv_at hl 0 rfl) ?_
              refine lv_bipush (v := 19) hx hb dX5_passes_166 (by decide) ?_
              refine va_lald (f := vp_updL (vp_updL (vp_updL (m_p5 (m_p4 w n t)) 8 (((m_p5 (m_p4 w n t)) 8) + 1)) 23 0) 11 (((m_p5 (m_p4 w n t)) 11) + 1)) hx hb hK hP 0 1 rfl rfl (k_in (k := 19) rfl (by decide) (by decide)) dX5_passes_168 ?_
              rw [show (19 : Int32).toNatClampNeg = 19 from rfl]
              rw [show (vp_updL (vp_updL (vp_updL (m_p5 (m_p4 w n t)) 8 (((m_p5 (m_p4 w n t)) 8) + 1)) 23 0) 11 (((m_p5 (m_p4 w n t)) 11) + 1)) 19 = (m_p5 (m_p4 w n t)) 19 from (pk_uLn (by omega)).trans ((pk_uLn (by omega)).trans ((pk_uLn (by omega)).trans (rfl)))]
              refine lv_aload_n hx hb dX5_passes_169 rfl (lv_at hl 0 rfl) ?_
              refine k_calll (a := []) (z := []) (wc := rwW a cJ (vp_updL (vp_updL (vp_updL (m_p5 (m_p4 w n t)) 8 (((m_p5 (m_p4 w n t)) 8) + 1)) 23 0) 11 (((m_p5 (m_p4 w n t)) 11) + 1))) (wc' := rwW a cJ (vp_updL (vp_updL (vp_updL (m_p5 (m_p4 w n t)) 8 (((m_p5 (m_p4 w n t)) 8) + 1)) 23 0) 11 (((m_p5 (m_p4 w n t)) 11) + 1))) (w' := rwW a cJ (vp_updL (vp_updL (vp_updL (m_p5 (m_p4 w n t)) 8 (((m_p5 (m_p4 w n t)) 8) + 1)) 23 0) 11 (((m_p5 (m_p4 w n t)) 11) + 1))) (va_runS (As := [.ref a]) (rest := [.long ((m_p5 (m_p4 w n t)) 19), .int 12, .ref a]) ⟨hx, hb, hml, hown, hts⟩ (c_X5_balance l D a cI cJ (vp_updL (vp_updL (vp_updL (m_p5 (m_p4 w n t)) 8 (((m_p5 (m_p4 w n t)) 8) + 1)) 23 0) 11 (((m_p5 (m_p4 w n t)) 11) + 1))  _) (cwS 1 hts gX5_passes_X5_balance rfl rfl rfl (by decide +kernel) ⟨Nat.le_of_ble_eq_true rfl, Nat.le_of_ble_eq_true rfl⟩) ⟨kB_blind, k_pre (a := []) (z := []) (k_w0 _) hK hP hD⟩ rfl rfl hl.1 rfl (lv_room (Nat.le_of_ble_eq_true rfl)) dX5_passes_170 ⟨Nat.zero_le _, Nat.zero_le _⟩) (k_w0 _) (k_w0 _) (rwW_ad _ _ _ _) hP hD hS hA (fun H locs hP hD hS => ?_)
              refine lv_lsub hx hb dX5_passes_173 ?_
              refine va_last (f := vp_updL (vp_updL (vp_updL (m_p5 (m_p4 w n t)) 8 (((m_p5 (m_p4 w n t)) 8) + 1)) 23 0) 11 (((m_p5 (m_p4 w n t)) 11) + 1)) hx hb hK hP hD hS 0 1 rfl rfl (k_in (k := 12) rfl (by decide) (by decide)) dX5_passes_174 (fun H locs hP hD hS => ?_)
              rw [show (12 : Int32).toNatClampNeg = 12 from rfl] at hP hD
              have hP : va_P D vwCl (rwW a cJ (vp_updL (vp_updL (vp_updL (vp_updL (m_p5 (m_p4 w n t)) 8 (((m_p5 (m_p4 w n t)) 8) + 1)) 23 0) 11 (((m_p5 (m_p4 w n t)) 11) + 1)) 12 (((m_p5 (m_p4 w n t)) 19) - (m_bal (vp_updL (vp_updL (vp_updL (m_p5 (m_p4 w n t)) 8 (((m_p5 (m_p4 w n t)) 8) + 1)) 23 0) 11 (((m_p5 (m_p4 w n t)) 11) + 1)))))) H := hP
              have hD : va_D A9 (rwW a cJ (vp_updL (vp_updL (vp_updL (vp_updL (m_p5 (m_p4 w n t)) 8 (((m_p5 (m_p4 w n t)) 8) + 1)) 23 0) 11 (((m_p5 (m_p4 w n t)) 11) + 1)) 12 (((m_p5 (m_p4 w n t)) 19) - (m_bal (vp_updL (vp_updL (vp_updL (m_p5 (m_p4 w n t)) 8 (((m_p5 (m_p4 w n t)) 8) + 1)) 23 0) 11 (((m_p5 (m_p4 w n t)) 11) + 1)))))) := hD
              exact k_vret hx hb hr hlk hP hS dX5_passes_175 (k_P (congrArg (fun T9 => rwW a cJ T9) (show (vp_updL (vp_updL (vp_updL (vp_updL (m_p5 (m_p4 w n t)) 8 (((m_p5 (m_p4 w n t)) 8) + 1)) 23 0) 11 (((m_p5 (m_p4 w n t)) 11) + 1)) 12 (((m_p5 (m_p4 w n t)) 19) - (m_bal (vp_updL (vp_updL (vp_updL (m_p5 (m_p4 w n t)) 8 (((m_p5 (m_p4 w n t)) 8) + 1)) 23 0) 11 (((m_p5 (m_p4 w n t)) 11) + 1))))) = (m_pass w n t) from by first | (simp only [m_pass, m_p6, m_p8, m_p11, c_137_4, c_146_5]; done) | (simp [m_pass, m_p6, m_p8, m_p11, c_137_4, c_146_5]; done) | rfl)))
        refine lv_aload_n hx hb dX5_passes_103 rfl (lv_at hl 0 rfl) ?_
        refine lv_bipush (v := 10) hx hb dX5_passes_104 (by decide) ?_
        refine lv_dup2_11 hx hb dX5_passes_106 rfl rfl ?_
        refine va_lald (f := m_flow (m_p3 (m_p12 w n t) n) n (t % 1440 / 60)) hx hb hK hP 0 1 rfl rfl (k_in (k := 10) rfl (by decide) (by decide)) dX5_passes_107 ?_
        rw [show (10 : Int32).toNatClampNeg = 10 from rfl]
        refine lv_aload_n hx hb dX5_passes_108 rfl (lv_at hl 0 rfl) ?_
        refine lv_iconst (v := 1) hx hb dX5_passes_109 (by decide) ?_
        refine va_lald (f := m_flow (m_p3 (m_p12 w n t) n) n (t % 1440 / 60)) hx hb hK hP 0 1 rfl rfl (k_in (k := 1) rfl (by decide) (by decide)) dX5_passes_110 ?_
        rw [show (1 : Int32).toNatClampNeg = 1 from rfl]
        refine lv_aload_n hx hb dX5_passes_111 rfl (lv_at hl 0 rfl) ?_
        refine lv_iconst (v := 2) hx hb dX5_passes_112 (by decide) ?_
        refine va_lald (f := m_flow (m_p3 (m_p12 w n t) n) n (t % 1440 / 60)) hx hb hK hP 0 1 rfl rfl (k_in (k := 2) rfl (by decide) (by decide)) dX5_passes_113 ?_
        rw [show (2 : Int32).toNatClampNeg = 2 from rfl]
        refine W.lcmp hx hb dX5_passes_114 ?_
        refine lv_if_ge (tgt := 122) hx hb dX5_passes_115 (by decide) (fun c_115_6 => ?_) (fun c_115_6 => ?_)
        · have c_115_6 : ((m_flow (m_p3 (m_p12 w n t) n) n (t % 1440 / 60)) 2) ≤ ((m_flow (m_p3 (m_p12 w n t) n) n (t % 1440 / 60)) 1) := (lg_cmp_ge ((m_flow (m_p3 (m_p12 w n t) n) n (t % 1440 / 60)) 1) ((m_flow (m_p3 (m_p12 w n t) n) n (t % 1440 / 60)) 2)).mp c_115_6
          refine lv_lconst (v := 0) hx hb dX5_passes_122 (by decide) ?_
          refine lv_ladd hx hb dX5_passes_123 ?_
          refine va_last (f := m_flow (m_p3 (m_p12 w n t) n) n (t % 1440 / 60)) hx hb hK hP hD hS 0 1 rfl rfl (k_in (k := 10) rfl (by decide) (by decide)) dX5_passes_124 (fun H locs hP hD hS => ?_)
          rw [show (10 : Int32).toNatClampNeg = 10 from rfl] at hP hD
          have hP : va_P D vwCl (rwW a cJ (vp_updL (m_flow (m_p3 (m_p12 w n t) n) n (t % 1440 / 60)) 10 (((m_flow (m_p3 (m_p12 w n t) n) n (t % 1440 / 60)) 10) + 0))) H := hP
          have hD : va_D A9 (rwW a cJ (vp_updL (m_flow (m_p3 (m_p12 w n t) n) n (t % 1440 / 60)) 10 (((m_flow (m_p3 (m_p12 w n t) n) n (t % 1440 / 60)) 10) + 0))) := hD
          have hs0 : (vp_updL (m_flow (m_p3 (m_p12 w n t) n) n (t % 1440 / 60)) 10 (((m_flow (m_p3 (m_p12 w n t) n) n (t % 1440 / 60)) 10) + 0)) = (m_p5 (m_p4 w n t)) := by first | (simp only [m_p5, m_p4, c_115_6]; done) | (simp [m_p5, m_p4, c_115_6]; done) | rfl
          have hw9 : (rwW a cJ (vp_updL (m_flow (m_p3 (m_p12 w n t) n) n (t % 1440 / 60)) 10 (((m_flow (m_p3 (m_p12 w n t) n) n (t % 1440 / 60)) 10) + 0))) = (rwW a cJ (m_p5 (m_p4 w n t))) := congrArg (fun T9 => rwW a cJ T9) hs0
          exact J_125_3 _ _ _ (k_P hw9 hP) (hw9 ▸ hD) hS (lv_sub hl [0, 1] rfl)
        · have c_115_6 : ¬ ((m_flow (m_p3 (m_p12 w n t) n) n (t % 1440 / 60)) 2) ≤ ((m_flow (m_p3 (m_p12 w n t) n) n (t % 1440 / 60)) 1) := mt (lg_cmp_ge ((m_flow (m_p3 (m_p12 w n t) n) n (t % 1440 / 60)) 1) ((m_flow (m_p3 (m_p12 w n t) n) n (t % 1440 / 60)) 2)).mpr c_115_6
          refine lv_lconst (v := 1) hx hb dX5_passes_118 (by decide) ?_
          refine lv_goto (tgt := 123) hx hb dX5_passes_119 (by decide) ?_
          refine lv_ladd hx hb dX5_passes_123 ?_
          refine va_last (f := m_flow (m_p3 (m_p12 w n t) n) n (t % 1440 / 60)) hx hb hK hP hD hS 0 1 rfl rfl (k_in (k := 10) rfl (by decide) (by decide)) dX5_passes_124 (fun H locs hP hD hS => ?_)
          rw [show (10 : Int32).toNatClampNeg = 10 from rfl] at hP hD
          have hP : va_P D vwCl (rwW a cJ (vp_updL (m_flow (m_p3 (m_p12 w n t) n) n (t % 1440 / 60)) 10 (((m_flow (m_p3 (m_p12 w n t) n) n (t % 1440 / 60)) 10) + 1))) H := hP
          have hD : va_D A9 (rwW a cJ (vp_updL (m_flow (m_p3 (m_p12 w n t) n) n (t % 1440 / 60)) 10 (((m_flow (m_p3 (m_p12 w n t) n) n (t % 1440 / 60)) 10) + 1))) := hD
          have hs0 : (vp_updL (m_flow (m_p3 (m_p12 w n t) n) n (t % 1440 / 60)) 10 (((m_flow (m_p3 (m_p12 w n t) n) n (t % 1440 / 60)) 10) + 1)) = (m_p5 (m_p4 w n t)) := by first | (simp only [m_p5, m_p4, c_115_6]; done) | (simp [m_p5, m_p4, c_115_6]; done) | rfl
          have hw9 : (rwW a cJ (vp_updL (m_flow (m_p3 (m_p12 w n t) n) n (t % 1440 / 60)) 10 (((m_flow (m_p3 (m_p12 w n t) n) n (t % 1440 / 60)) 10) + 1))) = (rwW a cJ (m_p5 (m_p4 w n t))) := congrArg (fun T9 => rwW a cJ T9) hs0
          exact J_125_3 _ _ _ (k_P hw9 hP) (hw9 ▸ hD) hS (lv_sub hl [0, 1] rfl)
      refine lv_aload_n hx hb dX5_passes_63 rfl (lv_at hl 0 rfl) ?_
      refine lv_iconst (v := 1) hx hb dX5_passes_64 (by decide) ?_
      refine va_lald (f := m_p12 w n t) hx hb hK hP 0 1 rfl rfl (k_in (k := 1) rfl (by decide) (by decide)) dX5_passes_65 ?_
      rw [show (1 : Int32).toNatClampNeg = 1 from rfl]
      refine lv_aload_n hx hb dX5_passes_66 rfl (lv_at hl 0 rfl) ?_
      refine lv_iconst (v := 3) hx hb dX5_passes_67 (by decide) ?_
      refine va_lald (f := m_p12 w n t) hx hb hK hP 0 1 rfl rfl (k_in (k := 3) rfl (by decide) (by decide)) dX5_passes_68 ?_
      rw [show (3 : Int32).toNatClampNeg = 3 from rfl]
      refine W.lcmp hx hb dX5_passes_69 ?_
      refine lv_if_lt (tgt := 80) hx hb dX5_passes_70 (by decide) (fun c_70_7 => ?_) (fun c_70_7 => ?_)
      · have c_70_7 : ((m_p12 w n t) 1) < ((m_p12 w n t) 3) := (lg_cmp_lt ((m_p12 w n t) 1) ((m_p12 w n t) 3)).mp c_70_7
        refine lv_aload_n hx hb dX5_passes_80 rfl (lv_at hl 0 rfl) ?_
        refine k_calli (a := []) (z := []) (wc := rwW a cJ (m_p12 w n t)) (wc' := rwW a cJ (m_p12 w n t)) (w' := rwW a cJ (m_p12 w n t)) (va_runS (As := [.ref a]) (rest := []) ⟨hx, hb, hml, hown, hts⟩ (c_X5_starter l D a cI cJ (m_p12 w n t) n ((m_p12_get hn6 (by decide) (by decide) (by decide)).trans hn) hn6 hord2 _) (cwS 1 hts gX5_passes_X5_starter rfl rfl rfl (by decide +kernel) ⟨Nat.le_of_ble_eq_true rfl, Nat.le_of_ble_eq_true rfl⟩) ⟨kB_blind, k_pre (a := []) (z := []) (k_w0 _) hK hP hD⟩ rfl rfl hl.1 rfl (lv_room (Nat.le_of_ble_eq_true rfl)) dX5_passes_81 ⟨Nat.zero_le _, Nat.zero_le _⟩) (k_w0 _) (k_w0 _) (rwW_ad _ _ _ _) hP hD hS hA (fun H locs hP hD hS => ?_)
        refine lv_topi (fun xq exq => ?_)
        refine lv_istore_n (lv' := [(2, .int xq), (0, .ref a), (1, .int (nI (t % 1440)))]) hx hb dX5_passes_84 rfl hl (by decide) rfl (fun ls hl => ?_)
        refine lv_iload_n hx hb dX5_passes_85 rfl (lv_at hl 0 rfl) ?_
        refine lv_iconst (v := (-1)) hx hb dX5_passes_86 (by decide) ?_
        refine lv_icmp_eq (tgt := 95) hx hb dX5_passes_87 (by decide) (fun c_87_8 => ?_) (fun c_87_8 => ?_)
        · have c_87_8 : xq = (-1) := c_87_8
          have hs0 : (m_p12 w n t) = (m_p3 (m_p12 w n t) n) := by first | (rw [m_p3, if_neg c_87_8]; done) | (rw [m_p3, if_pos c_70_7, if_pos (exq.symm.trans c_87_8)]; done) | (rw [m_p3, if_pos c_70_7, ej, if_neg c_87_8, nI_clamp (by omega)]; done)
          have hw9 : (rwW a cJ (m_p12 w n t)) = (rwW a cJ (m_p3 (m_p12 w n t) n)) := congrArg (fun T9 => rwW a cJ T9) hs0
          exact J_95_2 _ _ _ (k_P hw9 hP) (hw9 ▸ hD) hS (lv_sub hl [1, 2] rfl)
        · have c_87_8 : ¬ xq = (-1) := c_87_8
          obtain ⟨j, hj, ej⟩ := m_starterIn hord2 (show ¬ m_starter (m_p12 w n t) n = -1 from exq ▸ c_87_8)
          obtain rfl : xq = nI j := exq.trans ej
          refine lv_aload_n hx hb dX5_passes_90 rfl (lv_at hl 1 rfl) ?_
          refine lv_iload_n hx hb dX5_passes_91 rfl (lv_at hl 0 rfl) ?_
          refine k_callv (a := []) (z := []) (wc := rwW a cJ (m_p12 w n t)) (wc' := rwW a cJ (m_start (m_p12 w n t) j)) (w' := rwW a cJ (m_start (m_p12 w n t) j)) (va_runS (As := [.ref a, .int (nI j)]) (rest := []) ⟨hx, hb, hml, hown, hts⟩ (c_X5_starts l D a cI cJ (m_p12 w n t) j hj _) (cwS 2 hts gX5_passes_X5_starts rfl rfl rfl (by decide +kernel) ⟨Nat.le_of_ble_eq_true rfl, Nat.le_of_ble_eq_true rfl⟩) ⟨kB_blind, k_pre (a := []) (z := []) (k_w0 _) hK hP hD⟩ rfl rfl hl.1 rfl (lv_room (Nat.le_of_ble_eq_true rfl)) dX5_passes_92 ⟨Nat.zero_le _, Nat.zero_le _⟩) (k_w0 _) (k_w0 _) (rwW_ad _ _ _ _) hP hD hS hA (fun H locs hP hD hS => ?_)
          have hs0 : (m_start (m_p12 w n t) j) = (m_p3 (m_p12 w n t) n) := by first | (rw [m_p3, if_neg c_87_8]; done) | (rw [m_p3, if_pos c_70_7, if_pos (exq.symm.trans c_87_8)]; done) | (rw [m_p3, if_pos c_70_7, ej, if_neg c_87_8, nI_clamp (by omega)]; done)
          have hw9 : (rwW a cJ (m_start (m_p12 w n t) j)) = (rwW a cJ (m_p3 (m_p12 w n t) n)) := congrArg (fun T9 => rwW a cJ T9) hs0
          exact J_95_2 _ _ _ (k_P hw9 hP) (hw9 ▸ hD) hS (lv_sub hl [1, 2] rfl)
      · have c_70_7 : ¬ ((m_p12 w n t) 1) < ((m_p12 w n t) 3) := mt (lg_cmp_lt ((m_p12 w n t) 1) ((m_p12 w n t) 3)).mpr c_70_7
        refine lv_aload_n hx hb dX5_passes_73 rfl (lv_at hl 0 rfl) ?_
        refine k_callv (a := []) (z := []) (wc := rwW a cJ (m_p12 w n t)) (wc' := rwW a cJ (m_rest (m_p12 w n t) n)) (w' := rwW a cJ (m_rest (m_p12 w n t) n)) (va_runS (As := [.ref a]) (rest := []) ⟨hx, hb, hml, hown, hts⟩ (c_X5_rests l D a cI cJ (m_p12 w n t) n ((m_p12_get hn6 (by decide) (by decide) (by decide)).trans hn) hn6 _) (cwS 1 hts gX5_passes_X5_rests rfl rfl rfl (by decide +kernel) ⟨Nat.le_of_ble_eq_true rfl, Nat.le_of_ble_eq_true rfl⟩) ⟨kB_blind, k_pre (a := []) (z := []) (k_w0 _) hK hP hD⟩ rfl rfl hl.1 rfl (lv_room (Nat.le_of_ble_eq_true rfl)) dX5_passes_74 ⟨Nat.zero_le _, Nat.zero_le _⟩) (k_w0 _) (k_w0 _) (rwW_ad _ _ _ _) hP hD hS hA (fun H locs hP hD hS => ?_)
        refine lv_goto (tgt := 95) hx hb dX5_passes_77 (by decide) ?_
        have hs0 : (m_rest (m_p12 w n t) n) = (m_p3 (m_p12 w n t) n) := by first | (rw [m_p3, if_neg c_70_7]; done) | (rw [m_p3, if_pos NOP, if_pos (exq.symm.trans c_70_7)]; done) | (rw [m_p3, if_pos NOP, ej, if_neg c_70_7, nI_clamp (by omega)]; done)
        have hw9 : (rwW a cJ (m_rest (m_p12 w n t) n)) = (rwW a cJ (m_p3 (m_p12 w n t) n)) := congrArg (fun T9 => rwW a cJ T9) hs0
        exact J_95_2 _ _ _ (k_P hw9 hP) (hw9 ▸ hD) hS (lv_sub hl [0, 1] rfl)
    refine lv_iconst (v := 0) hx hb dX5_passes_30 (by decide) ?_
    refine lv_istore_n (lv' := [(2, .int 0), (0, .ref a), (1, .int (nI (t % 1440)))]) hx hb dX5_passes_31 rfl hl (by decide) rfl (fun ls hl => ?_)
    have L_32_9 : ∀ (d : Nat) (k : Nat) (f : Nat → Int64), n < k + d → k ≤ n → ∀  (e32 : itr m_hourB k (m_p1 w t) = f) (h7 : f 7 = lN n) (hz : k = 0 ∨ nI (t % 1440) - nI (t % 1440) / 60 * 60 = 0) (H : Heap) (locs : List Loc) (ls : Array Slot), va_P D vwCl (rwW a cJ f) H → va_D A9 (rwW a cJ f) → va_S A9 s9.heap H locs → lv_has ls 3 [(0, .ref a), (1, .int (nI (t % 1440))), (2, .int (nI k))] → W p9 l e9 ({ frames := 3, cells := 0, slots := 0, locals := 68 } : Room) s9 m9 (List.toArray [.ref a]) below meth c9 H locs 0 0 (MQ below (va_Qv (fun (_ : Unit) => True) (fun _ t9 => va_P D vwCl (rwW a cJ (m_pass w n t)) t9.heap) A9) (List.toArray [.ref a]) s9 0 0 A9) (F0 m9 32 ls []) := by
      intro d
      induction d with
      | zero =>
        intro k f hf
        intro hkn; exact absurd hf (by omega)
      | succ d ih_32 =>
        intro k f hf_32 hkn_32 e32 h7 hz H locs ls hP hD hS hl
        refine lv_iload_n hx hb dX5_passes_32 rfl (lv_at hl 2 rfl) ?_
        refine lv_i2l hx hb dX5_passes_33 rfl ?_
        refine lv_aload_n hx hb dX5_passes_34 rfl (lv_at hl 0 rfl) ?_
        refine lv_bipush (v := 7) hx hb dX5_passes_35 (by decide) ?_
        refine va_lald (f := f) hx hb hK hP 0 1 rfl rfl (k_in (k := 7) rfl (by decide) (by decide)) dX5_passes_37 ?_
        rw [show (7 : Int32).toNatClampNeg = 7 from rfl]
        refine W.lcmp hx hb dX5_passes_38 ?_
        refine lv_if_ge (tgt := 63) hx hb dX5_passes_39 (by decide) (fun c_39_10 => ?_) (fun c_39_10 => ?_)
        · have c_39_10 : (f 7) ≤ ((nI k).toInt64) := (lg_cmp_ge ((nI k).toInt64) (f 7)).mp c_39_10
          have hE : m_p12 w n t = f := by
            rw [m_p12, m_p2]
            rcases hz with q9 | q9
            · split
              · rw [← k_exitL c_39_10 h7 hkn_32 (by omega)]; exact e32
              · subst q9; exact e32
            · rw [if_pos q9, ← k_exitL c_39_10 h7 hkn_32 (by omega)]; exact e32
          have hs0 : f = (m_p12 w n t) := by first | exact hE.symm | (rw [m_p12, m_p2, if_neg c_39_10]; rcases hz with q9 | q9; (subst q9; exact e32.symm); exact absurd q9 c_39_10)
          have hw9 : (rwW a cJ f) = (rwW a cJ (m_p12 w n t)) := congrArg (fun T9 => rwW a cJ T9) hs0
          exact J_63_1 _ _ _ (k_P hw9 hP) (hw9 ▸ hD) hS (lv_sub hl [0, 1] rfl)
        · have c_39_10 : ¬ (f 7) ≤ ((nI k).toInt64) := mt (lg_cmp_ge ((nI k).toInt64) (f 7)).mpr c_39_10
          have hkl_32 : k < n := k_bodyL c_39_10 h7 hkn_32 (by omega)
          refine lv_iload_n hx hb dX5_passes_42 rfl (lv_at hl 1 rfl) ?_
          refine lv_bipush (v := 60) hx hb dX5_passes_43 (by decide) ?_
          refine lv_irem hx hb dX5_passes_45 (by decide) ?_
          refine lv_if_ne (tgt := 63) hx hb dX5_passes_46 (by decide) (fun c_46_11 => ?_) (fun c_46_11 => ?_)
          · have c_46_11 : ¬ ((nI (t % 1440)) - (nI (t % 1440)) / 60 * 60) = 0 := c_46_11
            have hs0 : f = (m_p12 w n t) := by first | exact hE.symm | (rw [m_p12, m_p2, if_neg c_46_11]; rcases hz with q9 | q9; (subst q9; exact e32.symm); exact absurd q9 c_46_11)
            have hw9 : (rwW a cJ f) = (rwW a cJ (m_p12 w n t)) := congrArg (fun T9 => rwW a cJ T9) hs0
            exact J_63_1 _ _ _ (k_P hw9 hP) (hw9 ▸ hD) hS (lv_sub hl [0, 1] rfl)
          · have c_46_11 : ((nI (t % 1440)) - (nI (t % 1440)) / 60 * 60) = 0 := c_46_11
            refine lv_aload_n hx hb dX5_passes_49 rfl (lv_at hl 0 rfl) ?_
            refine lv_iload_n hx hb dX5_passes_50 rfl (lv_at hl 2 rfl) ?_
            refine lv_iconst (v := 3) hx hb dX5_passes_51 (by decide) ?_
            refine k_calli (a := []) (z := rwW a cJ f) (wc := []) (wc' := []) (w' := rwW a cJ f) (va_runS (As := [.int (nI k), .int 3]) (rest := [.ref a]) ⟨hx, hb, hml, hown, hts⟩ (c_X5_p l D cI cJ (nI k) 3 _) (cwS 2 hts gX5_passes_X5_p rfl rfl rfl (by decide +kernel) ⟨Nat.le_of_ble_eq_true rfl, Nat.le_of_ble_eq_true rfl⟩) ⟨kB_blind, k_pre (a := []) (z := rwW a cJ f) rfl hK hP hD⟩ rfl rfl hl.1 rfl (lv_room (Nat.le_of_ble_eq_true rfl)) dX5_passes_52 ⟨Nat.zero_le _, Nat.zero_le _⟩) rfl rfl rfl hP hD hS hA (fun H locs hP hD hS => ?_)
            rw [show 48 + 8 * (nI k) + 3 = nI (48 + 8 * k + 3) from k_p k 3]
            refine lv_lconst (v := 0) hx hb dX5_passes_55 (by decide) ?_
            refine va_last (f := f) hx hb hK hP hD hS 0 1 rfl rfl (k_in (k := 48 + 8 * k + 3) rfl (by omega) (by decide)) dX5_passes_56 (fun H locs hP hD hS => ?_)
            rw [show (nI (48 + 8 * k + 3) : Int32).toNatClampNeg = 48 + 8 * k + 3 from nI_clamp (by omega)] at hP hD
            have hP : va_P D vwCl (rwW a cJ (vp_updL f (48 + 8 * k + 3) 0)) H := hP
            have hD : va_D A9 (rwW a cJ (vp_updL f (48 + 8 * k + 3) 0)) := hD
            refine lv_iinc (v := (nI k) + 1) (lv' := [(2, .int ((nI k) + 1)), (0, .ref a), (1, .int (nI (t % 1440)))]) hx hb dX5_passes_57 hl (k := 2) rfl rfl (by decide) rfl (fun ls hl => ?_)
            refine lv_goto (tgt := 32) hx hb dX5_passes_60 (by decide) ?_
            rw [show ((nI k) + 1) = (nI (k + 1)) from nI_1 _] at hl
            exact ih_32 (k + 1) (vp_updL f (48 + 8 * k + 3) 0) (by omega) (by omega) (by rw [itr_s, e32]; simp [m_hourB, c_39_10, c_46_11]) ((pk_uLn (by omega)).trans h7) (Or.inr c_46_11) _ _ _ hP hD hS (lv_sub hl [1, 2, 0] rfl)
    exact L_32_9 (n + 1) 0 (m_p1 w t) (by omega) (by omega) (rfl) ((m_p1_get (by decide) (by decide)).trans hn) (Or.inl rfl) _ _ _ hP hD hS (lv_sub hl [1, 2, 0] rfl)
  refine lv_iload_n hx hb dX5_passes_10 rfl (lv_at hl 0 rfl) ?_
  refine lv_sipush (v := 1320) hx hb dX5_passes_11 (by decide) ?_
  refine lv_icmp_ne (tgt := 30) hx hb dX5_passes_14 (by decide) (fun c_14_12 => ?_) (fun c_14_12 => ?_)
  · have c_14_12 : ¬ (nI (t % 1440)) = 1320 := c_14_12
    have hs0 : w = (m_p1 w t) := by first | (simp only [m_p1, c_14_12]; done) | (simp [m_p1, c_14_12]; done) | rfl
    have hw9 : (rwW a cJ w) = (rwW a cJ (m_p1 w t)) := congrArg (fun T9 => rwW a cJ T9) hs0
    exact J_30_0 _ _ _ (k_P hw9 hP) (hw9 ▸ hD) hS (lv_sub hl [1, 0] rfl)
  · have c_14_12 : (nI (t % 1440)) = 1320 := c_14_12
    refine lv_aload_n hx hb dX5_passes_17 rfl (lv_at hl 1 rfl) ?_
    refine lv_bipush (v := 23) hx hb dX5_passes_18 (by decide) ?_
    refine lv_lconst (v := 1) hx hb dX5_passes_20 (by decide) ?_
    refine va_last (f := w) hx hb hK hP hD hS 0 1 rfl rfl (k_in (k := 23) rfl (by decide) (by decide)) dX5_passes_21 (fun H locs hP hD hS => ?_)
    rw [show (23 : Int32).toNatClampNeg = 23 from rfl] at hP hD
    have hP : va_P D vwCl (rwW a cJ (vp_updL w 23 1)) H := hP
    have hD : va_D A9 (rwW a cJ (vp_updL w 23 1)) := hD
    refine lv_aload_n hx hb dX5_passes_22 rfl (lv_at hl 1 rfl) ?_
    refine lv_bipush (v := 19) hx hb dX5_passes_23 (by decide) ?_
    refine lv_aload_n hx hb dX5_passes_25 rfl (lv_at hl 1 rfl) ?_
    refine k_calll (a := []) (z := []) (wc := rwW a cJ (vp_updL w 23 1)) (wc' := rwW a cJ (vp_updL w 23 1)) (w' := rwW a cJ (vp_updL w 23 1)) (va_runS (As := [.ref a]) (rest := [.int 19, .ref a]) ⟨hx, hb, hml, hown, hts⟩ (c_X5_balance l D a cI cJ (vp_updL w 23 1)  _) (cwS 1 hts gX5_passes_X5_balance rfl rfl rfl (by decide +kernel) ⟨Nat.le_of_ble_eq_true rfl, Nat.le_of_ble_eq_true rfl⟩) ⟨kB_blind, k_pre (a := []) (z := []) (k_w0 _) hK hP hD⟩ rfl rfl hl.1 rfl (lv_room (Nat.le_of_ble_eq_true rfl)) dX5_passes_26 ⟨Nat.zero_le _, Nat.zero_le _⟩) (k_w0 _) (k_w0 _) (rwW_ad _ _ _ _) hP hD hS hA (fun H locs hP hD hS => ?_)
    refine va_last (f := vp_updL w 23 1) hx hb hK hP hD hS 0 1 rfl rfl (k_in (k := 19) rfl (by decide) (by decide)) dX5_passes_29 (fun H locs hP hD hS => ?_)
    rw [show (19 : Int32).toNatClampNeg = 19 from rfl] at hP hD
    have hP : va_P D vwCl (rwW a cJ (vp_updL (vp_updL w 23 1) 19 (m_bal (vp_updL w 23 1)))) H := hP
    have hD : va_D A9 (rwW a cJ (vp_updL (vp_updL w 23 1) 19 (m_bal (vp_updL w 23 1)))) := hD
    have hs0 : (vp_updL (vp_updL w 23 1) 19 (m_bal (vp_updL w 23 1))) = (m_p1 w t) := by first | (simp only [m_p1, c_14_12]; done) | (simp [m_p1, c_14_12]; done) | rfl
    have hw9 : (rwW a cJ (vp_updL (vp_updL w 23 1) 19 (m_bal (vp_updL w 23 1)))) = (rwW a cJ (m_p1 w t)) := congrArg (fun T9 => rwW a cJ T9) hs0
    exact J_30_0 _ _ _ (k_P hw9 hP) (hw9 ▸ hD) hS (lv_sub hl [1, 0] rfl)
