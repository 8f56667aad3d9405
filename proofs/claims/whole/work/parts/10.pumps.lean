/-! THE PUMPS, each method as a word of mine: rows of the state 2 capacity 3 oath 4 mode 5 place 6 hourStarts 7 starts 8 minutes 9 broken; n the pumps -/
theorem k_bodyN {k n : Nat} {c : Int32} (h : ¬ c ≤ nI k) (hc : c = nI n) (hk : k ≤ n) (hn : n ≤ 1000000) : k < n := by
  subst hc
  rcases Nat.lt_or_ge k n with q | q
  · exact q
  · exact absurd (nI_le q (by omega)) h
theorem k_exitN {k n : Nat} {c : Int32} (h : c ≤ nI k) (hc : c = nI n) (hk : k ≤ n) (hn : n ≤ 1000000) : k = n := by
  subst hc
  rcases Nat.lt_or_ge k n with q | q
  · exact absurd h (nI_ge q (by omega))
  · omega
def p_has (S : SS) (p : Int32) : Bool := decide (¬ p < 0 ∧ ¬ S.1 8 ≤ p)
theorem p_hasN {S : SS} {p : Int32} {n : Nat} (h : p_has S p = true) (hn : S.1 8 = nI n) (hn6 : n ≤ 6) : ∃ k, k < n ∧ p = nI k := by
  simp only [p_has, decide_eq_true_eq] at h
  obtain ⟨j, hj, rfl⟩ := nI_of h.1
  refine ⟨j, k_bodyN h.2 hn ?_ (by omega), rfl⟩
  rcases Nat.lt_or_ge j n with q | q
  · omega
  · exact absurd (by rw [hn]; exact nI_le q hj) h.2
theorem p_hasIn {S : SS} {p : Int32} {n : Nat} (h : p_has S p = true) (hn : S.1 8 = nI n) (hn6 : n ≤ 6) : vp_in p 6 := by
  obtain ⟨k, hk, rfl⟩ := p_hasN h hn hn6
  exact vp_in_nI (by omega) (by decide)
def p_cntB (S : SS) (m : Int32) (k : Nat) (r : Int32) : Int32 := if S.2.2.1 4 k = m then r + 1 else r
def p_count (S : SS) (n : Nat) (m : Int32) : Int32 := itr (p_cntB S m) n 0
def p_allB (S : SS) (k : Nat) (r : Int32) : Int32 := r + S.2.2.1 7 k
def p_all (S : SS) (n : Nat) : Int32 := itr (p_allB S) n 0
/-- the first place below n at which p holds, else n -/
def frst (p : Nat → Bool) : Nat → Nat
  | 0 => 0
  | n + 1 => if frst p n < n then frst p n else if p n then n else n + 1
theorem frst_le (p : Nat → Bool) : ∀ n, frst p n ≤ n
  | 0 => Nat.le_refl 0
  | n + 1 => by
    have := frst_le p n
    simp only [frst]
    split
    · omega
    · split <;> omega
theorem frst_none {p : Nat → Bool} : ∀ {n : Nat}, (∀ j, j < n → p j = false) → frst p n = n
  | 0, _ => rfl
  | n + 1, h => by
    have h1 := frst_none (n := n) (fun j hj => h j (by omega))
    simp [frst, h1, h n (by omega)]
theorem frst_some {p : Nat → Bool} {k : Nat} (hk : p k = true) (hb : ∀ j, j < k → p j = false) : ∀ {n : Nat}, k < n → frst p n = k
  | 0, h => absurd h (Nat.not_lt_zero _)
  | n + 1, h => by
    rcases Nat.lt_or_ge k n with q | q
    · have h1 := frst_some hk hb (n := n) q
      simp [frst, h1, q]
    · have e : k = n := by omega
      subst e
      simp [frst, frst_none hb, hk]
def p_leadAt (S : SS) (n : Nat) : Nat := frst (fun k => decide (S.2.2.1 5 k = 0)) n
def p_lead (S : SS) (n : Nat) : Int32 := if p_leadAt S n < n then nI (p_leadAt S n) else -1
def p_fillB (v : Int32) (k : Nat) (f : Nat → Int32) : Nat → Int32 := upd f k v
def p_swear (S : SS) (n : Nat) (o : Int32) : SS := setA S 3 (itr (p_fillB o) n (S.2.2.1 3))
def p_out (S : SS) (n : Nat) : SS := setA S 4 (itr (p_fillB 2) n (S.2.2.1 4))
def p_hour (S : SS) (n : Nat) : SS := setA S 6 (itr (p_fillB 0) n (S.2.2.1 6))
def p_onB (S : SS) (k : Nat) (f : Nat → Int32) : Nat → Int32 := upd f k (if f k = 0 then S.1 8 - 1 else f k - 1)
def p_passOn (S : SS) (n : Nat) : SS := setA S 5 (itr (p_onB S) n (S.2.2.1 5))
def p_stopB (k : Nat) (g : (Nat → Int32) × Int32) : (Nat → Int32) × Int32 := if g.1 k = 1 then (upd g.1 k 0, 1) else g
def p_stopR (S : SS) (n : Nat) : (Nat → Int32) × Int32 := itr p_stopB n (S.2.2.1 4, 0)
def p_stop (S : SS) (n : Nat) : SS := if (p_stopR S n).2 = 0 then setA S 4 (p_stopR S n).1 else p_passOn (setA S 4 (p_stopR S n).1) n
def p_firstB (S : SS) (w : Int32) (k : Nat) (g : Int32 × Int32) : Int32 × Int32 := if S.2.2.1 4 k = 0 ∧ (w = 0 ∨ S.2.2.1 6 k < S.2.2.1 3 k) ∧ S.2.2.1 5 k < g.2 then (nI k, S.2.2.1 5 k) else g
def p_first (S : SS) (n : Nat) (w : Int32) : Int32 := (itr (p_firstB S w) n (-1, 6)).1
def p_next (S : SS) (n : Nat) (f : Int32) : Int32 := if p_first S n 1 = -1 ∧ ¬ f = 0 then p_first S n 0 else p_first S n 1
def p_breaks (S : SS) (p : Int32) : Bool := p_has S p && decide (¬ S.2.2.1 6 p.toNatClampNeg < S.2.2.1 3 p.toNatClampNeg)
def p_start1 (S : SS) (j : Nat) : SS := setA (setA (setA S 4 (upd (S.2.2.1 4) j 1)) 6 (upd (S.2.2.1 6) j (S.2.2.1 6 j + 1))) 7 (upd (S.2.2.1 7) j (S.2.2.1 7 j + 1))
def p_start (S : SS) (p : Int32) : SS := if p_has S p = true then (if S.2.2.1 6 p.toNatClampNeg < S.2.2.1 3 p.toNatClampNeg then p_start1 S p.toNatClampNeg else setA (p_start1 S p.toNatClampNeg) 9 (upd (S.2.2.1 9) p.toNatClampNeg (S.2.2.1 9 p.toNatClampNeg + 1))) else S
def p_runB (S : SS) (k : Nat) (g : (Nat → Int32) × Int32) : (Nat → Int32) × Int32 := if S.2.2.1 4 k = 1 then (upd g.1 k (g.1 k + 1), g.2 + S.2.2.1 2 k) else g
def p_runR (S : SS) (n : Nat) : (Nat → Int32) × Int32 := itr (p_runB S) n (S.2.2.1 8, 0)
def p_join (S : SS) (c o : Int32) : SS := if S.1 8 < 6 then setI (setA (setA (setA S 2 (upd (S.2.2.1 2) (S.1 8).toNatClampNeg c)) 3 (upd (S.2.2.1 3) (S.1 8).toNatClampNeg o)) 5 (upd (S.2.2.1 5) (S.1 8).toNatClampNeg (S.1 8))) 8 (S.1 8 + 1) else S
def p_joinR (S : SS) : Int32 := if S.1 8 < 6 then S.1 8 else -1
def p_fact (S : SS) (p w : Int32) : Int32 := if p_has S p = true then (if w = 0 then S.2.2.1 2 p.toNatClampNeg else if w = 1 then S.2.2.1 3 p.toNatClampNeg else if w = 2 then S.2.2.1 4 p.toNatClampNeg else if w = 3 then S.2.2.1 5 p.toNatClampNeg else if w = 4 then S.2.2.1 6 p.toNatClampNeg else if w = 5 then S.2.2.1 7 p.toNatClampNeg else if w = 6 then S.2.2.1 8 p.toNatClampNeg else S.2.2.1 9 p.toNatClampNeg) else 0
def p_digB (S : SS) (k : Nat) (j : Nat) (h : Int64) : Int64 := 31 * h + (p_fact S (nI k) (nI j)).toInt64
def p_dig (S : SS) (n : Nat) (h : Int64) : Int64 := itr (fun k x => itr (p_digB S k) 8 x) n h

set_option maxHeartbeats 4000000 in
set_option maxRecDepth 100000 in
/-- is there a pump p -/
theorem c_X2_has (l : Launch) (D : va_G) (q : Nat → Nat) (cI cJ : ClassId) (S : SS) (p : Int32)  : kI l yX2_has wsX2_has ({ frames := 0, cells := 0, slots := 0, locals := 0 } : Room) D [(cI, .int), (cJ, .long)] [.ref (q 4), .int p] (stW q cI cJ S) (bi (p_has S p)) (stW q cI cJ S) := by
  refine kBody.met (cc := cX2_has) (maxL := 2) (ret := (some .boolean)) (by decide) rfl (Nat.le_of_ble_eq_true rfl) ?_
  intro p e s m below meth c A ls hx hb hr hml hts hown hlk hK hP hD hA hl
  have hown : s.vm.findClass RX2 = some m.cls := hown
  have inX2 : ∀ w ∈ wsX20, w ∈ wsX2_has := fun w h => List.mem_cons_of_mem _ (List.mem_append_right _ (h))
  have hS : va_S A s.heap s.heap [] := va_S.rf
  have hl : lv_has ls 2 [(0, .ref (q 4)), (1, .int p)] := hl
  refine lv_iload_n hx hb dX2_has_0 rfl (lv_at hl 1 rfl) ?_
  refine lv_if_lt (tgt := 16) hx hb dX2_has_1 (by decide) (fun c_1_0 => ?_) (fun c_1_0 => ?_)
  · refine lv_iconst (v := 0) hx hb dX2_has_16 (by decide) ?_
    exact k_iret hx hb hr hlk hP hS dX2_has_17 rfl (by first | rfl | (simp only [p_has, bi, c_1_0]; done) | (simp [p_has, bi, c_1_0]; done)) (fun h => h)
  · refine lv_iload_n hx hb dX2_has_4 rfl (lv_at hl 1 rfl) ?_
    refine lv_aload_n hx hb dX2_has_5 rfl (lv_at hl 0 rfl) ?_
    refine va_get (D := D) (ci := 2) (v := .int (S.1 8)) (C := RX2) (T := TX2) (N := 9) hx hb hts inX2 hown hK hP 4 rfl rfl 0 (by decide) (hts (.fieldLink RX2 36 "PumpOaths$Pumps" "count" "I") (List.mem_of_getElem? (i := 1) rfl)) (fun _ h9 => h9) rfl dX2_has_6 ?_
    refine lv_icmp_ge (tgt := 16) hx hb dX2_has_9 (by decide) (fun c_9_1 => ?_) (fun c_9_1 => ?_)
    · refine lv_iconst (v := 0) hx hb dX2_has_16 (by decide) ?_
      exact k_iret hx hb hr hlk hP hS dX2_has_17 rfl (by first | rfl | (simp only [p_has, bi, c_1_0, c_9_1]; done) | (simp [p_has, bi, c_1_0, c_9_1]; done)) (fun h => h)
    · refine lv_iconst (v := 1) hx hb dX2_has_12 (by decide) ?_
      refine lv_goto (tgt := 17) hx hb dX2_has_13 (by decide) ?_
      exact k_iret hx hb hr hlk hP hS dX2_has_17 rfl (by first | rfl | (simp only [p_has, bi, c_1_0, c_9_1]; done) | (simp [p_has, bi, c_1_0, c_9_1]; done)) (fun h => h)

set_option maxHeartbeats 4000000 in
set_option maxRecDepth 100000 in
/-- how many pumps are in the mode w -/
theorem c_X2_countIn (l : Launch) (D : va_G) (q : Nat → Nat) (cI cJ : ClassId) (S : SS) (w : Int32) (n : Nat) (hn : S.1 8 = nI n) (hn6 : n ≤ 6) : kI l yX2_countIn wsX2_countIn ({ frames := 0, cells := 0, slots := 0, locals := 0 } : Room) D [(cI, .int), (cJ, .long)] [.ref (q 4), .int w] (stW q cI cJ S) (p_count S n w) (stW q cI cJ S) := by
  refine kBody.met (cc := cX2_countIn) (maxL := 4) (ret := (some .int)) (by decide) rfl (Nat.le_of_ble_eq_true rfl) ?_
  intro p e s m below meth c A ls hx hb hr hml hts hown hlk hK hP hD hA hl
  have hown : s.vm.findClass RX2 = some m.cls := hown
  have inX2 : ∀ w ∈ wsX20, w ∈ wsX2_countIn := fun w h => List.mem_cons_of_mem _ (List.mem_append_right _ (h))
  have hS : va_S A s.heap s.heap [] := va_S.rf
  have hl : lv_has ls 4 [(0, .ref (q 4)), (1, .int w)] := hl
  refine lv_iconst (v := 0) hx hb dX2_countIn_0 (by decide) ?_
  refine lv_istore_n (lv' := [(2, .int 0), (0, .ref (q 4)), (1, .int w)]) hx hb dX2_countIn_1 rfl hl (by decide) rfl (fun ls hl => ?_)
  refine lv_iconst (v := 0) hx hb dX2_countIn_2 (by decide) ?_
  refine lv_istore_n (lv' := [(3, .int 0), (2, .int 0), (0, .ref (q 4)), (1, .int w)]) hx hb dX2_countIn_3 rfl hl (by decide) rfl (fun ls hl => ?_)
  have L_4_0 : ∀ (d : Nat) (k : Nat) (x : Int32), n < k + d → k ≤ n → ∀  (e4 : itr (p_cntB S w) k 0 = x) (H : Heap) (locs : List Loc) (ls : Array Slot), va_P D vwCl (stW q cI cJ S) H → va_D A (stW q cI cJ S) → va_S A s.heap H locs → lv_has ls 4 [(0, .ref (q 4)), (1, .int w), (2, .int x), (3, .int (nI k))] → W p l e ({ frames := 0, cells := 0, slots := 0, locals := 0 } : Room) s m (List.toArray [.ref (q 4), .int w]) below meth c H locs 0 0 (MQ below (va_Qi (fun r (_ : Unit) => r = (p_count S n w)) (fun _ t => va_P D vwCl (stW q cI cJ S) t.heap) A) (List.toArray [.ref (q 4), .int w]) s 0 0 A) (F0 m 4 ls []) := by
    intro d
    induction d with
    | zero =>
      intro k x hf
      intro hkn; exact absurd hf (by omega)
    | succ d ih_4 =>
      intro k x hf_4 hkn_4 e4 H locs ls hP hD hS hl
      refine lv_iload_n hx hb dX2_countIn_4 rfl (lv_at hl 3 rfl) ?_
      refine lv_aload_n hx hb dX2_countIn_5 rfl (lv_at hl 0 rfl) ?_
      refine va_get (D := D) (ci := 2) (v := .int (S.1 8)) (C := RX2) (T := TX2) (N := 9) hx hb hts inX2 hown hK hP 4 rfl rfl 0 (by decide) (hts (.fieldLink RX2 36 "PumpOaths$Pumps" "count" "I") (List.mem_of_getElem? (i := 1) rfl)) (fun _ h9 => h9) rfl dX2_countIn_6 ?_
      refine lv_icmp_ge (tgt := 31) hx hb dX2_countIn_9 (by decide) (fun c_9_1 => ?_) (fun c_9_1 => ?_)
      · have hke_4 : n = k := (k_exitN c_9_1 hn hkn_4 (by omega)).symm
        subst hke_4
        refine lv_iload_n hx hb dX2_countIn_31 rfl (lv_at hl 2 rfl) ?_
        exact k_iret hx hb hr hlk hP hS dX2_countIn_32 rfl (by rw [p_count, e4]) (fun h => h)
      · have hkl_4 : k < n := k_bodyN c_9_1 hn hkn_4 (by omega)
        refine lv_aload_n hx hb dX2_countIn_12 rfl (lv_at hl 0 rfl) ?_
        refine va_get (D := D) (ci := 2) (v := .ref (q 7)) (C := RX2) (T := TX2) (N := 9) hx hb hts inX2 hown hK hP 4 rfl rfl 3 (by decide) (hts (.fieldLink RX2 18 "PumpOaths$Pumps" "mode" "[I") (List.mem_of_getElem? (i := 2) rfl)) (fun _ h9 => h9) rfl dX2_countIn_13 ?_
        refine lv_iload_n hx hb dX2_countIn_16 rfl (lv_at hl 3 rfl) ?_
        refine va_iald hx hb hK hP 7 0 rfl rfl (k_in (k := k) rfl (by omega) (by decide)) dX2_countIn_17 ?_
        rw [show (nI k).toNatClampNeg = k from nI_clamp (by omega)]
        refine lv_iload_n hx hb dX2_countIn_18 rfl (lv_at hl 1 rfl) ?_
        refine lv_icmp_ne (tgt := 25) hx hb dX2_countIn_19 (by decide) (fun c_19_2 => ?_) (fun c_19_2 => ?_)
        · refine lv_iinc (v := (nI k) + 1) (lv' := [(3, .int ((nI k) + 1)), (0, .ref (q 4)), (1, .int w), (2, .int x)]) hx hb dX2_countIn_25 hl (k := 3) rfl rfl (by decide) rfl (fun ls hl => ?_)
          refine lv_goto (tgt := 4) hx hb dX2_countIn_28 (by decide) ?_
          rw [show ((nI k) + 1) = (nI (k + 1)) from nI_1 _] at hl
          exact ih_4 (k + 1) x (by omega) (by omega) (by rw [itr_s, e4]; simp [p_cntB, c_9_1, c_19_2]) _ _ _ hP hD hS (lv_sub hl [1, 2, 3, 0] rfl)
        · refine lv_iinc (v := x + 1) (lv' := [(2, .int (x + 1)), (0, .ref (q 4)), (1, .int w), (3, .int (nI k))]) hx hb dX2_countIn_22 hl (k := 2) rfl rfl (by decide) rfl (fun ls hl => ?_)
          refine lv_iinc (v := (nI k) + 1) (lv' := [(3, .int ((nI k) + 1)), (2, .int (x + 1)), (0, .ref (q 4)), (1, .int w)]) hx hb dX2_countIn_25 hl (k := 3) rfl rfl (by decide) rfl (fun ls hl => ?_)
          refine lv_goto (tgt := 4) hx hb dX2_countIn_28 (by decide) ?_
          rw [show ((nI k) + 1) = (nI (k + 1)) from nI_1 _] at hl
          exact ih_4 (k + 1) (x + 1) (by omega) (by omega) (by rw [itr_s, e4]; simp [p_cntB, c_9_1, c_19_2]) _ _ _ hP hD hS (lv_sub hl [2, 3, 1, 0] rfl)
  exact L_4_0 (n + 1) 0 0 (by omega) (by omega) (rfl) _ _ _ hP hD hS (lv_sub hl [2, 3, 1, 0] rfl)

set_option maxHeartbeats 4000000 in
set_option maxRecDepth 100000 in
theorem c_X2_allStarts (l : Launch) (D : va_G) (q : Nat → Nat) (cI cJ : ClassId) (S : SS) (n : Nat) (hn : S.1 8 = nI n) (hn6 : n ≤ 6) : kI l yX2_allStarts wsX2_allStarts ({ frames := 0, cells := 0, slots := 0, locals := 0 } : Room) D [(cI, .int), (cJ, .long)] [.ref (q 4)] (stW q cI cJ S) (p_all S n) (stW q cI cJ S) := by
  refine kBody.met (cc := cX2_allStarts) (maxL := 3) (ret := (some .int)) (by decide) rfl (Nat.le_of_ble_eq_true rfl) ?_
  intro p e s m below meth c A ls hx hb hr hml hts hown hlk hK hP hD hA hl
  have hown : s.vm.findClass RX2 = some m.cls := hown
  have inX2 : ∀ w ∈ wsX20, w ∈ wsX2_allStarts := fun w h => List.mem_cons_of_mem _ (List.mem_append_right _ (h))
  have hS : va_S A s.heap s.heap [] := va_S.rf
  have hl : lv_has ls 3 [(0, .ref (q 4))] := hl
  refine lv_iconst (v := 0) hx hb dX2_allStarts_0 (by decide) ?_
  refine lv_istore_n (lv' := [(1, .int 0), (0, .ref (q 4))]) hx hb dX2_allStarts_1 rfl hl (by decide) rfl (fun ls hl => ?_)
  refine lv_iconst (v := 0) hx hb dX2_allStarts_2 (by decide) ?_
  refine lv_istore_n (lv' := [(2, .int 0), (1, .int 0), (0, .ref (q 4))]) hx hb dX2_allStarts_3 rfl hl (by decide) rfl (fun ls hl => ?_)
  have L_4_0 : ∀ (d : Nat) (k : Nat) (x : Int32), n < k + d → k ≤ n → ∀  (e4 : itr (p_allB S) k 0 = x) (H : Heap) (locs : List Loc) (ls : Array Slot), va_P D vwCl (stW q cI cJ S) H → va_D A (stW q cI cJ S) → va_S A s.heap H locs → lv_has ls 3 [(0, .ref (q 4)), (1, .int x), (2, .int (nI k))] → W p l e ({ frames := 0, cells := 0, slots := 0, locals := 0 } : Room) s m (List.toArray [.ref (q 4)]) below meth c H locs 0 0 (MQ below (va_Qi (fun r (_ : Unit) => r = (p_all S n)) (fun _ t => va_P D vwCl (stW q cI cJ S) t.heap) A) (List.toArray [.ref (q 4)]) s 0 0 A) (F0 m 4 ls []) := by
    intro d
    induction d with
    | zero =>
      intro k x hf
      intro hkn; exact absurd hf (by omega)
    | succ d ih_4 =>
      intro k x hf_4 hkn_4 e4 H locs ls hP hD hS hl
      refine lv_iload_n hx hb dX2_allStarts_4 rfl (lv_at hl 2 rfl) ?_
      refine lv_aload_n hx hb dX2_allStarts_5 rfl (lv_at hl 0 rfl) ?_
      refine va_get (D := D) (ci := 2) (v := .int (S.1 8)) (C := RX2) (T := TX2) (N := 9) hx hb hts inX2 hown hK hP 4 rfl rfl 0 (by decide) (hts (.fieldLink RX2 36 "PumpOaths$Pumps" "count" "I") (List.mem_of_getElem? (i := 1) rfl)) (fun _ h9 => h9) rfl dX2_allStarts_6 ?_
      refine lv_icmp_ge (tgt := 27) hx hb dX2_allStarts_9 (by decide) (fun c_9_1 => ?_) (fun c_9_1 => ?_)
      · have hke_4 : n = k := (k_exitN c_9_1 hn hkn_4 (by omega)).symm
        subst hke_4
        refine lv_iload_n hx hb dX2_allStarts_27 rfl (lv_at hl 1 rfl) ?_
        exact k_iret hx hb hr hlk hP hS dX2_allStarts_28 rfl (by rw [p_all, e4]) (fun h => h)
      · have hkl_4 : k < n := k_bodyN c_9_1 hn hkn_4 (by omega)
        refine lv_iload_n hx hb dX2_allStarts_12 rfl (lv_at hl 1 rfl) ?_
        refine lv_aload_n hx hb dX2_allStarts_13 rfl (lv_at hl 0 rfl) ?_
        refine va_get (D := D) (ci := 2) (v := .ref (q 10)) (C := RX2) (T := TX2) (N := 9) hx hb hts inX2 hown hK hP 4 rfl rfl 6 (by decide) (hts (.fieldLink RX2 27 "PumpOaths$Pumps" "starts" "[I") (List.mem_of_getElem? (i := 2) rfl)) (fun _ h9 => h9) rfl dX2_allStarts_14 ?_
        refine lv_iload_n hx hb dX2_allStarts_17 rfl (lv_at hl 2 rfl) ?_
        refine va_iald hx hb hK hP 10 0 rfl rfl (k_in (k := k) rfl (by omega) (by decide)) dX2_allStarts_18 ?_
        rw [show (nI k).toNatClampNeg = k from nI_clamp (by omega)]
        refine lv_iadd hx hb dX2_allStarts_19 ?_
        refine lv_istore_n (lv' := [(1, .int (x + ((S.2.2.1 7) k))), (0, .ref (q 4)), (2, .int (nI k))]) hx hb dX2_allStarts_20 rfl hl (by decide) rfl (fun ls hl => ?_)
        refine lv_iinc (v := (nI k) + 1) (lv' := [(2, .int ((nI k) + 1)), (1, .int (x + ((S.2.2.1 7) k))), (0, .ref (q 4))]) hx hb dX2_allStarts_21 hl (k := 2) rfl rfl (by decide) rfl (fun ls hl => ?_)
        refine lv_goto (tgt := 4) hx hb dX2_allStarts_24 (by decide) ?_
        rw [show ((nI k) + 1) = (nI (k + 1)) from nI_1 _] at hl
        exact ih_4 (k + 1) (x + ((S.2.2.1 7) k)) (by omega) (by omega) (by rw [itr_s, e4]; simp [p_allB, c_9_1]) _ _ _ hP hD hS (lv_sub hl [2, 1, 0] rfl)
  exact L_4_0 (n + 1) 0 0 (by omega) (by omega) (rfl) _ _ _ hP hD hS (lv_sub hl [2, 1, 0] rfl)

set_option maxHeartbeats 4000000 in
set_option maxRecDepth 100000 in
theorem c_X2_lead (l : Launch) (D : va_G) (q : Nat → Nat) (cI cJ : ClassId) (S : SS) (n : Nat) (hn : S.1 8 = nI n) (hn6 : n ≤ 6) : kI l yX2_lead wsX2_lead ({ frames := 0, cells := 0, slots := 0, locals := 0 } : Room) D [(cI, .int), (cJ, .long)] [.ref (q 4)] (stW q cI cJ S) (p_lead S n) (stW q cI cJ S) := by
  refine kBody.met (cc := cX2_lead) (maxL := 2) (ret := (some .int)) (by decide) rfl (Nat.le_of_ble_eq_true rfl) ?_
  intro p e s m below meth c A ls hx hb hr hml hts hown hlk hK hP hD hA hl
  have hown : s.vm.findClass RX2 = some m.cls := hown
  have inX2 : ∀ w ∈ wsX20, w ∈ wsX2_lead := fun w h => List.mem_cons_of_mem _ (List.mem_append_right _ (h))
  have hS : va_S A s.heap s.heap [] := va_S.rf
  have hl : lv_has ls 2 [(0, .ref (q 4))] := hl
  refine lv_iconst (v := 0) hx hb dX2_lead_0 (by decide) ?_
  refine lv_istore_n (lv' := [(1, .int 0), (0, .ref (q 4))]) hx hb dX2_lead_1 rfl hl (by decide) rfl (fun ls hl => ?_)
  have L_2_0 : ∀ (d : Nat) (k : Nat), n < k + d → k ≤ n → ∀  (hno : ∀ j, j < k → decide (S.2.2.1 5 j = 0) = false) (H : Heap) (locs : List Loc) (ls : Array Slot), va_P D vwCl (stW q cI cJ S) H → va_D A (stW q cI cJ S) → va_S A s.heap H locs → lv_has ls 2 [(0, .ref (q 4)), (1, .int (nI k))] → W p l e ({ frames := 0, cells := 0, slots := 0, locals := 0 } : Room) s m (List.toArray [.ref (q 4)]) below meth c H locs 0 0 (MQ below (va_Qi (fun r (_ : Unit) => r = (p_lead S n)) (fun _ t => va_P D vwCl (stW q cI cJ S) t.heap) A) (List.toArray [.ref (q 4)]) s 0 0 A) (F0 m 2 ls []) := by
    intro d
    induction d with
    | zero =>
      intro k  hf
      intro hkn; exact absurd hf (by omega)
    | succ d ih_2 =>
      intro k  hf_2 hkn_2 hno H locs ls hP hD hS hl
      refine lv_iload_n hx hb dX2_lead_2 rfl (lv_at hl 1 rfl) ?_
      refine lv_aload_n hx hb dX2_lead_3 rfl (lv_at hl 0 rfl) ?_
      refine va_get (D := D) (ci := 2) (v := .int (S.1 8)) (C := RX2) (T := TX2) (N := 9) hx hb hts inX2 hown hK hP 4 rfl rfl 0 (by decide) (hts (.fieldLink RX2 36 "PumpOaths$Pumps" "count" "I") (List.mem_of_getElem? (i := 1) rfl)) (fun _ h9 => h9) rfl dX2_lead_4 ?_
      refine lv_icmp_ge (tgt := 27) hx hb dX2_lead_7 (by decide) (fun c_7_1 => ?_) (fun c_7_1 => ?_)
      · have hke_2 : n = k := (k_exitN c_7_1 hn hkn_2 (by omega)).symm
        subst hke_2
        refine lv_iconst (v := (-1)) hx hb dX2_lead_27 (by decide) ?_
        exact k_iret hx hb hr hlk hP hS dX2_lead_28 rfl (by simp [p_lead, p_leadAt, frst_none hno]) (fun h => h)
      · have hkl_2 : k < n := k_bodyN c_7_1 hn hkn_2 (by omega)
        refine lv_aload_n hx hb dX2_lead_10 rfl (lv_at hl 0 rfl) ?_
        refine va_get (D := D) (ci := 2) (v := .ref (q 8)) (C := RX2) (T := TX2) (N := 9) hx hb hts inX2 hown hK hP 4 rfl rfl 4 (by decide) (hts (.fieldLink RX2 21 "PumpOaths$Pumps" "place" "[I") (List.mem_of_getElem? (i := 2) rfl)) (fun _ h9 => h9) rfl dX2_lead_11 ?_
        refine lv_iload_n hx hb dX2_lead_14 rfl (lv_at hl 1 rfl) ?_
        refine va_iald hx hb hK hP 8 0 rfl rfl (k_in (k := k) rfl (by omega) (by decide)) dX2_lead_15 ?_
        rw [show (nI k).toNatClampNeg = k from nI_clamp (by omega)]
        refine lv_if_ne (tgt := 21) hx hb dX2_lead_16 (by decide) (fun c_16_2 => ?_) (fun c_16_2 => ?_)
        · refine lv_iinc (v := (nI k) + 1) (lv' := [(1, .int ((nI k) + 1)), (0, .ref (q 4))]) hx hb dX2_lead_21 hl (k := 1) rfl rfl (by decide) rfl (fun ls hl => ?_)
          refine lv_goto (tgt := 2) hx hb dX2_lead_24 (by decide) ?_
          rw [show ((nI k) + 1) = (nI (k + 1)) from nI_1 _] at hl
          exact ih_2 (k + 1) (by omega) (by omega) (k_ext hno (by simp [c_7_1, c_16_2])) _ _ _ hP hD hS (lv_sub hl [1, 0] rfl)
        · refine lv_iload_n hx hb dX2_lead_19 rfl (lv_at hl 1 rfl) ?_
          exact k_iret hx hb hr hlk hP hS dX2_lead_20 rfl (by rw [p_lead, show p_leadAt S n = k from frst_some (by simp [c_7_1, c_16_2]) hno hkl_2, if_pos hkl_2]) (fun h => h)
  exact L_2_0 (n + 1) 0 (by omega) (by omega) (fun j hj => absurd hj (Nat.not_lt_zero _)) _ _ _ hP hD hS (lv_sub hl [1, 0] rfl)

set_option maxHeartbeats 4000000 in
set_option maxRecDepth 100000 in
theorem c_X2_swearAll (l : Launch) (D : va_G) (q : Nat → Nat) (cI cJ : ClassId) (S : SS) (w : Int32) (n : Nat) (hn : S.1 8 = nI n) (hn6 : n ≤ 6) : kV l yX2_swearAll wsX2_swearAll ({ frames := 0, cells := 0, slots := 0, locals := 0 } : Room) D [(cI, .int), (cJ, .long)] [.ref (q 4), .int w] (stW q cI cJ S) (stW q cI cJ (p_swear S n w)) := by
  refine kBody.met (cc := cX2_swearAll) (maxL := 3) (ret := none) (by decide) rfl (Nat.le_of_ble_eq_true rfl) ?_
  intro p e s m below meth c A ls hx hb hr hml hts hown hlk hK hP hD hA hl
  have hown : s.vm.findClass RX2 = some m.cls := hown
  have inX2 : ∀ w ∈ wsX20, w ∈ wsX2_swearAll := fun w h => List.mem_cons_of_mem _ (List.mem_append_right _ (h))
  have hS : va_S A s.heap s.heap [] := va_S.rf
  have hl : lv_has ls 3 [(0, .ref (q 4)), (1, .int w)] := hl
  refine lv_iconst (v := 0) hx hb dX2_swearAll_0 (by decide) ?_
  refine lv_istore_n (lv' := [(2, .int 0), (0, .ref (q 4)), (1, .int w)]) hx hb dX2_swearAll_1 rfl hl (by decide) rfl (fun ls hl => ?_)
  have L_2_0 : ∀ (d : Nat) (k : Nat) (f : Nat → Int32), n < k + d → k ≤ n → ∀  (e2 : itr (p_fillB w) k (S.2.2.1 3) = f) (H : Heap) (locs : List Loc) (ls : Array Slot), va_P D vwCl (stW q cI cJ (setA S 3 f)) H → va_D A (stW q cI cJ (setA S 3 f)) → va_S A s.heap H locs → lv_has ls 3 [(0, .ref (q 4)), (1, .int w), (2, .int (nI k))] → W p l e ({ frames := 0, cells := 0, slots := 0, locals := 0 } : Room) s m (List.toArray [.ref (q 4), .int w]) below meth c H locs 0 0 (MQ below (va_Qv (fun (_ : Unit) => True) (fun _ t => va_P D vwCl (stW q cI cJ (p_swear S n w)) t.heap) A) (List.toArray [.ref (q 4), .int w]) s 0 0 A) (F0 m 2 ls []) := by
    intro d
    induction d with
    | zero =>
      intro k f hf
      intro hkn; exact absurd hf (by omega)
    | succ d ih_2 =>
      intro k f hf_2 hkn_2 e2 H locs ls hP hD hS hl
      refine lv_iload_n hx hb dX2_swearAll_2 rfl (lv_at hl 2 rfl) ?_
      refine lv_aload_n hx hb dX2_swearAll_3 rfl (lv_at hl 0 rfl) ?_
      refine va_get (D := D) (ci := 2) (v := .int (S.1 8)) (C := RX2) (T := TX2) (N := 9) hx hb hts inX2 hown hK hP 4 rfl rfl 0 (by decide) (hts (.fieldLink RX2 36 "PumpOaths$Pumps" "count" "I") (List.mem_of_getElem? (i := 1) rfl)) (fun _ h9 => h9) rfl dX2_swearAll_4 ?_
      refine lv_icmp_ge (tgt := 23) hx hb dX2_swearAll_7 (by decide) (fun c_7_1 => ?_) (fun c_7_1 => ?_)
      · have hke_2 : n = k := (k_exitN c_7_1 hn hkn_2 (by omega)).symm
        subst hke_2
        exact k_vret hx hb hr hlk hP hS dX2_swearAll_23 (k_P (by rw [p_swear, e2]))
      · have hkl_2 : k < n := k_bodyN c_7_1 hn hkn_2 (by omega)
        refine lv_aload_n hx hb dX2_swearAll_10 rfl (lv_at hl 0 rfl) ?_
        refine va_get (D := D) (ci := 2) (v := .ref (q 6)) (C := RX2) (T := TX2) (N := 9) hx hb hts inX2 hown hK hP 4 rfl rfl 2 (by decide) (hts (.fieldLink RX2 15 "PumpOaths$Pumps" "oath" "[I") (List.mem_of_getElem? (i := 2) rfl)) (fun _ h9 => h9) rfl dX2_swearAll_11 ?_
        refine lv_iload_n hx hb dX2_swearAll_14 rfl (lv_at hl 2 rfl) ?_
        refine lv_iload_n hx hb dX2_swearAll_15 rfl (lv_at hl 1 rfl) ?_
        refine va_iast hx hb hK hP hD hS 6 0 rfl rfl (k_in (k := k) rfl (by omega) (by decide)) dX2_swearAll_16 (fun H locs hP hD hS => ?_)
        rw [show (nI k).toNatClampNeg = k from nI_clamp (by omega)] at hP hD
        have hP : va_P D vwCl (stW q cI cJ (setA S 3 (upd f k w))) H := hP
        have hD : va_D A (stW q cI cJ (setA S 3 (upd f k w))) := hD
        refine lv_iinc (v := (nI k) + 1) (lv' := [(2, .int ((nI k) + 1)), (0, .ref (q 4)), (1, .int w)]) hx hb dX2_swearAll_17 hl (k := 2) rfl rfl (by decide) rfl (fun ls hl => ?_)
        refine lv_goto (tgt := 2) hx hb dX2_swearAll_20 (by decide) ?_
        rw [show ((nI k) + 1) = (nI (k + 1)) from nI_1 _] at hl
        exact ih_2 (k + 1) (upd f k w) (by omega) (by omega) (by rw [itr_s, e2]; simp [p_fillB, c_7_1]) _ _ _ hP hD hS (lv_sub hl [1, 2, 0] rfl)
  exact L_2_0 (n + 1) 0 (S.2.2.1 3) (by omega) (by omega) (rfl) _ _ _ hP hD hS (lv_sub hl [1, 2, 0] rfl)

set_option maxHeartbeats 4000000 in
set_option maxRecDepth 100000 in
theorem c_X2_takeAllOut (l : Launch) (D : va_G) (q : Nat → Nat) (cI cJ : ClassId) (S : SS) (n : Nat) (hn : S.1 8 = nI n) (hn6 : n ≤ 6) : kV l yX2_takeAllOut wsX2_takeAllOut ({ frames := 0, cells := 0, slots := 0, locals := 0 } : Room) D [(cI, .int), (cJ, .long)] [.ref (q 4)] (stW q cI cJ S) (stW q cI cJ (p_out S n)) := by
  refine kBody.met (cc := cX2_takeAllOut) (maxL := 2) (ret := none) (by decide) rfl (Nat.le_of_ble_eq_true rfl) ?_
  intro p e s m below meth c A ls hx hb hr hml hts hown hlk hK hP hD hA hl
  have hown : s.vm.findClass RX2 = some m.cls := hown
  have inX2 : ∀ w ∈ wsX20, w ∈ wsX2_takeAllOut := fun w h => List.mem_cons_of_mem _ (List.mem_append_right _ (h))
  have hS : va_S A s.heap s.heap [] := va_S.rf
  have hl : lv_has ls 2 [(0, .ref (q 4))] := hl
  refine lv_iconst (v := 0) hx hb dX2_takeAllOut_0 (by decide) ?_
  refine lv_istore_n (lv' := [(1, .int 0), (0, .ref (q 4))]) hx hb dX2_takeAllOut_1 rfl hl (by decide) rfl (fun ls hl => ?_)
  have L_2_0 : ∀ (d : Nat) (k : Nat) (f : Nat → Int32), n < k + d → k ≤ n → ∀  (e2 : itr (p_fillB 2) k (S.2.2.1 4) = f) (H : Heap) (locs : List Loc) (ls : Array Slot), va_P D vwCl (stW q cI cJ (setA S 4 f)) H → va_D A (stW q cI cJ (setA S 4 f)) → va_S A s.heap H locs → lv_has ls 2 [(0, .ref (q 4)), (1, .int (nI k))] → W p l e ({ frames := 0, cells := 0, slots := 0, locals := 0 } : Room) s m (List.toArray [.ref (q 4)]) below meth c H locs 0 0 (MQ below (va_Qv (fun (_ : Unit) => True) (fun _ t => va_P D vwCl (stW q cI cJ (p_out S n)) t.heap) A) (List.toArray [.ref (q 4)]) s 0 0 A) (F0 m 2 ls []) := by
    intro d
    induction d with
    | zero =>
      intro k f hf
      intro hkn; exact absurd hf (by omega)
    | succ d ih_2 =>
      intro k f hf_2 hkn_2 e2 H locs ls hP hD hS hl
      refine lv_iload_n hx hb dX2_takeAllOut_2 rfl (lv_at hl 1 rfl) ?_
      refine lv_aload_n hx hb dX2_takeAllOut_3 rfl (lv_at hl 0 rfl) ?_
      refine va_get (D := D) (ci := 2) (v := .int (S.1 8)) (C := RX2) (T := TX2) (N := 9) hx hb hts inX2 hown hK hP 4 rfl rfl 0 (by decide) (hts (.fieldLink RX2 36 "PumpOaths$Pumps" "count" "I") (List.mem_of_getElem? (i := 1) rfl)) (fun _ h9 => h9) rfl dX2_takeAllOut_4 ?_
      refine lv_icmp_ge (tgt := 23) hx hb dX2_takeAllOut_7 (by decide) (fun c_7_1 => ?_) (fun c_7_1 => ?_)
      · have hke_2 : n = k := (k_exitN c_7_1 hn hkn_2 (by omega)).symm
        subst hke_2
        exact k_vret hx hb hr hlk hP hS dX2_takeAllOut_23 (k_P (by rw [p_out, e2]))
      · have hkl_2 : k < n := k_bodyN c_7_1 hn hkn_2 (by omega)
        refine lv_aload_n hx hb dX2_takeAllOut_10 rfl (lv_at hl 0 rfl) ?_
        refine va_get (D := D) (ci := 2) (v := .ref (q 7)) (C := RX2) (T := TX2) (N := 9) hx hb hts inX2 hown hK hP 4 rfl rfl 3 (by decide) (hts (.fieldLink RX2 18 "PumpOaths$Pumps" "mode" "[I") (List.mem_of_getElem? (i := 2) rfl)) (fun _ h9 => h9) rfl dX2_takeAllOut_11 ?_
        refine lv_iload_n hx hb dX2_takeAllOut_14 rfl (lv_at hl 1 rfl) ?_
        refine lv_iconst (v := 2) hx hb dX2_takeAllOut_15 (by decide) ?_
        refine va_iast hx hb hK hP hD hS 7 0 rfl rfl (k_in (k := k) rfl (by omega) (by decide)) dX2_takeAllOut_16 (fun H locs hP hD hS => ?_)
        rw [show (nI k).toNatClampNeg = k from nI_clamp (by omega)] at hP hD
        have hP : va_P D vwCl (stW q cI cJ (setA S 4 (upd f k 2))) H := hP
        have hD : va_D A (stW q cI cJ (setA S 4 (upd f k 2))) := hD
        refine lv_iinc (v := (nI k) + 1) (lv' := [(1, .int ((nI k) + 1)), (0, .ref (q 4))]) hx hb dX2_takeAllOut_17 hl (k := 1) rfl rfl (by decide) rfl (fun ls hl => ?_)
        refine lv_goto (tgt := 2) hx hb dX2_takeAllOut_20 (by decide) ?_
        rw [show ((nI k) + 1) = (nI (k + 1)) from nI_1 _] at hl
        exact ih_2 (k + 1) (upd f k 2) (by omega) (by omega) (by rw [itr_s, e2]; simp [p_fillB, c_7_1]) _ _ _ hP hD hS (lv_sub hl [1, 0] rfl)
  exact L_2_0 (n + 1) 0 (S.2.2.1 4) (by omega) (by omega) (rfl) _ _ _ hP hD hS (lv_sub hl [1, 0] rfl)

set_option maxHeartbeats 4000000 in
set_option maxRecDepth 100000 in
theorem c_X2_beginHour (l : Launch) (D : va_G) (q : Nat → Nat) (cI cJ : ClassId) (S : SS) (n : Nat) (hn : S.1 8 = nI n) (hn6 : n ≤ 6) : kV l yX2_beginHour wsX2_beginHour ({ frames := 0, cells := 0, slots := 0, locals := 0 } : Room) D [(cI, .int), (cJ, .long)] [.ref (q 4)] (stW q cI cJ S) (stW q cI cJ (p_hour S n)) := by
  refine kBody.met (cc := cX2_beginHour) (maxL := 2) (ret := none) (by decide) rfl (Nat.le_of_ble_eq_true rfl) ?_
  intro p e s m below meth c A ls hx hb hr hml hts hown hlk hK hP hD hA hl
  have hown : s.vm.findClass RX2 = some m.cls := hown
  have inX2 : ∀ w ∈ wsX20, w ∈ wsX2_beginHour := fun w h => List.mem_cons_of_mem _ (List.mem_append_right _ (h))
  have hS : va_S A s.heap s.heap [] := va_S.rf
  have hl : lv_has ls 2 [(0, .ref (q 4))] := hl
  refine lv_iconst (v := 0) hx hb dX2_beginHour_0 (by decide) ?_
  refine lv_istore_n (lv' := [(1, .int 0), (0, .ref (q 4))]) hx hb dX2_beginHour_1 rfl hl (by decide) rfl (fun ls hl => ?_)
  have L_2_0 : ∀ (d : Nat) (k : Nat) (f : Nat → Int32), n < k + d → k ≤ n → ∀  (e2 : itr (p_fillB 0) k (S.2.2.1 6) = f) (H : Heap) (locs : List Loc) (ls : Array Slot), va_P D vwCl (stW q cI cJ (setA S 6 f)) H → va_D A (stW q cI cJ (setA S 6 f)) → va_S A s.heap H locs → lv_has ls 2 [(0, .ref (q 4)), (1, .int (nI k))] → W p l e ({ frames := 0, cells := 0, slots := 0, locals := 0 } : Room) s m (List.toArray [.ref (q 4)]) below meth c H locs 0 0 (MQ below (va_Qv (fun (_ : Unit) => True) (fun _ t => va_P D vwCl (stW q cI cJ (p_hour S n)) t.heap) A) (List.toArray [.ref (q 4)]) s 0 0 A) (F0 m 2 ls []) := by
    intro d
    induction d with
    | zero =>
      intro k f hf
      intro hkn; exact absurd hf (by omega)
    | succ d ih_2 =>
      intro k f hf_2 hkn_2 e2 H locs ls hP hD hS hl
      refine lv_iload_n hx hb dX2_beginHour_2 rfl (lv_at hl 1 rfl) ?_
      refine lv_aload_n hx hb dX2_beginHour_3 rfl (lv_at hl 0 rfl) ?_
      refine va_get (D := D) (ci := 2) (v := .int (S.1 8)) (C := RX2) (T := TX2) (N := 9) hx hb hts inX2 hown hK hP 4 rfl rfl 0 (by decide) (hts (.fieldLink RX2 36 "PumpOaths$Pumps" "count" "I") (List.mem_of_getElem? (i := 1) rfl)) (fun _ h9 => h9) rfl dX2_beginHour_4 ?_
      refine lv_icmp_ge (tgt := 23) hx hb dX2_beginHour_7 (by decide) (fun c_7_1 => ?_) (fun c_7_1 => ?_)
      · have hke_2 : n = k := (k_exitN c_7_1 hn hkn_2 (by omega)).symm
        subst hke_2
        exact k_vret hx hb hr hlk hP hS dX2_beginHour_23 (k_P (by rw [p_hour, e2]))
      · have hkl_2 : k < n := k_bodyN c_7_1 hn hkn_2 (by omega)
        refine lv_aload_n hx hb dX2_beginHour_10 rfl (lv_at hl 0 rfl) ?_
        refine va_get (D := D) (ci := 2) (v := .ref (q 9)) (C := RX2) (T := TX2) (N := 9) hx hb hts inX2 hown hK hP 4 rfl rfl 5 (by decide) (hts (.fieldLink RX2 24 "PumpOaths$Pumps" "hourStarts" "[I") (List.mem_of_getElem? (i := 2) rfl)) (fun _ h9 => h9) rfl dX2_beginHour_11 ?_
        refine lv_iload_n hx hb dX2_beginHour_14 rfl (lv_at hl 1 rfl) ?_
        refine lv_iconst (v := 0) hx hb dX2_beginHour_15 (by decide) ?_
        refine va_iast hx hb hK hP hD hS 9 0 rfl rfl (k_in (k := k) rfl (by omega) (by decide)) dX2_beginHour_16 (fun H locs hP hD hS => ?_)
        rw [show (nI k).toNatClampNeg = k from nI_clamp (by omega)] at hP hD
        have hP : va_P D vwCl (stW q cI cJ (setA S 6 (upd f k 0))) H := hP
        have hD : va_D A (stW q cI cJ (setA S 6 (upd f k 0))) := hD
        refine lv_iinc (v := (nI k) + 1) (lv' := [(1, .int ((nI k) + 1)), (0, .ref (q 4))]) hx hb dX2_beginHour_17 hl (k := 1) rfl rfl (by decide) rfl (fun ls hl => ?_)
        refine lv_goto (tgt := 2) hx hb dX2_beginHour_20 (by decide) ?_
        rw [show ((nI k) + 1) = (nI (k + 1)) from nI_1 _] at hl
        exact ih_2 (k + 1) (upd f k 0) (by omega) (by omega) (by rw [itr_s, e2]; simp [p_fillB, c_7_1]) _ _ _ hP hD hS (lv_sub hl [1, 0] rfl)
  exact L_2_0 (n + 1) 0 (S.2.2.1 6) (by omega) (by omega) (rfl) _ _ _ hP hD hS (lv_sub hl [1, 0] rfl)

set_option maxHeartbeats 4000000 in
set_option maxRecDepth 100000 in
theorem c_X2_passLeadOn (l : Launch) (D : va_G) (q : Nat → Nat) (cI cJ : ClassId) (S : SS) (n : Nat) (hn : S.1 8 = nI n) (hn6 : n ≤ 6) : kV l yX2_passLeadOn wsX2_passLeadOn ({ frames := 0, cells := 0, slots := 0, locals := 0 } : Room) D [(cI, .int), (cJ, .long)] [.ref (q 4)] (stW q cI cJ S) (stW q cI cJ (p_passOn S n)) := by
  refine kBody.met (cc := cX2_passLeadOn) (maxL := 2) (ret := none) (by decide) rfl (Nat.le_of_ble_eq_true rfl) ?_
  intro p e s m below meth c A ls hx hb hr hml hts hown hlk hK hP hD hA hl
  have hown : s.vm.findClass RX2 = some m.cls := hown
  have inX2 : ∀ w ∈ wsX20, w ∈ wsX2_passLeadOn := fun w h => List.mem_cons_of_mem _ (List.mem_append_right _ (h))
  have hS : va_S A s.heap s.heap [] := va_S.rf
  have hl : lv_has ls 2 [(0, .ref (q 4))] := hl
  refine lv_iconst (v := 0) hx hb dX2_passLeadOn_0 (by decide) ?_
  refine lv_istore_n (lv' := [(1, .int 0), (0, .ref (q 4))]) hx hb dX2_passLeadOn_1 rfl hl (by decide) rfl (fun ls hl => ?_)
  have L_2_0 : ∀ (d : Nat) (k : Nat) (f : Nat → Int32), n < k + d → k ≤ n → ∀  (e2 : itr (p_onB S) k (S.2.2.1 5) = f) (H : Heap) (locs : List Loc) (ls : Array Slot), va_P D vwCl (stW q cI cJ (setA S 5 f)) H → va_D A (stW q cI cJ (setA S 5 f)) → va_S A s.heap H locs → lv_has ls 2 [(0, .ref (q 4)), (1, .int (nI k))] → W p l e ({ frames := 0, cells := 0, slots := 0, locals := 0 } : Room) s m (List.toArray [.ref (q 4)]) below meth c H locs 0 0 (MQ below (va_Qv (fun (_ : Unit) => True) (fun _ t => va_P D vwCl (stW q cI cJ (p_passOn S n)) t.heap) A) (List.toArray [.ref (q 4)]) s 0 0 A) (F0 m 2 ls []) := by
    intro d
    induction d with
    | zero =>
      intro k f hf
      intro hkn; exact absurd hf (by omega)
    | succ d ih_2 =>
      intro k f hf_2 hkn_2 e2 H locs ls hP hD hS hl
      refine lv_iload_n hx hb dX2_passLeadOn_2 rfl (lv_at hl 1 rfl) ?_
      refine lv_aload_n hx hb dX2_passLeadOn_3 rfl (lv_at hl 0 rfl) ?_
      refine va_get (D := D) (ci := 2) (v := .int (S.1 8)) (C := RX2) (T := TX2) (N := 9) hx hb hts inX2 hown hK hP 4 rfl rfl 0 (by decide) (hts (.fieldLink RX2 36 "PumpOaths$Pumps" "count" "I") (List.mem_of_getElem? (i := 1) rfl)) (fun _ h9 => h9) rfl dX2_passLeadOn_4 ?_
      refine lv_icmp_ge (tgt := 48) hx hb dX2_passLeadOn_7 (by decide) (fun c_7_1 => ?_) (fun c_7_1 => ?_)
      · have hke_2 : n = k := (k_exitN c_7_1 hn hkn_2 (by omega)).symm
        subst hke_2
        exact k_vret hx hb hr hlk hP hS dX2_passLeadOn_48 (k_P (by rw [p_passOn, e2]))
      · have hkl_2 : k < n := k_bodyN c_7_1 hn hkn_2 (by omega)
        refine lv_aload_n hx hb dX2_passLeadOn_10 rfl (lv_at hl 0 rfl) ?_
        refine va_get (D := D) (ci := 2) (v := .ref (q 8)) (C := RX2) (T := TX2) (N := 9) hx hb hts inX2 hown hK hP 4 rfl rfl 4 (by decide) (hts (.fieldLink RX2 21 "PumpOaths$Pumps" "place" "[I") (List.mem_of_getElem? (i := 2) rfl)) (fun _ h9 => h9) rfl dX2_passLeadOn_11 ?_
        refine lv_iload_n hx hb dX2_passLeadOn_14 rfl (lv_at hl 1 rfl) ?_
        refine lv_aload_n hx hb dX2_passLeadOn_15 rfl (lv_at hl 0 rfl) ?_
        refine va_get (D := D) (ci := 2) (v := .ref (q 8)) (C := RX2) (T := TX2) (N := 9) hx hb hts inX2 hown hK hP 4 rfl rfl 4 (by decide) (hts (.fieldLink RX2 21 "PumpOaths$Pumps" "place" "[I") (List.mem_of_getElem? (i := 2) rfl)) (fun _ h9 => h9) rfl dX2_passLeadOn_16 ?_
        refine lv_iload_n hx hb dX2_passLeadOn_19 rfl (lv_at hl 1 rfl) ?_
        refine va_iald hx hb hK hP 8 0 rfl rfl (k_in (k := k) rfl (by omega) (by decide)) dX2_passLeadOn_20 ?_
        rw [show (nI k).toNatClampNeg = k from nI_clamp (by omega)]
        refine lv_if_ne (tgt := 33) hx hb dX2_passLeadOn_21 (by decide) (fun c_21_2 => ?_) (fun c_21_2 => ?_)
        · refine lv_aload_n hx hb dX2_passLeadOn_33 rfl (lv_at hl 0 rfl) ?_
          refine va_get (D := D) (ci := 2) (v := .ref (q 8)) (C := RX2) (T := TX2) (N := 9) hx hb hts inX2 hown hK hP 4 rfl rfl 4 (by decide) (hts (.fieldLink RX2 21 "PumpOaths$Pumps" "place" "[I") (List.mem_of_getElem? (i := 2) rfl)) (fun _ h9 => h9) rfl dX2_passLeadOn_34 ?_
          refine lv_iload_n hx hb dX2_passLeadOn_37 rfl (lv_at hl 1 rfl) ?_
          refine va_iald hx hb hK hP 8 0 rfl rfl (k_in (k := k) rfl (by omega) (by decide)) dX2_passLeadOn_38 ?_
          rw [show (nI k).toNatClampNeg = k from nI_clamp (by omega)]
          refine lv_iconst (v := 1) hx hb dX2_passLeadOn_39 (by decide) ?_
          refine lv_isub hx hb dX2_passLeadOn_40 ?_
          refine va_iast hx hb hK hP hD hS 8 0 rfl rfl (k_in (k := k) rfl (by omega) (by decide)) dX2_passLeadOn_41 (fun H locs hP hD hS => ?_)
          rw [show (nI k).toNatClampNeg = k from nI_clamp (by omega)] at hP hD
          have hP : va_P D vwCl (stW q cI cJ (setA S 5 (upd f k ((f k) - 1)))) H := hP
          have hD : va_D A (stW q cI cJ (setA S 5 (upd f k ((f k) - 1)))) := hD
          refine lv_iinc (v := (nI k) + 1) (lv' := [(1, .int ((nI k) + 1)), (0, .ref (q 4))]) hx hb dX2_passLeadOn_42 hl (k := 1) rfl rfl (by decide) rfl (fun ls hl => ?_)
          refine lv_goto (tgt := 2) hx hb dX2_passLeadOn_45 (by decide) ?_
          rw [show ((nI k) + 1) = (nI (k + 1)) from nI_1 _] at hl
          exact ih_2 (k + 1) (upd f k ((f k) - 1)) (by omega) (by omega) (by rw [itr_s, e2]; simp [p_onB, c_7_1, c_21_2]) _ _ _ hP hD hS (lv_sub hl [1, 0] rfl)
        · refine lv_aload_n hx hb dX2_passLeadOn_24 rfl (lv_at hl 0 rfl) ?_
          refine va_get (D := D) (ci := 2) (v := .int (S.1 8)) (C := RX2) (T := TX2) (N := 9) hx hb hts inX2 hown hK hP 4 rfl rfl 0 (by decide) (hts (.fieldLink RX2 36 "PumpOaths$Pumps" "count" "I") (List.mem_of_getElem? (i := 1) rfl)) (fun _ h9 => h9) rfl dX2_passLeadOn_25 ?_
          refine lv_iconst (v := 1) hx hb dX2_passLeadOn_28 (by decide) ?_
          refine lv_isub hx hb dX2_passLeadOn_29 ?_
          refine lv_goto (tgt := 41) hx hb dX2_passLeadOn_30 (by decide) ?_
          refine va_iast hx hb hK hP hD hS 8 0 rfl rfl (k_in (k := k) rfl (by omega) (by decide)) dX2_passLeadOn_41 (fun H locs hP hD hS => ?_)
          rw [show (nI k).toNatClampNeg = k from nI_clamp (by omega)] at hP hD
          have hP : va_P D vwCl (stW q cI cJ (setA S 5 (upd f k ((S.1 8) - 1)))) H := hP
          have hD : va_D A (stW q cI cJ (setA S 5 (upd f k ((S.1 8) - 1)))) := hD
          refine lv_iinc (v := (nI k) + 1) (lv' := [(1, .int ((nI k) + 1)), (0, .ref (q 4))]) hx hb dX2_passLeadOn_42 hl (k := 1) rfl rfl (by decide) rfl (fun ls hl => ?_)
          refine lv_goto (tgt := 2) hx hb dX2_passLeadOn_45 (by decide) ?_
          rw [show ((nI k) + 1) = (nI (k + 1)) from nI_1 _] at hl
          exact ih_2 (k + 1) (upd f k ((S.1 8) - 1)) (by omega) (by omega) (by rw [itr_s, e2]; simp [p_onB, c_7_1, c_21_2]) _ _ _ hP hD hS (lv_sub hl [1, 0] rfl)
  exact L_2_0 (n + 1) 0 (S.2.2.1 5) (by omega) (by omega) (rfl) _ _ _ hP hD hS (lv_sub hl [1, 0] rfl)

set_option maxHeartbeats 4000000 in
set_option maxRecDepth 100000 in
theorem c_X2_stopAll (l : Launch) (D : va_G) (q : Nat → Nat) (cI cJ : ClassId) (S : SS) (n : Nat) (hn : S.1 8 = nI n) (hn6 : n ≤ 6) : kV l yX2_stopAll wsX2_stopAll ({ frames := 1, cells := 0, slots := 0, locals := 21 } : Room) D [(cI, .int), (cJ, .long)] [.ref (q 4)] (stW q cI cJ S) (stW q cI cJ (p_stop S n)) := by
  refine kBody.met (cc := cX2_stopAll) (maxL := 3) (ret := none) (by decide) rfl (Nat.le_of_ble_eq_true rfl) ?_
  intro p e s m below meth c A ls hx hb hr hml hts hown hlk hK hP hD hA hl
  have hown : s.vm.findClass RX2 = some m.cls := hown
  have inX2 : ∀ w ∈ wsX20, w ∈ wsX2_stopAll := fun w h => List.mem_cons_of_mem _ (List.mem_append_right _ (h))
  have hS : va_S A s.heap s.heap [] := va_S.rf
  have hl : lv_has ls 3 [(0, .ref (q 4))] := hl
  refine lv_iconst (v := 0) hx hb dX2_stopAll_0 (by decide) ?_
  refine lv_istore_n (lv' := [(1, .int 0), (0, .ref (q 4))]) hx hb dX2_stopAll_1 rfl hl (by decide) rfl (fun ls hl => ?_)
  refine lv_iconst (v := 0) hx hb dX2_stopAll_2 (by decide) ?_
  refine lv_istore_n (lv' := [(2, .int 0), (1, .int 0), (0, .ref (q 4))]) hx hb dX2_stopAll_3 rfl hl (by decide) rfl (fun ls hl => ?_)
  have L_4_0 : ∀ (d : Nat) (k : Nat) (f : Nat → Int32) (x : Int32), n < k + d → k ≤ n → ∀  (e4 : itr p_stopB k (S.2.2.1 4, 0) = (f, x)) (H : Heap) (locs : List Loc) (ls : Array Slot), va_P D vwCl (stW q cI cJ (setA S 4 f)) H → va_D A (stW q cI cJ (setA S 4 f)) → va_S A s.heap H locs → lv_has ls 3 [(0, .ref (q 4)), (1, .int x), (2, .int (nI k))] → W p l e ({ frames := 1, cells := 0, slots := 0, locals := 21 } : Room) s m (List.toArray [.ref (q 4)]) below meth c H locs 0 0 (MQ below (va_Qv (fun (_ : Unit) => True) (fun _ t => va_P D vwCl (stW q cI cJ (p_stop S n)) t.heap) A) (List.toArray [.ref (q 4)]) s 0 0 A) (F0 m 4 ls []) := by
    intro d
    induction d with
    | zero =>
      intro k f x hf
      intro hkn; exact absurd hf (by omega)
    | succ d ih_4 =>
      intro k f x hf_4 hkn_4 e4 H locs ls hP hD hS hl
      refine lv_iload_n hx hb dX2_stopAll_4 rfl (lv_at hl 2 rfl) ?_
      refine lv_aload_n hx hb dX2_stopAll_5 rfl (lv_at hl 0 rfl) ?_
      refine va_get (D := D) (ci := 2) (v := .int (S.1 8)) (C := RX2) (T := TX2) (N := 9) hx hb hts inX2 hown hK hP 4 rfl rfl 0 (by decide) (hts (.fieldLink RX2 36 "PumpOaths$Pumps" "count" "I") (List.mem_of_getElem? (i := 1) rfl)) (fun _ h9 => h9) rfl dX2_stopAll_6 ?_
      refine lv_icmp_ge (tgt := 37) hx hb dX2_stopAll_9 (by decide) (fun c_9_1 => ?_) (fun c_9_1 => ?_)
      · have hke_4 : n = k := (k_exitN c_9_1 hn hkn_4 (by omega)).symm
        subst hke_4
        refine lv_iload_n hx hb dX2_stopAll_37 rfl (lv_at hl 1 rfl) ?_
        refine lv_if_eq (tgt := 45) hx hb dX2_stopAll_38 (by decide) (fun c_38_2 => ?_) (fun c_38_2 => ?_)
        · exact k_vret hx hb hr hlk hP hS dX2_stopAll_45 (k_P (by simp [p_stop, p_stopR, e4, c_9_1, c_38_2]))
        · refine lv_aload_n hx hb dX2_stopAll_41 rfl (lv_at hl 0 rfl) ?_
          refine k_callv (a := []) (z := []) (wc := stW q cI cJ (setA S 4 f)) (wc' := stW q cI cJ (p_passOn (setA S 4 f) n)) (w' := stW q cI cJ (p_passOn (setA S 4 f) n)) (va_runV (As := []) (rest := []) ⟨hx, hb, hml, hown, hts⟩ (c_X2_passLeadOn l D q cI cJ (setA S 4 f) n hn hn6 H.size) (cwV 0 hts gX2_stopAll_X2_passLeadOn rfl rfl rfl (by decide +kernel) ⟨Nat.le_of_ble_eq_true rfl, Nat.le_of_ble_eq_true rfl⟩) ⟨kB_blind, va_recv hK hP (ci := 2) (q0 := 4) rfl rfl, k_pre (a := []) (z := []) (k_w0 _) hK hP hD⟩ rfl rfl hl.1 rfl (lv_room (Nat.le_of_ble_eq_true rfl)) dX2_stopAll_42 ⟨Nat.zero_le _, Nat.zero_le _⟩) (k_w0 _) (k_w0 _) rfl hP hD hS hA (fun H locs hP hD hS => ?_)
          exact k_vret hx hb hr hlk hP hS dX2_stopAll_45 (k_P (by simp [p_stop, p_stopR, e4, c_9_1, c_38_2]))
      · have hkl_4 : k < n := k_bodyN c_9_1 hn hkn_4 (by omega)
        refine lv_aload_n hx hb dX2_stopAll_12 rfl (lv_at hl 0 rfl) ?_
        refine va_get (D := D) (ci := 2) (v := .ref (q 7)) (C := RX2) (T := TX2) (N := 9) hx hb hts inX2 hown hK hP 4 rfl rfl 3 (by decide) (hts (.fieldLink RX2 18 "PumpOaths$Pumps" "mode" "[I") (List.mem_of_getElem? (i := 2) rfl)) (fun _ h9 => h9) rfl dX2_stopAll_13 ?_
        refine lv_iload_n hx hb dX2_stopAll_16 rfl (lv_at hl 2 rfl) ?_
        refine va_iald hx hb hK hP 7 0 rfl rfl (k_in (k := k) rfl (by omega) (by decide)) dX2_stopAll_17 ?_
        rw [show (nI k).toNatClampNeg = k from nI_clamp (by omega)]
        refine lv_iconst (v := 1) hx hb dX2_stopAll_18 (by decide) ?_
        refine lv_icmp_ne (tgt := 31) hx hb dX2_stopAll_19 (by decide) (fun c_19_3 => ?_) (fun c_19_3 => ?_)
        · refine lv_iinc (v := (nI k) + 1) (lv' := [(2, .int ((nI k) + 1)), (0, .ref (q 4)), (1, .int x)]) hx hb dX2_stopAll_31 hl (k := 2) rfl rfl (by decide) rfl (fun ls hl => ?_)
          refine lv_goto (tgt := 4) hx hb dX2_stopAll_34 (by decide) ?_
          rw [show ((nI k) + 1) = (nI (k + 1)) from nI_1 _] at hl
          exact ih_4 (k + 1) f x (by omega) (by omega) (by rw [itr_s, e4]; simp [p_stopB, c_9_1, c_19_3]) _ _ _ hP hD hS (lv_sub hl [1, 2, 0] rfl)
        · refine lv_aload_n hx hb dX2_stopAll_22 rfl (lv_at hl 0 rfl) ?_
          refine va_get (D := D) (ci := 2) (v := .ref (q 7)) (C := RX2) (T := TX2) (N := 9) hx hb hts inX2 hown hK hP 4 rfl rfl 3 (by decide) (hts (.fieldLink RX2 18 "PumpOaths$Pumps" "mode" "[I") (List.mem_of_getElem? (i := 2) rfl)) (fun _ h9 => h9) rfl dX2_stopAll_23 ?_
          refine lv_iload_n hx hb dX2_stopAll_26 rfl (lv_at hl 2 rfl) ?_
          refine lv_iconst (v := 0) hx hb dX2_stopAll_27 (by decide) ?_
          refine va_iast hx hb hK hP hD hS 7 0 rfl rfl (k_in (k := k) rfl (by omega) (by decide)) dX2_stopAll_28 (fun H locs hP hD hS => ?_)
          rw [show (nI k).toNatClampNeg = k from nI_clamp (by omega)] at hP hD
          have hP : va_P D vwCl (stW q cI cJ (setA S 4 (upd f k 0))) H := hP
          have hD : va_D A (stW q cI cJ (setA S 4 (upd f k 0))) := hD
          refine lv_iconst (v := 1) hx hb dX2_stopAll_29 (by decide) ?_
          refine lv_istore_n (lv' := [(1, .int 1), (0, .ref (q 4)), (2, .int (nI k))]) hx hb dX2_stopAll_30 rfl hl (by decide) rfl (fun ls hl => ?_)
          refine lv_iinc (v := (nI k) + 1) (lv' := [(2, .int ((nI k) + 1)), (1, .int 1), (0, .ref (q 4))]) hx hb dX2_stopAll_31 hl (k := 2) rfl rfl (by decide) rfl (fun ls hl => ?_)
          refine lv_goto (tgt := 4) hx hb dX2_stopAll_34 (by decide) ?_
          rw [show ((nI k) + 1) = (nI (k + 1)) from nI_1 _] at hl
          exact ih_4 (k + 1) (upd f k 0) 1 (by omega) (by omega) (by rw [itr_s, e4]; simp [p_stopB, c_9_1, c_19_3]) _ _ _ hP hD hS (lv_sub hl [2, 1, 0] rfl)
  exact L_4_0 (n + 1) 0 (S.2.2.1 4) 0 (by omega) (by omega) (rfl) _ _ _ hP hD hS (lv_sub hl [2, 1, 0] rfl)

set_option maxHeartbeats 4000000 in
set_option maxRecDepth 100000 in
theorem c_X2_firstOff (l : Launch) (D : va_G) (q : Nat → Nat) (cI cJ : ClassId) (S : SS) (w : Int32) (n : Nat) (hn : S.1 8 = nI n) (hn6 : n ≤ 6) : kI l yX2_firstOff wsX2_firstOff ({ frames := 0, cells := 0, slots := 0, locals := 0 } : Room) D [(cI, .int), (cJ, .long)] [.ref (q 4), .int w] (stW q cI cJ S) (p_first S n w) (stW q cI cJ S) := by
  refine kBody.met (cc := cX2_firstOff) (maxL := 6) (ret := (some .int)) (by decide) rfl (Nat.le_of_ble_eq_true rfl) ?_
  intro p e s m below meth c A ls hx hb hr hml hts hown hlk hK hP hD hA hl
  have hown : s.vm.findClass RX2 = some m.cls := hown
  have inX2 : ∀ w ∈ wsX20, w ∈ wsX2_firstOff := fun w h => List.mem_cons_of_mem _ (List.mem_append_right _ (h))
  have hS : va_S A s.heap s.heap [] := va_S.rf
  have hl : lv_has ls 6 [(0, .ref (q 4)), (1, .int w)] := hl
  refine lv_iconst (v := (-1)) hx hb dX2_firstOff_0 (by decide) ?_
  refine lv_istore_n (lv' := [(2, .int (-1)), (0, .ref (q 4)), (1, .int w)]) hx hb dX2_firstOff_1 rfl hl (by decide) rfl (fun ls hl => ?_)
  refine lv_bipush (v := 6) hx hb dX2_firstOff_2 (by decide) ?_
  refine lv_istore_n (lv' := [(3, .int 6), (2, .int (-1)), (0, .ref (q 4)), (1, .int w)]) hx hb dX2_firstOff_4 rfl hl (by decide) rfl (fun ls hl => ?_)
  refine lv_iconst (v := 0) hx hb dX2_firstOff_5 (by decide) ?_
  refine lv_istore (lv' := [(4, .int 0), (3, .int 6), (2, .int (-1)), (0, .ref (q 4)), (1, .int w)]) hx hb dX2_firstOff_6 hl (by decide) rfl (fun ls hl => ?_)
  have L_8_0 : ∀ (d : Nat) (k : Nat) (x : Int32) (y : Int32), n < k + d → k ≤ n → ∀  (e8 : itr (p_firstB S w) k (-1, 6) = (x, y)) (H : Heap) (locs : List Loc) (ls : Array Slot), va_P D vwCl (stW q cI cJ S) H → va_D A (stW q cI cJ S) → va_S A s.heap H locs → lv_has ls 6 [(0, .ref (q 4)), (1, .int w), (2, .int x), (3, .int y), (4, .int (nI k))] → W p l e ({ frames := 0, cells := 0, slots := 0, locals := 0 } : Room) s m (List.toArray [.ref (q 4), .int w]) below meth c H locs 0 0 (MQ below (va_Qi (fun r (_ : Unit) => r = (p_first S n w)) (fun _ t => va_P D vwCl (stW q cI cJ S) t.heap) A) (List.toArray [.ref (q 4), .int w]) s 0 0 A) (F0 m 8 ls []) := by
    intro d
    induction d with
    | zero =>
      intro k x y hf
      intro hkn; exact absurd hf (by omega)
    | succ d ih_8 =>
      intro k x y hf_8 hkn_8 e8 H locs ls hP hD hS hl
      refine lv_iload hx hb dX2_firstOff_8 (lv_at hl 4 rfl) ?_
      refine lv_aload_n hx hb dX2_firstOff_10 rfl (lv_at hl 0 rfl) ?_
      refine va_get (D := D) (ci := 2) (v := .int (S.1 8)) (C := RX2) (T := TX2) (N := 9) hx hb hts inX2 hown hK hP 4 rfl rfl 0 (by decide) (hts (.fieldLink RX2 36 "PumpOaths$Pumps" "count" "I") (List.mem_of_getElem? (i := 1) rfl)) (fun _ h9 => h9) rfl dX2_firstOff_11 ?_
      refine lv_icmp_ge (tgt := 88) hx hb dX2_firstOff_14 (by decide) (fun c_14_1 => ?_) (fun c_14_1 => ?_)
      · have hke_8 : n = k := (k_exitN c_14_1 hn hkn_8 (by omega)).symm
        subst hke_8
        refine lv_iload_n hx hb dX2_firstOff_88 rfl (lv_at hl 2 rfl) ?_
        exact k_iret hx hb hr hlk hP hS dX2_firstOff_89 rfl (by rw [p_first, e8]) (fun h => h)
      · have hkl_8 : k < n := k_bodyN c_14_1 hn hkn_8 (by omega)
        refine lv_iload_n hx hb dX2_firstOff_17 rfl (lv_at hl 1 rfl) ?_
        refine lv_if_eq (tgt := 38) hx hb dX2_firstOff_18 (by decide) (fun c_18_2 => ?_) (fun c_18_2 => ?_)
        · refine lv_iconst (v := 1) hx hb dX2_firstOff_38 (by decide) ?_
          refine lv_goto (tgt := 43) hx hb dX2_firstOff_39 (by decide) ?_
          refine lv_istore (lv' := [(5, .int 1), (0, .ref (q 4)), (1, .int w), (2, .int x), (3, .int y), (4, .int (nI k))]) hx hb dX2_firstOff_43 hl (by decide) rfl (fun ls hl => ?_)
          refine lv_aload_n hx hb dX2_firstOff_45 rfl (lv_at hl 1 rfl) ?_
          refine va_get (D := D) (ci := 2) (v := .ref (q 7)) (C := RX2) (T := TX2) (N := 9) hx hb hts inX2 hown hK hP 4 rfl rfl 3 (by decide) (hts (.fieldLink RX2 18 "PumpOaths$Pumps" "mode" "[I") (List.mem_of_getElem? (i := 4) rfl)) (fun _ h9 => h9) rfl dX2_firstOff_46 ?_
          refine lv_iload hx hb dX2_firstOff_49 (lv_at hl 5 rfl) ?_
          refine va_iald hx hb hK hP 7 0 rfl rfl (k_in (k := k) rfl (by omega) (by decide)) dX2_firstOff_51 ?_
          rw [show (nI k).toNatClampNeg = k from nI_clamp (by omega)]
          refine lv_if_ne (tgt := 82) hx hb dX2_firstOff_52 (by decide) (fun c_52_3 => ?_) (fun c_52_3 => ?_)
          · refine lv_iinc (v := (nI k) + 1) (lv' := [(4, .int ((nI k) + 1)), (5, .int 1), (0, .ref (q 4)), (1, .int w), (2, .int x), (3, .int y)]) hx hb dX2_firstOff_82 hl (k := 5) rfl rfl (by decide) rfl (fun ls hl => ?_)
            refine lv_goto (tgt := 8) hx hb dX2_firstOff_85 (by decide) ?_
            rw [show ((nI k) + 1) = (nI (k + 1)) from nI_1 _] at hl
            exact ih_8 (k + 1) x y (by omega) (by omega) (by rw [itr_s, e8]; simp [p_firstB, c_14_1, c_18_2, c_52_3]) _ _ _ hP hD hS (lv_sub hl [2, 3, 4, 5, 0] rfl)
          · refine lv_iload hx hb dX2_firstOff_55 (lv_at hl 0 rfl) ?_
            refine lv_if_eq (tgt := 82) hx hb dX2_firstOff_57 (by decide) (fun h => absurd h (by decide)) (fun _ => ?_)
            refine lv_aload_n hx hb dX2_firstOff_60 rfl (lv_at hl 1 rfl) ?_
            refine va_get (D := D) (ci := 2) (v := .ref (q 8)) (C := RX2) (T := TX2) (N := 9) hx hb hts inX2 hown hK hP 4 rfl rfl 4 (by decide) (hts (.fieldLink RX2 21 "PumpOaths$Pumps" "place" "[I") (List.mem_of_getElem? (i := 5) rfl)) (fun _ h9 => h9) rfl dX2_firstOff_61 ?_
            refine lv_iload hx hb dX2_firstOff_64 (lv_at hl 5 rfl) ?_
            refine va_iald hx hb hK hP 8 0 rfl rfl (k_in (k := k) rfl (by omega) (by decide)) dX2_firstOff_66 ?_
            rw [show (nI k).toNatClampNeg = k from nI_clamp (by omega)]
            refine lv_iload_n hx hb dX2_firstOff_67 rfl (lv_at hl 4 rfl) ?_
            refine lv_icmp_ge (tgt := 82) hx hb dX2_firstOff_68 (by decide) (fun c_68_5 => ?_) (fun c_68_5 => ?_)
            · refine lv_iinc (v := (nI k) + 1) (lv' := [(4, .int ((nI k) + 1)), (5, .int 1), (0, .ref (q 4)), (1, .int w), (2, .int x), (3, .int y)]) hx hb dX2_firstOff_82 hl (k := 5) rfl rfl (by decide) rfl (fun ls hl => ?_)
              refine lv_goto (tgt := 8) hx hb dX2_firstOff_85 (by decide) ?_
              rw [show ((nI k) + 1) = (nI (k + 1)) from nI_1 _] at hl
              exact ih_8 (k + 1) x y (by omega) (by omega) (by rw [itr_s, e8]; simp [p_firstB, c_14_1, c_18_2, c_52_3, c_68_5]) _ _ _ hP hD hS (lv_sub hl [2, 3, 4, 5, 0] rfl)
            · refine lv_iload hx hb dX2_firstOff_71 (lv_at hl 5 rfl) ?_
              refine lv_istore_n (lv' := [(2, .int (nI k)), (5, .int 1), (0, .ref (q 4)), (1, .int w), (3, .int y), (4, .int (nI k))]) hx hb dX2_firstOff_73 rfl hl (by decide) rfl (fun ls hl => ?_)
              refine lv_aload_n hx hb dX2_firstOff_74 rfl (lv_at hl 2 rfl) ?_
              refine va_get (D := D) (ci := 2) (v := .ref (q 8)) (C := RX2) (T := TX2) (N := 9) hx hb hts inX2 hown hK hP 4 rfl rfl 4 (by decide) (hts (.fieldLink RX2 21 "PumpOaths$Pumps" "place" "[I") (List.mem_of_getElem? (i := 5) rfl)) (fun _ h9 => h9) rfl dX2_firstOff_75 ?_
              refine lv_iload hx hb dX2_firstOff_78 (lv_at hl 5 rfl) ?_
              refine va_iald hx hb hK hP 8 0 rfl rfl (k_in (k := k) rfl (by omega) (by decide)) dX2_firstOff_80 ?_
              rw [show (nI k).toNatClampNeg = k from nI_clamp (by omega)]
              refine lv_istore_n (lv' := [(3, .int ((S.2.2.1 5) k)), (2, .int (nI k)), (5, .int 1), (0, .ref (q 4)), (1, .int w), (4, .int (nI k))]) hx hb dX2_firstOff_81 rfl hl (by decide) rfl (fun ls hl => ?_)
              refine lv_iinc (v := (nI k) + 1) (lv' := [(4, .int ((nI k) + 1)), (3, .int ((S.2.2.1 5) k)), (2, .int (nI k)), (5, .int 1), (0, .ref (q 4)), (1, .int w)]) hx hb dX2_firstOff_82 hl (k := 5) rfl rfl (by decide) rfl (fun ls hl => ?_)
              refine lv_goto (tgt := 8) hx hb dX2_firstOff_85 (by decide) ?_
              rw [show ((nI k) + 1) = (nI (k + 1)) from nI_1 _] at hl
              exact ih_8 (k + 1) (nI k) ((S.2.2.1 5) k) (by omega) (by omega) (by rw [itr_s, e8]; simp [p_firstB, c_14_1, c_18_2, c_52_3, c_68_5]) _ _ _ hP hD hS (lv_sub hl [4, 5, 2, 1, 0] rfl)
        · refine lv_aload_n hx hb dX2_firstOff_21 rfl (lv_at hl 0 rfl) ?_
          refine va_get (D := D) (ci := 2) (v := .ref (q 9)) (C := RX2) (T := TX2) (N := 9) hx hb hts inX2 hown hK hP 4 rfl rfl 5 (by decide) (hts (.fieldLink RX2 24 "PumpOaths$Pumps" "hourStarts" "[I") (List.mem_of_getElem? (i := 2) rfl)) (fun _ h9 => h9) rfl dX2_firstOff_22 ?_
          refine lv_iload hx hb dX2_firstOff_25 (lv_at hl 4 rfl) ?_
          refine va_iald hx hb hK hP 9 0 rfl rfl (k_in (k := k) rfl (by omega) (by decide)) dX2_firstOff_27 ?_
          rw [show (nI k).toNatClampNeg = k from nI_clamp (by omega)]
          refine lv_aload_n hx hb dX2_firstOff_28 rfl (lv_at hl 0 rfl) ?_
          refine va_get (D := D) (ci := 2) (v := .ref (q 6)) (C := RX2) (T := TX2) (N := 9) hx hb hts inX2 hown hK hP 4 rfl rfl 2 (by decide) (hts (.fieldLink RX2 15 "PumpOaths$Pumps" "oath" "[I") (List.mem_of_getElem? (i := 3) rfl)) (fun _ h9 => h9) rfl dX2_firstOff_29 ?_
          refine lv_iload hx hb dX2_firstOff_32 (lv_at hl 4 rfl) ?_
          refine va_iald hx hb hK hP 6 0 rfl rfl (k_in (k := k) rfl (by omega) (by decide)) dX2_firstOff_34 ?_
          rw [show (nI k).toNatClampNeg = k from nI_clamp (by omega)]
          refine lv_icmp_ge (tgt := 42) hx hb dX2_firstOff_35 (by decide) (fun c_35_6 => ?_) (fun c_35_6 => ?_)
          · refine lv_iconst (v := 0) hx hb dX2_firstOff_42 (by decide) ?_
            refine lv_istore (lv' := [(5, .int 0), (0, .ref (q 4)), (1, .int w), (2, .int x), (3, .int y), (4, .int (nI k))]) hx hb dX2_firstOff_43 hl (by decide) rfl (fun ls hl => ?_)
            refine lv_aload_n hx hb dX2_firstOff_45 rfl (lv_at hl 1 rfl) ?_
            refine va_get (D := D) (ci := 2) (v := .ref (q 7)) (C := RX2) (T := TX2) (N := 9) hx hb hts inX2 hown hK hP 4 rfl rfl 3 (by decide) (hts (.fieldLink RX2 18 "PumpOaths$Pumps" "mode" "[I") (List.mem_of_getElem? (i := 4) rfl)) (fun _ h9 => h9) rfl dX2_firstOff_46 ?_
            refine lv_iload hx hb dX2_firstOff_49 (lv_at hl 5 rfl) ?_
            refine va_iald hx hb hK hP 7 0 rfl rfl (k_in (k := k) rfl (by omega) (by decide)) dX2_firstOff_51 ?_
            rw [show (nI k).toNatClampNeg = k from nI_clamp (by omega)]
            refine lv_if_ne (tgt := 82) hx hb dX2_firstOff_52 (by decide) (fun c_52_7 => ?_) (fun c_52_7 => ?_)
            · refine lv_iinc (v := (nI k) + 1) (lv' := [(4, .int ((nI k) + 1)), (5, .int 0), (0, .ref (q 4)), (1, .int w), (2, .int x), (3, .int y)]) hx hb dX2_firstOff_82 hl (k := 5) rfl rfl (by decide) rfl (fun ls hl => ?_)
              refine lv_goto (tgt := 8) hx hb dX2_firstOff_85 (by decide) ?_
              rw [show ((nI k) + 1) = (nI (k + 1)) from nI_1 _] at hl
              exact ih_8 (k + 1) x y (by omega) (by omega) (by rw [itr_s, e8]; simp [p_firstB, c_14_1, c_18_2, c_35_6, c_52_7]) _ _ _ hP hD hS (lv_sub hl [2, 3, 4, 5, 0] rfl)
            · refine lv_iload hx hb dX2_firstOff_55 (lv_at hl 0 rfl) ?_
              refine lv_if_eq (tgt := 82) hx hb dX2_firstOff_57 (by decide) (fun _ => ?_) (fun h => absurd h (by decide))
              refine lv_iinc (v := (nI k) + 1) (lv' := [(4, .int ((nI k) + 1)), (5, .int 0), (0, .ref (q 4)), (1, .int w), (2, .int x), (3, .int y)]) hx hb dX2_firstOff_82 hl (k := 5) rfl rfl (by decide) rfl (fun ls hl => ?_)
              refine lv_goto (tgt := 8) hx hb dX2_firstOff_85 (by decide) ?_
              rw [show ((nI k) + 1) = (nI (k + 1)) from nI_1 _] at hl
              exact ih_8 (k + 1) x y (by omega) (by omega) (by rw [itr_s, e8]; simp [p_firstB, c_14_1, c_18_2, c_35_6, c_52_7]) _ _ _ hP hD hS (lv_sub hl [2, 3, 4, 5, 0] rfl)
          · refine lv_iconst (v := 1) hx hb dX2_firstOff_38 (by decide) ?_
            refine lv_goto (tgt := 43) hx hb dX2_firstOff_39 (by decide) ?_
            refine lv_istore (lv' := [(5, .int 1), (0, .ref (q 4)), (1, .int w), (2, .int x), (3, .int y), (4, .int (nI k))]) hx hb dX2_firstOff_43 hl (by decide) rfl (fun ls hl => ?_)
            refine lv_aload_n hx hb dX2_firstOff_45 rfl (lv_at hl 1 rfl) ?_
            refine va_get (D := D) (ci := 2) (v := .ref (q 7)) (C := RX2) (T := TX2) (N := 9) hx hb hts inX2 hown hK hP 4 rfl rfl 3 (by decide) (hts (.fieldLink RX2 18 "PumpOaths$Pumps" "mode" "[I") (List.mem_of_getElem? (i := 4) rfl)) (fun _ h9 => h9) rfl dX2_firstOff_46 ?_
            refine lv_iload hx hb dX2_firstOff_49 (lv_at hl 5 rfl) ?_
            refine va_iald hx hb hK hP 7 0 rfl rfl (k_in (k := k) rfl (by omega) (by decide)) dX2_firstOff_51 ?_
            rw [show (nI k).toNatClampNeg = k from nI_clamp (by omega)]
            refine lv_if_ne (tgt := 82) hx hb dX2_firstOff_52 (by decide) (fun c_52_9 => ?_) (fun c_52_9 => ?_)
            · refine lv_iinc (v := (nI k) + 1) (lv' := [(4, .int ((nI k) + 1)), (5, .int 1), (0, .ref (q 4)), (1, .int w), (2, .int x), (3, .int y)]) hx hb dX2_firstOff_82 hl (k := 5) rfl rfl (by decide) rfl (fun ls hl => ?_)
              refine lv_goto (tgt := 8) hx hb dX2_firstOff_85 (by decide) ?_
              rw [show ((nI k) + 1) = (nI (k + 1)) from nI_1 _] at hl
              exact ih_8 (k + 1) x y (by omega) (by omega) (by rw [itr_s, e8]; simp [p_firstB, c_14_1, c_18_2, c_35_6, c_52_9]) _ _ _ hP hD hS (lv_sub hl [2, 3, 4, 5, 0] rfl)
            · refine lv_iload hx hb dX2_firstOff_55 (lv_at hl 0 rfl) ?_
              refine lv_if_eq (tgt := 82) hx hb dX2_firstOff_57 (by decide) (fun h => absurd h (by decide)) (fun _ => ?_)
              refine lv_aload_n hx hb dX2_firstOff_60 rfl (lv_at hl 1 rfl) ?_
              refine va_get (D := D) (ci := 2) (v := .ref (q 8)) (C := RX2) (T := TX2) (N := 9) hx hb hts inX2 hown hK hP 4 rfl rfl 4 (by decide) (hts (.fieldLink RX2 21 "PumpOaths$Pumps" "place" "[I") (List.mem_of_getElem? (i := 5) rfl)) (fun _ h9 => h9) rfl dX2_firstOff_61 ?_
              refine lv_iload hx hb dX2_firstOff_64 (lv_at hl 5 rfl) ?_
              refine va_iald hx hb hK hP 8 0 rfl rfl (k_in (k := k) rfl (by omega) (by decide)) dX2_firstOff_66 ?_
              rw [show (nI k).toNatClampNeg = k from nI_clamp (by omega)]
              refine lv_iload_n hx hb dX2_firstOff_67 rfl (lv_at hl 4 rfl) ?_
              refine lv_icmp_ge (tgt := 82) hx hb dX2_firstOff_68 (by decide) (fun c_68_11 => ?_) (fun c_68_11 => ?_)
              · refine lv_iinc (v := (nI k) + 1) (lv' := [(4, .int ((nI k) + 1)), (5, .int 1), (0, .ref (q 4)), (1, .int w), (2, .int x), (3, .int y)]) hx hb dX2_firstOff_82 hl (k := 5) rfl rfl (by decide) rfl (fun ls hl => ?_)
                refine lv_goto (tgt := 8) hx hb dX2_firstOff_85 (by decide) ?_
                rw [show ((nI k) + 1) = (nI (k + 1)) from nI_1 _] at hl
                exact ih_8 (k + 1) x y (by omega) (by omega) (by rw [itr_s, e8]; simp [p_firstB, c_14_1, c_18_2, c_35_6, c_52_9, c_68_11]) _ _ _ hP hD hS (lv_sub hl [2, 3, 4, 5, 0] rfl)
              · refine lv_iload hx hb dX2_firstOff_71 (lv_at hl 5 rfl) ?_
                refine lv_istore_n (lv' := [(2, .int (nI k)), (5, .int 1), (0, .ref (q 4)), (1, .int w), (3, .int y), (4, .int (nI k))]) hx hb dX2_firstOff_73 rfl hl (by decide) rfl (fun ls hl => ?_)
                refine lv_aload_n hx hb dX2_firstOff_74 rfl (lv_at hl 2 rfl) ?_
                refine va_get (D := D) (ci := 2) (v := .ref (q 8)) (C := RX2) (T := TX2) (N := 9) hx hb hts inX2 hown hK hP 4 rfl rfl 4 (by decide) (hts (.fieldLink RX2 21 "PumpOaths$Pumps" "place" "[I") (List.mem_of_getElem? (i := 5) rfl)) (fun _ h9 => h9) rfl dX2_firstOff_75 ?_
                refine lv_iload hx hb dX2_firstOff_78 (lv_at hl 5 rfl) ?_
                refine va_iald hx hb hK hP 8 0 rfl rfl (k_in (k := k) rfl (by omega) (by decide)) dX2_firstOff_80 ?_
                rw [show (nI k).toNatClampNeg = k from nI_clamp (by omega)]
                refine lv_istore_n (lv' := [(3, .int ((S.2.2.1 5) k)), (2, .int (nI k)), (5, .int 1), (0, .ref (q 4)), (1, .int w), (4, .int (nI k))]) hx hb dX2_firstOff_81 rfl hl (by decide) rfl (fun ls hl => ?_)
                refine lv_iinc (v := (nI k) + 1) (lv' := [(4, .int ((nI k) + 1)), (3, .int ((S.2.2.1 5) k)), (2, .int (nI k)), (5, .int 1), (0, .ref (q 4)), (1, .int w)]) hx hb dX2_firstOff_82 hl (k := 5) rfl rfl (by decide) rfl (fun ls hl => ?_)
                refine lv_goto (tgt := 8) hx hb dX2_firstOff_85 (by decide) ?_
                rw [show ((nI k) + 1) = (nI (k + 1)) from nI_1 _] at hl
                exact ih_8 (k + 1) (nI k) ((S.2.2.1 5) k) (by omega) (by omega) (by rw [itr_s, e8]; simp [p_firstB, c_14_1, c_18_2, c_35_6, c_52_9, c_68_11]) _ _ _ hP hD hS (lv_sub hl [4, 5, 2, 1, 0] rfl)
  exact L_8_0 (n + 1) 0 (-1) 6 (by omega) (by omega) (rfl) _ _ _ hP hD hS (lv_sub hl [3, 4, 2, 1, 0] rfl)

set_option maxHeartbeats 4000000 in
set_option maxRecDepth 100000 in
theorem c_X2_nextToStart (l : Launch) (D : va_G) (q : Nat → Nat) (cI cJ : ClassId) (S : SS) (w : Int32) (n : Nat) (hn : S.1 8 = nI n) (hn6 : n ≤ 6) : kI l yX2_nextToStart wsX2_nextToStart ({ frames := 1, cells := 0, slots := 0, locals := 25 } : Room) D [(cI, .int), (cJ, .long)] [.ref (q 4), .int w] (stW q cI cJ S) (p_next S n w) (stW q cI cJ S) := by
  refine kBody.met (cc := cX2_nextToStart) (maxL := 3) (ret := (some .int)) (by decide) rfl (Nat.le_of_ble_eq_true rfl) ?_
  intro p e s m below meth c A ls hx hb hr hml hts hown hlk hK hP hD hA hl
  have hown : s.vm.findClass RX2 = some m.cls := hown
  have inX2 : ∀ w ∈ wsX20, w ∈ wsX2_nextToStart := fun w h => List.mem_cons_of_mem _ (List.mem_append_right _ (h))
  have hS : va_S A s.heap s.heap [] := va_S.rf
  have hl : lv_has ls 3 [(0, .ref (q 4)), (1, .int w)] := hl
  refine lv_aload_n hx hb dX2_nextToStart_0 rfl (lv_at hl 0 rfl) ?_
  refine lv_iconst (v := 1) hx hb dX2_nextToStart_1 (by decide) ?_
  refine k_calli (a := []) (z := []) (wc := stW q cI cJ S) (wc' := stW q cI cJ S) (w' := stW q cI cJ S) (va_runV (As := [.int 1]) (rest := []) ⟨hx, hb, hml, hown, hts⟩ (c_X2_firstOff l D q cI cJ S 1 n hn hn6 H.size) (cwV 1 hts gX2_nextToStart_X2_firstOff rfl rfl rfl (by decide +kernel) ⟨Nat.le_of_ble_eq_true rfl, Nat.le_of_ble_eq_true rfl⟩) ⟨kB_blind, va_recv hK hP (ci := 2) (q0 := 4) rfl rfl, k_pre (a := []) (z := []) (k_w0 _) hK hP hD⟩ rfl rfl hl.1 rfl (lv_room (Nat.le_of_ble_eq_true rfl)) dX2_nextToStart_2 ⟨Nat.zero_le _, Nat.zero_le _⟩) (k_w0 _) (k_w0 _) rfl hP hD hS hA (fun H locs hP hD hS => ?_)
  refine lv_istore_n (lv' := [(2, .int (p_first S n 1)), (0, .ref (q 4)), (1, .int w)]) hx hb dX2_nextToStart_5 rfl hl (by decide) rfl (fun ls hl => ?_)
  refine lv_iload_n hx hb dX2_nextToStart_6 rfl (lv_at hl 0 rfl) ?_
  refine lv_iconst (v := (-1)) hx hb dX2_nextToStart_7 (by decide) ?_
  refine lv_icmp_ne (tgt := 23) hx hb dX2_nextToStart_8 (by decide) (fun c_8_0 => ?_) (fun c_8_0 => ?_)
  · refine lv_iload_n hx hb dX2_nextToStart_23 rfl (lv_at hl 0 rfl) ?_
    exact k_iret hx hb hr hlk hP hS dX2_nextToStart_24 rfl (by first | rfl | (simp only [p_next, c_8_0]; done) | (simp [p_next, c_8_0]; done)) (fun h => h)
  · refine lv_iload_n hx hb dX2_nextToStart_11 rfl (lv_at hl 2 rfl) ?_
    refine lv_if_eq (tgt := 23) hx hb dX2_nextToStart_12 (by decide) (fun c_12_1 => ?_) (fun c_12_1 => ?_)
    · refine lv_iload_n hx hb dX2_nextToStart_23 rfl (lv_at hl 0 rfl) ?_
      exact k_iret hx hb hr hlk hP hS dX2_nextToStart_24 rfl (by first | rfl | (simp only [p_next, c_8_0, c_12_1]; done) | (simp [p_next, c_8_0, c_12_1]; done)) (fun h => h)
    · refine lv_aload_n hx hb dX2_nextToStart_15 rfl (lv_at hl 1 rfl) ?_
      refine lv_iconst (v := 0) hx hb dX2_nextToStart_16 (by decide) ?_
      refine k_calli (a := []) (z := []) (wc := stW q cI cJ S) (wc' := stW q cI cJ S) (w' := stW q cI cJ S) (va_runV (As := [.int 0]) (rest := []) ⟨hx, hb, hml, hown, hts⟩ (c_X2_firstOff l D q cI cJ S 0 n hn hn6 H.size) (cwV 1 hts gX2_nextToStart_X2_firstOff rfl rfl rfl (by decide +kernel) ⟨Nat.le_of_ble_eq_true rfl, Nat.le_of_ble_eq_true rfl⟩) ⟨kB_blind, va_recv hK hP (ci := 2) (q0 := 4) rfl rfl, k_pre (a := []) (z := []) (k_w0 _) hK hP hD⟩ rfl rfl hl.1 rfl (lv_room (Nat.le_of_ble_eq_true rfl)) dX2_nextToStart_17 ⟨Nat.zero_le _, Nat.zero_le _⟩) (k_w0 _) (k_w0 _) rfl hP hD hS hA (fun H locs hP hD hS => ?_)
      refine lv_goto (tgt := 24) hx hb dX2_nextToStart_20 (by decide) ?_
      exact k_iret hx hb hr hlk hP hS dX2_nextToStart_24 rfl (by first | rfl | (simp only [p_next, c_8_0, c_12_1]; done) | (simp [p_next, c_8_0, c_12_1]; done)) (fun h => h)

set_option maxHeartbeats 4000000 in
set_option maxRecDepth 100000 in
theorem c_X2_start (l : Launch) (D : va_G) (q : Nat → Nat) (cI cJ : ClassId) (S : SS) (w : Int32) (n : Nat) (hn : S.1 8 = nI n) (hn6 : n ≤ 6) : kI l yX2_start wsX2_start ({ frames := 1, cells := 0, slots := 0, locals := 21 } : Room) D [(cI, .int), (cJ, .long)] [.ref (q 4), .int w] (stW q cI cJ S) (bi (p_breaks S w)) (stW q cI cJ (p_start S w)) := by
  refine kBody.met (cc := cX2_start) (maxL := 3) (ret := (some .boolean)) (by decide) rfl (Nat.le_of_ble_eq_true rfl) ?_
  intro p e s m below meth c A ls hx hb hr hml hts hown hlk hK hP hD hA hl
  have hown : s.vm.findClass RX2 = some m.cls := hown
  have inX2 : ∀ w ∈ wsX20, w ∈ wsX2_start := fun w h => List.mem_cons_of_mem _ (List.mem_append_right _ (h))
  have hS : va_S A s.heap s.heap [] := va_S.rf
  have hl : lv_has ls 3 [(0, .ref (q 4)), (1, .int w)] := hl
  refine lv_aload_n hx hb dX2_start_0 rfl (lv_at hl 0 rfl) ?_
  refine lv_iload_n hx hb dX2_start_1 rfl (lv_at hl 1 rfl) ?_
  refine k_calli (a := []) (z := []) (wc := stW q cI cJ S) (wc' := stW q cI cJ S) (w' := stW q cI cJ S) (va_runV (As := [.int w]) (rest := []) ⟨hx, hb, hml, hown, hts⟩ (c_X2_has l D q cI cJ S w H.size) (cwV 1 hts gX2_start_X2_has rfl rfl rfl (by decide +kernel) ⟨Nat.le_of_ble_eq_true rfl, Nat.le_of_ble_eq_true rfl⟩) ⟨kB_blind, va_recv hK hP (ci := 2) (q0 := 4) rfl rfl, k_pre (a := []) (z := []) (k_w0 _) hK hP hD⟩ rfl rfl hl.1 rfl (lv_room (Nat.le_of_ble_eq_true rfl)) dX2_start_2 ⟨Nat.zero_le _, Nat.zero_le _⟩) (k_w0 _) (k_w0 _) rfl hP hD hS hA (fun H locs hP hD hS => ?_)
  refine lv_if_ne (tgt := 10) hx hb dX2_start_5 (by decide) (fun c_5_0 => ?_) (fun c_5_0 => ?_)
  · have c_5_0 : (p_has S w) = true := bi_n.mp c_5_0
    have hin := p_hasIn c_5_0 hn hn6
    refine lv_aload_n hx hb dX2_start_10 rfl (lv_at hl 0 rfl) ?_
    refine va_get (D := D) (ci := 2) (v := .ref (q 9)) (C := RX2) (T := TX2) (N := 9) hx hb hts inX2 hown hK hP 4 rfl rfl 5 (by decide) (hts (.fieldLink RX2 24 "PumpOaths$Pumps" "hourStarts" "[I") (List.mem_of_getElem? (i := 1) rfl)) (fun _ h9 => h9) rfl dX2_start_11 ?_
    refine lv_iload_n hx hb dX2_start_14 rfl (lv_at hl 1 rfl) ?_
    refine va_iald hx hb hK hP 9 0 rfl rfl (hin) dX2_start_15 ?_
    refine lv_aload_n hx hb dX2_start_16 rfl (lv_at hl 0 rfl) ?_
    refine va_get (D := D) (ci := 2) (v := .ref (q 6)) (C := RX2) (T := TX2) (N := 9) hx hb hts inX2 hown hK hP 4 rfl rfl 2 (by decide) (hts (.fieldLink RX2 15 "PumpOaths$Pumps" "oath" "[I") (List.mem_of_getElem? (i := 2) rfl)) (fun _ h9 => h9) rfl dX2_start_17 ?_
    refine lv_iload_n hx hb dX2_start_20 rfl (lv_at hl 1 rfl) ?_
    refine va_iald hx hb hK hP 6 0 rfl rfl (hin) dX2_start_21 ?_
    refine lv_icmp_lt (tgt := 29) hx hb dX2_start_22 (by decide) (fun c_22_1 => ?_) (fun c_22_1 => ?_)
    · refine lv_iconst (v := 0) hx hb dX2_start_29 (by decide) ?_
      refine lv_istore_n (lv' := [(2, .int 0), (0, .ref (q 4)), (1, .int w)]) hx hb dX2_start_30 rfl hl (by decide) rfl (fun ls hl => ?_)
      refine lv_aload_n hx hb dX2_start_31 rfl (lv_at hl 1 rfl) ?_
      refine va_get (D := D) (ci := 2) (v := .ref (q 7)) (C := RX2) (T := TX2) (N := 9) hx hb hts inX2 hown hK hP 4 rfl rfl 3 (by decide) (hts (.fieldLink RX2 18 "PumpOaths$Pumps" "mode" "[I") (List.mem_of_getElem? (i := 3) rfl)) (fun _ h9 => h9) rfl dX2_start_32 ?_
      refine lv_iload_n hx hb dX2_start_35 rfl (lv_at hl 2 rfl) ?_
      refine lv_iconst (v := 1) hx hb dX2_start_36 (by decide) ?_
      refine va_iast hx hb hK hP hD hS 7 0 rfl rfl (hin) dX2_start_37 (fun H locs hP hD hS => ?_)
      have hP : va_P D vwCl (stW q cI cJ (setA S 4 (upd (S.2.2.1 4) w.toNatClampNeg 1))) H := hP
      have hD : va_D A (stW q cI cJ (setA S 4 (upd (S.2.2.1 4) w.toNatClampNeg 1))) := hD
      refine lv_aload_n hx hb dX2_start_38 rfl (lv_at hl 1 rfl) ?_
      refine va_get (D := D) (ci := 2) (v := .ref (q 9)) (C := RX2) (T := TX2) (N := 9) hx hb hts inX2 hown hK hP 4 rfl rfl 5 (by decide) (hts (.fieldLink RX2 24 "PumpOaths$Pumps" "hourStarts" "[I") (List.mem_of_getElem? (i := 1) rfl)) (fun _ h9 => h9) rfl dX2_start_39 ?_
      refine lv_iload_n hx hb dX2_start_42 rfl (lv_at hl 2 rfl) ?_
      refine lv_dup2_11 hx hb dX2_start_43 rfl rfl ?_
      refine va_iald hx hb hK hP 9 0 rfl rfl (hin) dX2_start_44 ?_
      refine lv_iconst (v := 1) hx hb dX2_start_45 (by decide) ?_
      refine lv_iadd hx hb dX2_start_46 ?_
      refine va_iast hx hb hK hP hD hS 9 0 rfl rfl (hin) dX2_start_47 (fun H locs hP hD hS => ?_)
      have hP : va_P D vwCl (stW q cI cJ (setA (setA S 4 (upd (S.2.2.1 4) w.toNatClampNeg 1)) 6 (upd (S.2.2.1 6) w.toNatClampNeg (((S.2.2.1 6) w.toNatClampNeg) + 1)))) H := hP
      have hD : va_D A (stW q cI cJ (setA (setA S 4 (upd (S.2.2.1 4) w.toNatClampNeg 1)) 6 (upd (S.2.2.1 6) w.toNatClampNeg (((S.2.2.1 6) w.toNatClampNeg) + 1)))) := hD
      refine lv_aload_n hx hb dX2_start_48 rfl (lv_at hl 1 rfl) ?_
      refine va_get (D := D) (ci := 2) (v := .ref (q 10)) (C := RX2) (T := TX2) (N := 9) hx hb hts inX2 hown hK hP 4 rfl rfl 6 (by decide) (hts (.fieldLink RX2 27 "PumpOaths$Pumps" "starts" "[I") (List.mem_of_getElem? (i := 4) rfl)) (fun _ h9 => h9) rfl dX2_start_49 ?_
      refine lv_iload_n hx hb dX2_start_52 rfl (lv_at hl 2 rfl) ?_
      refine lv_dup2_11 hx hb dX2_start_53 rfl rfl ?_
      refine va_iald hx hb hK hP 10 0 rfl rfl (hin) dX2_start_54 ?_
      refine lv_iconst (v := 1) hx hb dX2_start_55 (by decide) ?_
      refine lv_iadd hx hb dX2_start_56 ?_
      refine va_iast hx hb hK hP hD hS 10 0 rfl rfl (hin) dX2_start_57 (fun H locs hP hD hS => ?_)
      have hP : va_P D vwCl (stW q cI cJ (setA (setA (setA S 4 (upd (S.2.2.1 4) w.toNatClampNeg 1)) 6 (upd (S.2.2.1 6) w.toNatClampNeg (((S.2.2.1 6) w.toNatClampNeg) + 1))) 7 (upd (S.2.2.1 7) w.toNatClampNeg (((S.2.2.1 7) w.toNatClampNeg) + 1)))) H := hP
      have hD : va_D A (stW q cI cJ (setA (setA (setA S 4 (upd (S.2.2.1 4) w.toNatClampNeg 1)) 6 (upd (S.2.2.1 6) w.toNatClampNeg (((S.2.2.1 6) w.toNatClampNeg) + 1))) 7 (upd (S.2.2.1 7) w.toNatClampNeg (((S.2.2.1 7) w.toNatClampNeg) + 1)))) := hD
      refine lv_iload_n hx hb dX2_start_58 rfl (lv_at hl 0 rfl) ?_
      refine lv_if_eq (tgt := 72) hx hb dX2_start_59 (by decide) (fun _ => ?_) (fun h => absurd h (by decide))
      refine lv_iload_n hx hb dX2_start_72 rfl (lv_at hl 0 rfl) ?_
      exact k_iret hx hb hr hlk hP hS dX2_start_73 rfl (by simp [p_breaks, bi, c_5_0, c_22_1]) (k_P (by simp [p_start, p_start1, c_5_0, c_22_1]))
    · refine lv_iconst (v := 1) hx hb dX2_start_25 (by decide) ?_
      refine lv_goto (tgt := 30) hx hb dX2_start_26 (by decide) ?_
      refine lv_istore_n (lv' := [(2, .int 1), (0, .ref (q 4)), (1, .int w)]) hx hb dX2_start_30 rfl hl (by decide) rfl (fun ls hl => ?_)
      refine lv_aload_n hx hb dX2_start_31 rfl (lv_at hl 1 rfl) ?_
      refine va_get (D := D) (ci := 2) (v := .ref (q 7)) (C := RX2) (T := TX2) (N := 9) hx hb hts inX2 hown hK hP 4 rfl rfl 3 (by decide) (hts (.fieldLink RX2 18 "PumpOaths$Pumps" "mode" "[I") (List.mem_of_getElem? (i := 3) rfl)) (fun _ h9 => h9) rfl dX2_start_32 ?_
      refine lv_iload_n hx hb dX2_start_35 rfl (lv_at hl 2 rfl) ?_
      refine lv_iconst (v := 1) hx hb dX2_start_36 (by decide) ?_
      refine va_iast hx hb hK hP hD hS 7 0 rfl rfl (hin) dX2_start_37 (fun H locs hP hD hS => ?_)
      have hP : va_P D vwCl (stW q cI cJ (setA S 4 (upd (S.2.2.1 4) w.toNatClampNeg 1))) H := hP
      have hD : va_D A (stW q cI cJ (setA S 4 (upd (S.2.2.1 4) w.toNatClampNeg 1))) := hD
      refine lv_aload_n hx hb dX2_start_38 rfl (lv_at hl 1 rfl) ?_
      refine va_get (D := D) (ci := 2) (v := .ref (q 9)) (C := RX2) (T := TX2) (N := 9) hx hb hts inX2 hown hK hP 4 rfl rfl 5 (by decide) (hts (.fieldLink RX2 24 "PumpOaths$Pumps" "hourStarts" "[I") (List.mem_of_getElem? (i := 1) rfl)) (fun _ h9 => h9) rfl dX2_start_39 ?_
      refine lv_iload_n hx hb dX2_start_42 rfl (lv_at hl 2 rfl) ?_
      refine lv_dup2_11 hx hb dX2_start_43 rfl rfl ?_
      refine va_iald hx hb hK hP 9 0 rfl rfl (hin) dX2_start_44 ?_
      refine lv_iconst (v := 1) hx hb dX2_start_45 (by decide) ?_
      refine lv_iadd hx hb dX2_start_46 ?_
      refine va_iast hx hb hK hP hD hS 9 0 rfl rfl (hin) dX2_start_47 (fun H locs hP hD hS => ?_)
      have hP : va_P D vwCl (stW q cI cJ (setA (setA S 4 (upd (S.2.2.1 4) w.toNatClampNeg 1)) 6 (upd (S.2.2.1 6) w.toNatClampNeg (((S.2.2.1 6) w.toNatClampNeg) + 1)))) H := hP
      have hD : va_D A (stW q cI cJ (setA (setA S 4 (upd (S.2.2.1 4) w.toNatClampNeg 1)) 6 (upd (S.2.2.1 6) w.toNatClampNeg (((S.2.2.1 6) w.toNatClampNeg) + 1)))) := hD
      refine lv_aload_n hx hb dX2_start_48 rfl (lv_at hl 1 rfl) ?_
      refine va_get (D := D) (ci := 2) (v := .ref (q 10)) (C := RX2) (T := TX2) (N := 9) hx hb hts inX2 hown hK hP 4 rfl rfl 6 (by decide) (hts (.fieldLink RX2 27 "PumpOaths$Pumps" "starts" "[I") (List.mem_of_getElem? (i := 4) rfl)) (fun _ h9 => h9) rfl dX2_start_49 ?_
      refine lv_iload_n hx hb dX2_start_52 rfl (lv_at hl 2 rfl) ?_
      refine lv_dup2_11 hx hb dX2_start_53 rfl rfl ?_
      refine va_iald hx hb hK hP 10 0 rfl rfl (hin) dX2_start_54 ?_
      refine lv_iconst (v := 1) hx hb dX2_start_55 (by decide) ?_
      refine lv_iadd hx hb dX2_start_56 ?_
      refine va_iast hx hb hK hP hD hS 10 0 rfl rfl (hin) dX2_start_57 (fun H locs hP hD hS => ?_)
      have hP : va_P D vwCl (stW q cI cJ (setA (setA (setA S 4 (upd (S.2.2.1 4) w.toNatClampNeg 1)) 6 (upd (S.2.2.1 6) w.toNatClampNeg (((S.2.2.1 6) w.toNatClampNeg) + 1))) 7 (upd (S.2.2.1 7) w.toNatClampNeg (((S.2.2.1 7) w.toNatClampNeg) + 1)))) H := hP
      have hD : va_D A (stW q cI cJ (setA (setA (setA S 4 (upd (S.2.2.1 4) w.toNatClampNeg 1)) 6 (upd (S.2.2.1 6) w.toNatClampNeg (((S.2.2.1 6) w.toNatClampNeg) + 1))) 7 (upd (S.2.2.1 7) w.toNatClampNeg (((S.2.2.1 7) w.toNatClampNeg) + 1)))) := hD
      refine lv_iload_n hx hb dX2_start_58 rfl (lv_at hl 0 rfl) ?_
      refine lv_if_eq (tgt := 72) hx hb dX2_start_59 (by decide) (fun h => absurd h (by decide)) (fun _ => ?_)
      refine lv_aload_n hx hb dX2_start_62 rfl (lv_at hl 1 rfl) ?_
      refine va_get (D := D) (ci := 2) (v := .ref (q 12)) (C := RX2) (T := TX2) (N := 9) hx hb hts inX2 hown hK hP 4 rfl rfl 8 (by decide) (hts (.fieldLink RX2 33 "PumpOaths$Pumps" "broken" "[I") (List.mem_of_getElem? (i := 5) rfl)) (fun _ h9 => h9) rfl dX2_start_63 ?_
      refine lv_iload_n hx hb dX2_start_66 rfl (lv_at hl 2 rfl) ?_
      refine lv_dup2_11 hx hb dX2_start_67 rfl rfl ?_
      refine va_iald hx hb hK hP 12 0 rfl rfl (hin) dX2_start_68 ?_
      refine lv_iconst (v := 1) hx hb dX2_start_69 (by decide) ?_
      refine lv_iadd hx hb dX2_start_70 ?_
      refine va_iast hx hb hK hP hD hS 12 0 rfl rfl (hin) dX2_start_71 (fun H locs hP hD hS => ?_)
      have hP : va_P D vwCl (stW q cI cJ (setA (setA (setA (setA S 4 (upd (S.2.2.1 4) w.toNatClampNeg 1)) 6 (upd (S.2.2.1 6) w.toNatClampNeg (((S.2.2.1 6) w.toNatClampNeg) + 1))) 7 (upd (S.2.2.1 7) w.toNatClampNeg (((S.2.2.1 7) w.toNatClampNeg) + 1))) 9 (upd (S.2.2.1 9) w.toNatClampNeg (((S.2.2.1 9) w.toNatClampNeg) + 1)))) H := hP
      have hD : va_D A (stW q cI cJ (setA (setA (setA (setA S 4 (upd (S.2.2.1 4) w.toNatClampNeg 1)) 6 (upd (S.2.2.1 6) w.toNatClampNeg (((S.2.2.1 6) w.toNatClampNeg) + 1))) 7 (upd (S.2.2.1 7) w.toNatClampNeg (((S.2.2.1 7) w.toNatClampNeg) + 1))) 9 (upd (S.2.2.1 9) w.toNatClampNeg (((S.2.2.1 9) w.toNatClampNeg) + 1)))) := hD
      refine lv_iload_n hx hb dX2_start_72 rfl (lv_at hl 0 rfl) ?_
      exact k_iret hx hb hr hlk hP hS dX2_start_73 rfl (by simp [p_breaks, bi, c_5_0, c_22_1]) (k_P (by simp [p_start, p_start1, c_5_0, c_22_1]))
  · have c_5_0 : (p_has S w) = false := bi_0.mp c_5_0
    refine lv_iconst (v := 0) hx hb dX2_start_8 (by decide) ?_
    exact k_iret hx hb hr hlk hP hS dX2_start_9 rfl (by simp [p_breaks, bi, c_5_0]) (k_P (by simp [p_start, p_start1, c_5_0]))

set_option maxHeartbeats 4000000 in
set_option maxRecDepth 100000 in
theorem c_X2_runMinute (l : Launch) (D : va_G) (q : Nat → Nat) (cI cJ : ClassId) (S : SS) (n : Nat) (hn : S.1 8 = nI n) (hn6 : n ≤ 6) : kI l yX2_runMinute wsX2_runMinute ({ frames := 0, cells := 0, slots := 0, locals := 0 } : Room) D [(cI, .int), (cJ, .long)] [.ref (q 4)] (stW q cI cJ S) ((p_runR S n).2) (stW q cI cJ (setA S 8 (p_runR S n).1)) := by
  refine kBody.met (cc := cX2_runMinute) (maxL := 3) (ret := (some .int)) (by decide) rfl (Nat.le_of_ble_eq_true rfl) ?_
  intro p e s m below meth c A ls hx hb hr hml hts hown hlk hK hP hD hA hl
  have hown : s.vm.findClass RX2 = some m.cls := hown
  have inX2 : ∀ w ∈ wsX20, w ∈ wsX2_runMinute := fun w h => List.mem_cons_of_mem _ (List.mem_append_right _ (h))
  have hS : va_S A s.heap s.heap [] := va_S.rf
  have hl : lv_has ls 3 [(0, .ref (q 4))] := hl
  refine lv_iconst (v := 0) hx hb dX2_runMinute_0 (by decide) ?_
  refine lv_istore_n (lv' := [(1, .int 0), (0, .ref (q 4))]) hx hb dX2_runMinute_1 rfl hl (by decide) rfl (fun ls hl => ?_)
  refine lv_iconst (v := 0) hx hb dX2_runMinute_2 (by decide) ?_
  refine lv_istore_n (lv' := [(2, .int 0), (1, .int 0), (0, .ref (q 4))]) hx hb dX2_runMinute_3 rfl hl (by decide) rfl (fun ls hl => ?_)
  have L_4_0 : ∀ (d : Nat) (k : Nat) (f : Nat → Int32) (x : Int32), n < k + d → k ≤ n → ∀  (e4 : itr (p_runB S) k (S.2.2.1 8, 0) = (f, x)) (H : Heap) (locs : List Loc) (ls : Array Slot), va_P D vwCl (stW q cI cJ (setA S 8 f)) H → va_D A (stW q cI cJ (setA S 8 f)) → va_S A s.heap H locs → lv_has ls 3 [(0, .ref (q 4)), (1, .int x), (2, .int (nI k))] → W p l e ({ frames := 0, cells := 0, slots := 0, locals := 0 } : Room) s m (List.toArray [.ref (q 4)]) below meth c H locs 0 0 (MQ below (va_Qi (fun r (_ : Unit) => r = ((p_runR S n).2)) (fun _ t => va_P D vwCl (stW q cI cJ (setA S 8 (p_runR S n).1)) t.heap) A) (List.toArray [.ref (q 4)]) s 0 0 A) (F0 m 4 ls []) := by
    intro d
    induction d with
    | zero =>
      intro k f x hf
      intro hkn; exact absurd hf (by omega)
    | succ d ih_4 =>
      intro k f x hf_4 hkn_4 e4 H locs ls hP hD hS hl
      refine lv_iload_n hx hb dX2_runMinute_4 rfl (lv_at hl 2 rfl) ?_
      refine lv_aload_n hx hb dX2_runMinute_5 rfl (lv_at hl 0 rfl) ?_
      refine va_get (D := D) (ci := 2) (v := .int (S.1 8)) (C := RX2) (T := TX2) (N := 9) hx hb hts inX2 hown hK hP 4 rfl rfl 0 (by decide) (hts (.fieldLink RX2 36 "PumpOaths$Pumps" "count" "I") (List.mem_of_getElem? (i := 1) rfl)) (fun _ h9 => h9) rfl dX2_runMinute_6 ?_
      refine lv_icmp_ge (tgt := 47) hx hb dX2_runMinute_9 (by decide) (fun c_9_1 => ?_) (fun c_9_1 => ?_)
      · have hke_4 : n = k := (k_exitN c_9_1 hn hkn_4 (by omega)).symm
        subst hke_4
        refine lv_iload_n hx hb dX2_runMinute_47 rfl (lv_at hl 1 rfl) ?_
        exact k_iret hx hb hr hlk hP hS dX2_runMinute_48 rfl (by rw [p_runR, e4]) (k_P (by rw [p_runR, e4]))
      · have hkl_4 : k < n := k_bodyN c_9_1 hn hkn_4 (by omega)
        refine lv_aload_n hx hb dX2_runMinute_12 rfl (lv_at hl 0 rfl) ?_
        refine va_get (D := D) (ci := 2) (v := .ref (q 7)) (C := RX2) (T := TX2) (N := 9) hx hb hts inX2 hown hK hP 4 rfl rfl 3 (by decide) (hts (.fieldLink RX2 18 "PumpOaths$Pumps" "mode" "[I") (List.mem_of_getElem? (i := 2) rfl)) (fun _ h9 => h9) rfl dX2_runMinute_13 ?_
        refine lv_iload_n hx hb dX2_runMinute_16 rfl (lv_at hl 2 rfl) ?_
        refine va_iald hx hb hK hP 7 0 rfl rfl (k_in (k := k) rfl (by omega) (by decide)) dX2_runMinute_17 ?_
        rw [show (nI k).toNatClampNeg = k from nI_clamp (by omega)]
        refine lv_iconst (v := 1) hx hb dX2_runMinute_18 (by decide) ?_
        refine lv_icmp_ne (tgt := 41) hx hb dX2_runMinute_19 (by decide) (fun c_19_2 => ?_) (fun c_19_2 => ?_)
        · refine lv_iinc (v := (nI k) + 1) (lv' := [(2, .int ((nI k) + 1)), (0, .ref (q 4)), (1, .int x)]) hx hb dX2_runMinute_41 hl (k := 2) rfl rfl (by decide) rfl (fun ls hl => ?_)
          refine lv_goto (tgt := 4) hx hb dX2_runMinute_44 (by decide) ?_
          rw [show ((nI k) + 1) = (nI (k + 1)) from nI_1 _] at hl
          exact ih_4 (k + 1) f x (by omega) (by omega) (by rw [itr_s, e4]; simp [p_runB, c_9_1, c_19_2]) _ _ _ hP hD hS (lv_sub hl [1, 2, 0] rfl)
        · refine lv_aload_n hx hb dX2_runMinute_22 rfl (lv_at hl 0 rfl) ?_
          refine va_get (D := D) (ci := 2) (v := .ref (q 11)) (C := RX2) (T := TX2) (N := 9) hx hb hts inX2 hown hK hP 4 rfl rfl 7 (by decide) (hts (.fieldLink RX2 30 "PumpOaths$Pumps" "minutes" "[I") (List.mem_of_getElem? (i := 3) rfl)) (fun _ h9 => h9) rfl dX2_runMinute_23 ?_
          refine lv_iload_n hx hb dX2_runMinute_26 rfl (lv_at hl 2 rfl) ?_
          refine lv_dup2_11 hx hb dX2_runMinute_27 rfl rfl ?_
          refine va_iald hx hb hK hP 11 0 rfl rfl (k_in (k := k) rfl (by omega) (by decide)) dX2_runMinute_28 ?_
          rw [show (nI k).toNatClampNeg = k from nI_clamp (by omega)]
          refine lv_iconst (v := 1) hx hb dX2_runMinute_29 (by decide) ?_
          refine lv_iadd hx hb dX2_runMinute_30 ?_
          refine va_iast hx hb hK hP hD hS 11 0 rfl rfl (k_in (k := k) rfl (by omega) (by decide)) dX2_runMinute_31 (fun H locs hP hD hS => ?_)
          rw [show (nI k).toNatClampNeg = k from nI_clamp (by omega)] at hP hD
          have hP : va_P D vwCl (stW q cI cJ (setA S 8 (upd f k ((f k) + 1)))) H := hP
          have hD : va_D A (stW q cI cJ (setA S 8 (upd f k ((f k) + 1)))) := hD
          refine lv_iload_n hx hb dX2_runMinute_32 rfl (lv_at hl 1 rfl) ?_
          refine lv_aload_n hx hb dX2_runMinute_33 rfl (lv_at hl 0 rfl) ?_
          refine va_get (D := D) (ci := 2) (v := .ref (q 5)) (C := RX2) (T := TX2) (N := 9) hx hb hts inX2 hown hK hP 4 rfl rfl 1 (by decide) (hts (.fieldLink RX2 11 "PumpOaths$Pumps" "capacity" "[I") (List.mem_of_getElem? (i := 4) rfl)) (fun _ h9 => h9) rfl dX2_runMinute_34 ?_
          refine lv_iload_n hx hb dX2_runMinute_37 rfl (lv_at hl 2 rfl) ?_
          refine va_iald hx hb hK hP 5 0 rfl rfl (k_in (k := k) rfl (by omega) (by decide)) dX2_runMinute_38 ?_
          rw [show (nI k).toNatClampNeg = k from nI_clamp (by omega)]
          refine lv_iadd hx hb dX2_runMinute_39 ?_
          refine lv_istore_n (lv' := [(1, .int (x + ((S.2.2.1 2) k))), (0, .ref (q 4)), (2, .int (nI k))]) hx hb dX2_runMinute_40 rfl hl (by decide) rfl (fun ls hl => ?_)
          refine lv_iinc (v := (nI k) + 1) (lv' := [(2, .int ((nI k) + 1)), (1, .int (x + ((S.2.2.1 2) k))), (0, .ref (q 4))]) hx hb dX2_runMinute_41 hl (k := 2) rfl rfl (by decide) rfl (fun ls hl => ?_)
          refine lv_goto (tgt := 4) hx hb dX2_runMinute_44 (by decide) ?_
          rw [show ((nI k) + 1) = (nI (k + 1)) from nI_1 _] at hl
          exact ih_4 (k + 1) (upd f k ((f k) + 1)) (x + ((S.2.2.1 2) k)) (by omega) (by omega) (by rw [itr_s, e4]; simp [p_runB, c_9_1, c_19_2]) _ _ _ hP hD hS (lv_sub hl [2, 1, 0] rfl)
  exact L_4_0 (n + 1) 0 (S.2.2.1 8) 0 (by omega) (by omega) (rfl) _ _ _ hP hD hS (lv_sub hl [2, 1, 0] rfl)

set_option maxHeartbeats 4000000 in
set_option maxRecDepth 100000 in
theorem c_X2_join (l : Launch) (D : va_G) (q : Nat → Nat) (cI cJ : ClassId) (S : SS) (a b : Int32) (n : Nat) (hn : S.1 8 = nI n) (hn6 : n ≤ 6) : kI l yX2_join wsX2_join ({ frames := 0, cells := 0, slots := 0, locals := 0 } : Room) D [(cI, .int), (cJ, .long)] [.ref (q 4), .int a, .int b] (stW q cI cJ S) (p_joinR S) (stW q cI cJ (p_join S a b)) := by
  refine kBody.met (cc := cX2_join) (maxL := 4) (ret := (some .int)) (by decide) rfl (Nat.le_of_ble_eq_true rfl) ?_
  intro p e s m below meth c A ls hx hb hr hml hts hown hlk hK hP hD hA hl
  have hown : s.vm.findClass RX2 = some m.cls := hown
  have inX2 : ∀ w ∈ wsX20, w ∈ wsX2_join := fun w h => List.mem_cons_of_mem _ (List.mem_append_right _ (h))
  have hS : va_S A s.heap s.heap [] := va_S.rf
  have hl : lv_has ls 4 [(0, .ref (q 4)), (1, .int a), (2, .int b)] := hl
  refine lv_aload_n hx hb dX2_join_0 rfl (lv_at hl 0 rfl) ?_
  refine va_get (D := D) (ci := 2) (v := .int (S.1 8)) (C := RX2) (T := TX2) (N := 9) hx hb hts inX2 hown hK hP 4 rfl rfl 0 (by decide) (hts (.fieldLink RX2 36 "PumpOaths$Pumps" "count" "I") (List.mem_of_getElem? (i := 1) rfl)) (fun _ h9 => h9) rfl dX2_join_1 ?_
  refine lv_istore_n (lv' := [(3, .int (S.1 8)), (0, .ref (q 4)), (1, .int a), (2, .int b)]) hx hb dX2_join_4 rfl hl (by decide) rfl (fun ls hl => ?_)
  refine lv_iload_n hx hb dX2_join_5 rfl (lv_at hl 0 rfl) ?_
  refine lv_bipush (v := 6) hx hb dX2_join_6 (by decide) ?_
  refine lv_icmp_lt (tgt := 13) hx hb dX2_join_8 (by decide) (fun c_8_0 => ?_) (fun c_8_0 => ?_)
  · have hin : vp_in (S.1 8) 6 := by
      rw [hn] at c_8_0 ⊢
      exact vp_in_nI ((nI_ltI (by omega) (by decide)).mp (show nI n < nI 6 from c_8_0)) (by decide)
    refine lv_aload_n hx hb dX2_join_13 rfl (lv_at hl 1 rfl) ?_
    refine va_get (D := D) (ci := 2) (v := .ref (q 5)) (C := RX2) (T := TX2) (N := 9) hx hb hts inX2 hown hK hP 4 rfl rfl 1 (by decide) (hts (.fieldLink RX2 11 "PumpOaths$Pumps" "capacity" "[I") (List.mem_of_getElem? (i := 2) rfl)) (fun _ h9 => h9) rfl dX2_join_14 ?_
    refine lv_iload_n hx hb dX2_join_17 rfl (lv_at hl 0 rfl) ?_
    refine lv_iload_n hx hb dX2_join_18 rfl (lv_at hl 2 rfl) ?_
    refine va_iast hx hb hK hP hD hS 5 0 rfl rfl (hin) dX2_join_19 (fun H locs hP hD hS => ?_)
    have hP : va_P D vwCl (stW q cI cJ (setA S 2 (upd (S.2.2.1 2) ((S.1 8).toNatClampNeg) a))) H := hP
    have hD : va_D A (stW q cI cJ (setA S 2 (upd (S.2.2.1 2) ((S.1 8).toNatClampNeg) a))) := hD
    refine lv_aload_n hx hb dX2_join_20 rfl (lv_at hl 1 rfl) ?_
    refine va_get (D := D) (ci := 2) (v := .ref (q 6)) (C := RX2) (T := TX2) (N := 9) hx hb hts inX2 hown hK hP 4 rfl rfl 2 (by decide) (hts (.fieldLink RX2 15 "PumpOaths$Pumps" "oath" "[I") (List.mem_of_getElem? (i := 3) rfl)) (fun _ h9 => h9) rfl dX2_join_21 ?_
    refine lv_iload_n hx hb dX2_join_24 rfl (lv_at hl 0 rfl) ?_
    refine lv_iload_n hx hb dX2_join_25 rfl (lv_at hl 3 rfl) ?_
    refine va_iast hx hb hK hP hD hS 6 0 rfl rfl (hin) dX2_join_26 (fun H locs hP hD hS => ?_)
    have hP : va_P D vwCl (stW q cI cJ (setA (setA S 2 (upd (S.2.2.1 2) ((S.1 8).toNatClampNeg) a)) 3 (upd (S.2.2.1 3) ((S.1 8).toNatClampNeg) b))) H := hP
    have hD : va_D A (stW q cI cJ (setA (setA S 2 (upd (S.2.2.1 2) ((S.1 8).toNatClampNeg) a)) 3 (upd (S.2.2.1 3) ((S.1 8).toNatClampNeg) b))) := hD
    refine lv_aload_n hx hb dX2_join_27 rfl (lv_at hl 1 rfl) ?_
    refine va_get (D := D) (ci := 2) (v := .ref (q 8)) (C := RX2) (T := TX2) (N := 9) hx hb hts inX2 hown hK hP 4 rfl rfl 4 (by decide) (hts (.fieldLink RX2 21 "PumpOaths$Pumps" "place" "[I") (List.mem_of_getElem? (i := 4) rfl)) (fun _ h9 => h9) rfl dX2_join_28 ?_
    refine lv_iload_n hx hb dX2_join_31 rfl (lv_at hl 0 rfl) ?_
    refine lv_iload_n hx hb dX2_join_32 rfl (lv_at hl 0 rfl) ?_
    refine va_iast hx hb hK hP hD hS 8 0 rfl rfl (hin) dX2_join_33 (fun H locs hP hD hS => ?_)
    have hP : va_P D vwCl (stW q cI cJ (setA (setA (setA S 2 (upd (S.2.2.1 2) ((S.1 8).toNatClampNeg) a)) 3 (upd (S.2.2.1 3) ((S.1 8).toNatClampNeg) b)) 5 (upd (S.2.2.1 5) ((S.1 8).toNatClampNeg) (S.1 8)))) H := hP
    have hD : va_D A (stW q cI cJ (setA (setA (setA S 2 (upd (S.2.2.1 2) ((S.1 8).toNatClampNeg) a)) 3 (upd (S.2.2.1 3) ((S.1 8).toNatClampNeg) b)) 5 (upd (S.2.2.1 5) ((S.1 8).toNatClampNeg) (S.1 8)))) := hD
    refine lv_aload_n hx hb dX2_join_34 rfl (lv_at hl 1 rfl) ?_
    refine lv_dup hx hb dX2_join_35 rfl ?_
    refine va_get (D := D) (ci := 2) (v := .int (S.1 8)) (C := RX2) (T := TX2) (N := 9) hx hb hts inX2 hown hK hP 4 rfl rfl 0 (by decide) (hts (.fieldLink RX2 36 "PumpOaths$Pumps" "count" "I") (List.mem_of_getElem? (i := 1) rfl)) (fun _ h9 => h9) rfl dX2_join_36 ?_
    refine lv_iconst (v := 1) hx hb dX2_join_39 (by decide) ?_
    refine lv_iadd hx hb dX2_join_40 ?_
    refine va_put (D := D) (ci := 2) (v := .int ((S.1 8) + 1)) (ty := .int) (C := RX2) (T := TX2) (N := 9) hx hb hts inX2 tyX2 tyX2_ok nmX2 hown hK hP hD hS 4 rfl rfl 0 (by decide) (hts (.fieldLink RX2 36 "PumpOaths$Pumps" "count" "I") (List.mem_of_getElem? (i := 1) rfl)) (fun _ h9 => h9) rfl (by decide +kernel) rfl rfl (Nat.le_of_ble_eq_true rfl) dX2_join_41 (fun H locs hP hD hS => ?_)
    have hP : va_P D vwCl (stW q cI cJ (setI (setA (setA (setA S 2 (upd (S.2.2.1 2) ((S.1 8).toNatClampNeg) a)) 3 (upd (S.2.2.1 3) ((S.1 8).toNatClampNeg) b)) 5 (upd (S.2.2.1 5) ((S.1 8).toNatClampNeg) (S.1 8))) 8 ((S.1 8) + 1))) H := hP
    have hD : va_D A (stW q cI cJ (setI (setA (setA (setA S 2 (upd (S.2.2.1 2) ((S.1 8).toNatClampNeg) a)) 3 (upd (S.2.2.1 3) ((S.1 8).toNatClampNeg) b)) 5 (upd (S.2.2.1 5) ((S.1 8).toNatClampNeg) (S.1 8))) 8 ((S.1 8) + 1))) := hD
    refine lv_iload_n hx hb dX2_join_44 rfl (lv_at hl 0 rfl) ?_
    exact k_iret hx hb hr hlk hP hS dX2_join_45 rfl (by simp [p_joinR, c_8_0]) (k_P (by simp [p_join, c_8_0]))
  · refine lv_iconst (v := (-1)) hx hb dX2_join_11 (by decide) ?_
    exact k_iret hx hb hr hlk hP hS dX2_join_12 rfl (by simp [p_joinR, c_8_0]) (k_P (by simp [p_join, c_8_0]))

set_option maxHeartbeats 4000000 in
set_option maxRecDepth 100000 in
theorem c_X2_fact (l : Launch) (D : va_G) (q : Nat → Nat) (cI cJ : ClassId) (S : SS) (a b : Int32) (n : Nat) (hn : S.1 8 = nI n) (hn6 : n ≤ 6) : kI l yX2_fact wsX2_fact ({ frames := 1, cells := 0, slots := 0, locals := 21 } : Room) D [(cI, .int), (cJ, .long)] [.ref (q 4), .int a, .int b] (stW q cI cJ S) (p_fact S a b) (stW q cI cJ S) := by
  refine kBody.met (cc := cX2_fact) (maxL := 3) (ret := (some .int)) (by decide) rfl (Nat.le_of_ble_eq_true rfl) ?_
  intro p e s m below meth c A ls hx hb hr hml hts hown hlk hK hP hD hA hl
  have hown : s.vm.findClass RX2 = some m.cls := hown
  have inX2 : ∀ w ∈ wsX20, w ∈ wsX2_fact := fun w h => List.mem_cons_of_mem _ (List.mem_append_right _ (h))
  have hS : va_S A s.heap s.heap [] := va_S.rf
  have hl : lv_has ls 3 [(0, .ref (q 4)), (1, .int a), (2, .int b)] := hl
  refine lv_aload_n hx hb dX2_fact_0 rfl (lv_at hl 0 rfl) ?_
  refine lv_iload_n hx hb dX2_fact_1 rfl (lv_at hl 1 rfl) ?_
  refine k_calli (a := []) (z := []) (wc := stW q cI cJ S) (wc' := stW q cI cJ S) (w' := stW q cI cJ S) (va_runV (As := [.int a]) (rest := []) ⟨hx, hb, hml, hown, hts⟩ (c_X2_has l D q cI cJ S a H.size) (cwV 1 hts gX2_fact_X2_has rfl rfl rfl (by decide +kernel) ⟨Nat.le_of_ble_eq_true rfl, Nat.le_of_ble_eq_true rfl⟩) ⟨kB_blind, va_recv hK hP (ci := 2) (q0 := 4) rfl rfl, k_pre (a := []) (z := []) (k_w0 _) hK hP hD⟩ rfl rfl hl.1 rfl (lv_room (Nat.le_of_ble_eq_true rfl)) dX2_fact_2 ⟨Nat.zero_le _, Nat.zero_le _⟩) (k_w0 _) (k_w0 _) rfl hP hD hS hA (fun H locs hP hD hS => ?_)
  refine lv_if_ne (tgt := 10) hx hb dX2_fact_5 (by decide) (fun c_5_0 => ?_) (fun c_5_0 => ?_)
  · have c_5_0 : (p_has S a) = true := bi_n.mp c_5_0
    have hin := p_hasIn c_5_0 hn hn6
    refine lv_iload_n hx hb dX2_fact_10 rfl (lv_at hl 2 rfl) ?_
    by_cases c_11_1 : b = 0
    · refine lv_tableIn (off := 41) (tgt := 52) hx hb dX2_fact_11 (by rw [c_11_1]; decide) (by rw [c_11_1]; decide) (by rw [c_11_1]; rfl) (by decide) ?_
      refine lv_aload_n hx hb dX2_fact_52 rfl (lv_at hl 0 rfl) ?_
      refine va_get (D := D) (ci := 2) (v := .ref (q 5)) (C := RX2) (T := TX2) (N := 9) hx hb hts inX2 hown hK hP 4 rfl rfl 1 (by decide) (hts (.fieldLink RX2 11 "PumpOaths$Pumps" "capacity" "[I") (List.mem_of_getElem? (i := 1) rfl)) (fun _ h9 => h9) rfl dX2_fact_53 ?_
      refine lv_iload_n hx hb dX2_fact_56 rfl (lv_at hl 1 rfl) ?_
      refine va_iald hx hb hK hP 5 0 rfl rfl (hin) dX2_fact_57 ?_
      exact k_iret hx hb hr hlk hP hS dX2_fact_58 rfl (by simp [p_fact, c_5_0, c_11_1]) (fun h => h)
    by_cases c_11_2 : b = 1
    · refine lv_tableIn (off := 48) (tgt := 59) hx hb dX2_fact_11 (by rw [c_11_2]; decide) (by rw [c_11_2]; decide) (by rw [c_11_2]; rfl) (by decide) ?_
      refine lv_aload_n hx hb dX2_fact_59 rfl (lv_at hl 0 rfl) ?_
      refine va_get (D := D) (ci := 2) (v := .ref (q 6)) (C := RX2) (T := TX2) (N := 9) hx hb hts inX2 hown hK hP 4 rfl rfl 2 (by decide) (hts (.fieldLink RX2 15 "PumpOaths$Pumps" "oath" "[I") (List.mem_of_getElem? (i := 2) rfl)) (fun _ h9 => h9) rfl dX2_fact_60 ?_
      refine lv_iload_n hx hb dX2_fact_63 rfl (lv_at hl 1 rfl) ?_
      refine va_iald hx hb hK hP 6 0 rfl rfl (hin) dX2_fact_64 ?_
      exact k_iret hx hb hr hlk hP hS dX2_fact_65 rfl (by simp [p_fact, c_5_0, c_11_1, c_11_2]) (fun h => h)
    by_cases c_11_3 : b = 2
    · refine lv_tableIn (off := 55) (tgt := 66) hx hb dX2_fact_11 (by rw [c_11_3]; decide) (by rw [c_11_3]; decide) (by rw [c_11_3]; rfl) (by decide) ?_
      refine lv_aload_n hx hb dX2_fact_66 rfl (lv_at hl 0 rfl) ?_
      refine va_get (D := D) (ci := 2) (v := .ref (q 7)) (C := RX2) (T := TX2) (N := 9) hx hb hts inX2 hown hK hP 4 rfl rfl 3 (by decide) (hts (.fieldLink RX2 18 "PumpOaths$Pumps" "mode" "[I") (List.mem_of_getElem? (i := 3) rfl)) (fun _ h9 => h9) rfl dX2_fact_67 ?_
      refine lv_iload_n hx hb dX2_fact_70 rfl (lv_at hl 1 rfl) ?_
      refine va_iald hx hb hK hP 7 0 rfl rfl (hin) dX2_fact_71 ?_
      exact k_iret hx hb hr hlk hP hS dX2_fact_72 rfl (by simp [p_fact, c_5_0, c_11_1, c_11_2, c_11_3]) (fun h => h)
    by_cases c_11_4 : b = 3
    · refine lv_tableIn (off := 62) (tgt := 73) hx hb dX2_fact_11 (by rw [c_11_4]; decide) (by rw [c_11_4]; decide) (by rw [c_11_4]; rfl) (by decide) ?_
      refine lv_aload_n hx hb dX2_fact_73 rfl (lv_at hl 0 rfl) ?_
      refine va_get (D := D) (ci := 2) (v := .ref (q 8)) (C := RX2) (T := TX2) (N := 9) hx hb hts inX2 hown hK hP 4 rfl rfl 4 (by decide) (hts (.fieldLink RX2 21 "PumpOaths$Pumps" "place" "[I") (List.mem_of_getElem? (i := 4) rfl)) (fun _ h9 => h9) rfl dX2_fact_74 ?_
      refine lv_iload_n hx hb dX2_fact_77 rfl (lv_at hl 1 rfl) ?_
      refine va_iald hx hb hK hP 8 0 rfl rfl (hin) dX2_fact_78 ?_
      exact k_iret hx hb hr hlk hP hS dX2_fact_79 rfl (by simp [p_fact, c_5_0, c_11_1, c_11_2, c_11_3, c_11_4]) (fun h => h)
    by_cases c_11_5 : b = 4
    · refine lv_tableIn (off := 69) (tgt := 80) hx hb dX2_fact_11 (by rw [c_11_5]; decide) (by rw [c_11_5]; decide) (by rw [c_11_5]; rfl) (by decide) ?_
      refine lv_aload_n hx hb dX2_fact_80 rfl (lv_at hl 0 rfl) ?_
      refine va_get (D := D) (ci := 2) (v := .ref (q 9)) (C := RX2) (T := TX2) (N := 9) hx hb hts inX2 hown hK hP 4 rfl rfl 5 (by decide) (hts (.fieldLink RX2 24 "PumpOaths$Pumps" "hourStarts" "[I") (List.mem_of_getElem? (i := 5) rfl)) (fun _ h9 => h9) rfl dX2_fact_81 ?_
      refine lv_iload_n hx hb dX2_fact_84 rfl (lv_at hl 1 rfl) ?_
      refine va_iald hx hb hK hP 9 0 rfl rfl (hin) dX2_fact_85 ?_
      exact k_iret hx hb hr hlk hP hS dX2_fact_86 rfl (by simp [p_fact, c_5_0, c_11_1, c_11_2, c_11_3, c_11_4, c_11_5]) (fun h => h)
    by_cases c_11_6 : b = 5
    · refine lv_tableIn (off := 76) (tgt := 87) hx hb dX2_fact_11 (by rw [c_11_6]; decide) (by rw [c_11_6]; decide) (by rw [c_11_6]; rfl) (by decide) ?_
      refine lv_aload_n hx hb dX2_fact_87 rfl (lv_at hl 0 rfl) ?_
      refine va_get (D := D) (ci := 2) (v := .ref (q 10)) (C := RX2) (T := TX2) (N := 9) hx hb hts inX2 hown hK hP 4 rfl rfl 6 (by decide) (hts (.fieldLink RX2 27 "PumpOaths$Pumps" "starts" "[I") (List.mem_of_getElem? (i := 6) rfl)) (fun _ h9 => h9) rfl dX2_fact_88 ?_
      refine lv_iload_n hx hb dX2_fact_91 rfl (lv_at hl 1 rfl) ?_
      refine va_iald hx hb hK hP 10 0 rfl rfl (hin) dX2_fact_92 ?_
      exact k_iret hx hb hr hlk hP hS dX2_fact_93 rfl (by simp [p_fact, c_5_0, c_11_1, c_11_2, c_11_3, c_11_4, c_11_5, c_11_6]) (fun h => h)
    by_cases c_11_7 : b = 6
    · refine lv_tableIn (off := 83) (tgt := 94) hx hb dX2_fact_11 (by rw [c_11_7]; decide) (by rw [c_11_7]; decide) (by rw [c_11_7]; rfl) (by decide) ?_
      refine lv_aload_n hx hb dX2_fact_94 rfl (lv_at hl 0 rfl) ?_
      refine va_get (D := D) (ci := 2) (v := .ref (q 11)) (C := RX2) (T := TX2) (N := 9) hx hb hts inX2 hown hK hP 4 rfl rfl 7 (by decide) (hts (.fieldLink RX2 30 "PumpOaths$Pumps" "minutes" "[I") (List.mem_of_getElem? (i := 7) rfl)) (fun _ h9 => h9) rfl dX2_fact_95 ?_
      refine lv_iload_n hx hb dX2_fact_98 rfl (lv_at hl 1 rfl) ?_
      refine va_iald hx hb hK hP 11 0 rfl rfl (hin) dX2_fact_99 ?_
      exact k_iret hx hb hr hlk hP hS dX2_fact_100 rfl (by simp [p_fact, c_5_0, c_11_1, c_11_2, c_11_3, c_11_4, c_11_5, c_11_6, c_11_7]) (fun h => h)
    refine lv_tableOut (tgt := 101) hx hb dX2_fact_11 (k_out7 c_11_1 c_11_2 c_11_3 c_11_4 c_11_5 c_11_6 c_11_7) (by decide) ?_
    refine lv_aload_n hx hb dX2_fact_101 rfl (lv_at hl 0 rfl) ?_
    refine va_get (D := D) (ci := 2) (v := .ref (q 12)) (C := RX2) (T := TX2) (N := 9) hx hb hts inX2 hown hK hP 4 rfl rfl 8 (by decide) (hts (.fieldLink RX2 33 "PumpOaths$Pumps" "broken" "[I") (List.mem_of_getElem? (i := 8) rfl)) (fun _ h9 => h9) rfl dX2_fact_102 ?_
    refine lv_iload_n hx hb dX2_fact_105 rfl (lv_at hl 1 rfl) ?_
    refine va_iald hx hb hK hP 12 0 rfl rfl (hin) dX2_fact_106 ?_
    exact k_iret hx hb hr hlk hP hS dX2_fact_107 rfl (by simp [p_fact, c_5_0, c_11_1, c_11_2, c_11_3, c_11_4, c_11_5, c_11_6, c_11_7]) (fun h => h)
  · have c_5_0 : (p_has S a) = false := bi_0.mp c_5_0
    refine lv_iconst (v := 0) hx hb dX2_fact_8 (by decide) ?_
    exact k_iret hx hb hr hlk hP hS dX2_fact_9 rfl (by simp [p_fact, c_5_0]) (fun h => h)

set_option maxHeartbeats 4000000 in
set_option maxRecDepth 100000 in
theorem c_X2_digestOnto (l : Launch) (D : va_G) (q : Nat → Nat) (cI cJ : ClassId) (S : SS) (h : Int64) (n : Nat) (hn : S.1 8 = nI n) (hn6 : n ≤ 6) : kL l yX2_digestOnto wsX2_digestOnto ({ frames := 2, cells := 0, slots := 0, locals := 43 } : Room) D [(cI, .int), (cJ, .long)] [.ref (q 4), .long h] (stW q cI cJ S) (p_dig S n h) (stW q cI cJ S) := by
  refine kBody.met (cc := cX2_digestOnto) (maxL := 7) (ret := (some .long)) (by decide) rfl (Nat.le_of_ble_eq_true rfl) ?_
  intro p e s m below meth c A ls hx hb hr hml hts hown hlk hK hP hD hA hl
  have hown : s.vm.findClass RX2 = some m.cls := hown
  have inX2 : ∀ w ∈ wsX20, w ∈ wsX2_digestOnto := fun w h => List.mem_cons_of_mem _ (List.mem_append_right _ (h))
  have hS : va_S A s.heap s.heap [] := va_S.rf
  have hl : lv_has ls 7 [(0, .ref (q 4)), (1, .long h)] := hl
  refine lv_lload_n hx hb dX2_digestOnto_0 rfl (lv_at hl 1 rfl) ?_
  refine lv_lstore_n (lv' := [(3, .long h), (0, .ref (q 4)), (1, .long h)]) hx hb dX2_digestOnto_1 rfl hl (by decide) rfl (fun ls hl => ?_)
  refine lv_iconst (v := 0) hx hb dX2_digestOnto_2 (by decide) ?_
  refine lv_istore (lv' := [(5, .int 0), (3, .long h), (0, .ref (q 4)), (1, .long h)]) hx hb dX2_digestOnto_3 hl (by decide) rfl (fun ls hl => ?_)
  have L_5_0 : ∀ (d : Nat) (k : Nat) (x : Int64), n < k + d → k ≤ n → ∀  (e5 : itr (fun k x => itr (p_digB S k) 8 x) k h = x) (H : Heap) (locs : List Loc) (ls : Array Slot), va_P D vwCl (stW q cI cJ S) H → va_D A (stW q cI cJ S) → va_S A s.heap H locs → lv_has ls 7 [(0, .ref (q 4)), (1, .long h), (3, .long x), (5, .int (nI k))] → W p l e ({ frames := 2, cells := 0, slots := 0, locals := 43 } : Room) s m (List.toArray [.ref (q 4), .long h]) below meth c H locs 0 0 (MQ below (va_Ql (fun r (_ : Unit) => r = (p_dig S n h)) (fun _ t => va_P D vwCl (stW q cI cJ S) t.heap) A) (List.toArray [.ref (q 4), .long h]) s 0 0 A) (F0 m 5 ls []) := by
    intro d
    induction d with
    | zero =>
      intro k x hf
      intro hkn; exact absurd hf (by omega)
    | succ d ih_5 =>
      intro k x hf_5 hkn_5 e5 H locs ls hP hD hS hl
      refine lv_iload hx hb dX2_digestOnto_5 (lv_at hl 3 rfl) ?_
      refine lv_aload_n hx hb dX2_digestOnto_7 rfl (lv_at hl 0 rfl) ?_
      refine va_get (D := D) (ci := 2) (v := .int (S.1 8)) (C := RX2) (T := TX2) (N := 9) hx hb hts inX2 hown hK hP 4 rfl rfl 0 (by decide) (hts (.fieldLink RX2 36 "PumpOaths$Pumps" "count" "I") (List.mem_of_getElem? (i := 1) rfl)) (fun _ h9 => h9) rfl dX2_digestOnto_8 ?_
      refine lv_icmp_ge (tgt := 52) hx hb dX2_digestOnto_11 (by decide) (fun c_11_1 => ?_) (fun c_11_1 => ?_)
      · have hke_5 : n = k := (k_exitN c_11_1 hn hkn_5 (by omega)).symm
        subst hke_5
        refine lv_lload_n hx hb dX2_digestOnto_52 rfl (lv_at hl 2 rfl) ?_
        exact k_lret hx hb hr hlk hP hS dX2_digestOnto_53 (by rw [p_dig, e5]) (fun h => h)
      · have hkl_5 : k < n := k_bodyN c_11_1 hn hkn_5 (by omega)
        refine lv_iconst (v := 0) hx hb dX2_digestOnto_14 (by decide) ?_
        refine lv_istore (lv' := [(6, .int 0), (0, .ref (q 4)), (1, .long h), (3, .long x), (5, .int (nI k))]) hx hb dX2_digestOnto_15 hl (by decide) rfl (fun ls hl => ?_)
        have L_17_2 : ∀ (d : Nat) (j : Nat) (y : Int64), 8 < j + d → j ≤ 8 → ∀  (e17 : itr (p_digB S k) j x = y) (H : Heap) (locs : List Loc) (ls : Array Slot), va_P D vwCl (stW q cI cJ S) H → va_D A (stW q cI cJ S) → va_S A s.heap H locs → lv_has ls 7 [(0, .ref (q 4)), (1, .long h), (3, .long y), (5, .int (nI k)), (6, .int (nI j))] → W p l e ({ frames := 2, cells := 0, slots := 0, locals := 43 } : Room) s m (List.toArray [.ref (q 4), .long h]) below meth c H locs 0 0 (MQ below (va_Ql (fun r (_ : Unit) => r = (p_dig S n h)) (fun _ t => va_P D vwCl (stW q cI cJ S) t.heap) A) (List.toArray [.ref (q 4), .long h]) s 0 0 A) (F0 m 17 ls []) := by
          intro d
          induction d with
          | zero =>
            intro j y hf
            intro hkn; exact absurd hf (by omega)
          | succ d ih_17 =>
            intro j y hf_17 hkn_17 e17 H locs ls hP hD hS hl
            refine lv_iload hx hb dX2_digestOnto_17 (lv_at hl 4 rfl) ?_
            refine lv_bipush (v := 8) hx hb dX2_digestOnto_19 (by decide) ?_
            refine lv_icmp_ge (tgt := 46) hx hb dX2_digestOnto_21 (by decide) (fun c_21_3 => ?_) (fun c_21_3 => ?_)
            · have hke_17 : 8 = j := (k_exitN c_21_3 (by decide) hkn_17 (by omega)).symm
              subst hke_17
              refine lv_iinc (v := (nI k) + 1) (lv' := [(5, .int ((nI k) + 1)), (0, .ref (q 4)), (1, .long h), (3, .long y), (6, .int (nI j))]) hx hb dX2_digestOnto_46 hl (k := 3) rfl rfl (by decide) rfl (fun ls hl => ?_)
              refine lv_goto (tgt := 5) hx hb dX2_digestOnto_49 (by decide) ?_
              rw [show ((nI k) + 1) = (nI (k + 1)) from nI_1 _] at hl
              exact ih_5 (k + 1) y (by omega) (by omega) (by rw [itr_s, e5]; exact e17) _ _ _ hP hD hS (lv_sub hl [1, 2, 3, 0] rfl)
            · have hkl_17 : j < 8 := k_bodyN c_21_3 (by decide) hkn_17 (by omega)
              refine lv_ldc2 (v := 31) hx hb hown (hts (.constantLong RX2 57 (31)) (List.mem_of_getElem? (i := 2) rfl)) dX2_digestOnto_24 ?_
              refine lv_lload_n hx hb dX2_digestOnto_27 rfl (lv_at hl 2 rfl) ?_
              refine lv_lmul hx hb dX2_digestOnto_28 ?_
              refine lv_aload_n hx hb dX2_digestOnto_29 rfl (lv_at hl 0 rfl) ?_
              refine lv_iload hx hb dX2_digestOnto_30 (lv_at hl 3 rfl) ?_
              refine lv_iload hx hb dX2_digestOnto_32 (lv_at hl 4 rfl) ?_
              refine k_calli (a := []) (z := []) (wc := stW q cI cJ S) (wc' := stW q cI cJ S) (w' := stW q cI cJ S) (va_runV (As := [.int (nI k), .int (nI j)]) (rest := [.long (31 * y)]) ⟨hx, hb, hml, hown, hts⟩ (c_X2_fact l D q cI cJ S (nI k) (nI j) n hn hn6 H.size) (cwV 2 hts gX2_digestOnto_X2_fact rfl rfl rfl (by decide +kernel) ⟨Nat.le_of_ble_eq_true rfl, Nat.le_of_ble_eq_true rfl⟩) ⟨kB_blind, va_recv hK hP (ci := 2) (q0 := 4) rfl rfl, k_pre (a := []) (z := []) (k_w0 _) hK hP hD⟩ rfl rfl hl.1 rfl (lv_room (Nat.le_of_ble_eq_true rfl)) dX2_digestOnto_34 ⟨Nat.zero_le _, Nat.zero_le _⟩) (k_w0 _) (k_w0 _) rfl hP hD hS hA (fun H locs hP hD hS => ?_)
              refine lv_i2l hx hb dX2_digestOnto_37 rfl ?_
              refine lv_ladd hx hb dX2_digestOnto_38 ?_
              refine lv_lstore_n (lv' := [(3, .long ((31 * y) + ((p_fact S (nI k) (nI j)).toInt64))), (0, .ref (q 4)), (1, .long h), (5, .int (nI k)), (6, .int (nI j))]) hx hb dX2_digestOnto_39 rfl hl (by decide) rfl (fun ls hl => ?_)
              refine lv_iinc (v := (nI j) + 1) (lv' := [(6, .int ((nI j) + 1)), (3, .long ((31 * y) + ((p_fact S (nI k) (nI j)).toInt64))), (0, .ref (q 4)), (1, .long h), (5, .int (nI k))]) hx hb dX2_digestOnto_40 hl (k := 4) rfl rfl (by decide) rfl (fun ls hl => ?_)
              refine lv_goto (tgt := 17) hx hb dX2_digestOnto_43 (by decide) ?_
              rw [show ((nI j) + 1) = (nI (j + 1)) from nI_1 _] at hl
              exact ih_17 (j + 1) ((31 * y) + ((p_fact S (nI k) (nI j)).toInt64)) (by omega) (by omega) (by rw [itr_s, e17]; simp [p_digB, c_11_1, c_21_3]) _ _ _ hP hD hS (lv_sub hl [2, 3, 1, 4, 0] rfl)
        exact L_17_2 (8 + 1) 0 x (by omega) (by omega) (rfl) _ _ _ hP hD hS (lv_sub hl [1, 2, 3, 4, 0] rfl)
  exact L_5_0 (n + 1) 0 h (by omega) (by omega) (rfl) _ _ _ hP hD hS (lv_sub hl [2, 3, 1, 0] rfl)

def p_become (S T : SS) : SS := setA (setA (setA (setA (setA (setA (setA (setA (setI S 8 (T.1 8)) 2 (T.2.2.1 2)) 3 (T.2.2.1 3)) 4 (T.2.2.1 4)) 5 (T.2.2.1 5)) 6 (T.2.2.1 6)) 7 (T.2.2.1 7)) 8 (T.2.2.1 8)) 9 (T.2.2.1 9)

set_option maxHeartbeats 4000000 in
set_option maxRecDepth 100000 in
theorem c_X2_become (l : Launch) (D : va_G) (q r : Nat → Nat) (cI cJ : ClassId) (S T : SS)  : kV l yX2_become wsX2_become ({ frames := 1, cells := 0, slots := 0, locals := 40 } : Room) D [(cI, .int), (cJ, .long)] [.ref (q 4), .ref (r 4)] (stW q cI cJ S ++ (stW r cI cJ T)) (stW q cI cJ (p_become S T) ++ (stW r cI cJ T)) := by
  refine kBody.met (cc := cX2_become) (maxL := 2) (ret := none) (by decide) rfl (Nat.le_of_ble_eq_true rfl) ?_
  intro p e s m below meth c A ls hx hb hr hml hts hown hlk hK hP hD hA hl
  have hown : s.vm.findClass RX2 = some m.cls := hown
  have inX2 : ∀ w ∈ wsX20, w ∈ wsX2_become := fun w h => List.mem_cons_of_mem _ (List.mem_append_right _ (h))
  have hS : va_S A s.heap s.heap [] := va_S.rf
  have hl : lv_has ls 2 [(0, .ref (q 4)), (1, .ref (r 4))] := hl
  refine lv_aload_n hx hb dX2_become_0 rfl (lv_at hl 0 rfl) ?_
  refine lv_aload_n hx hb dX2_become_1 rfl (lv_at hl 1 rfl) ?_
  refine va_get (D := D) (ci := 2) (v := .int (T.1 8)) (C := RX2) (T := TX2) (N := 9) hx hb hts inX2 hown hK hP 19 rfl rfl 0 (by decide) (hts (.fieldLink RX2 36 "PumpOaths$Pumps" "count" "I") (List.mem_of_getElem? (i := 1) rfl)) (fun _ h9 => h9) rfl dX2_become_2 ?_
  refine va_put (D := D) (ci := 2) (v := .int (T.1 8)) (ty := .int) (C := RX2) (T := TX2) (N := 9) hx hb hts inX2 tyX2 tyX2_ok nmX2 hown hK hP hD hS 4 rfl rfl 0 (by decide) (hts (.fieldLink RX2 36 "PumpOaths$Pumps" "count" "I") (List.mem_of_getElem? (i := 1) rfl)) (fun _ h9 => h9) rfl (by decide +kernel) rfl rfl (Nat.le_of_ble_eq_true rfl) dX2_become_5 (fun H locs hP hD hS => ?_)
  have hP : va_P D vwCl (stW q cI cJ (setI S 8 (T.1 8)) ++ (stW r cI cJ T)) H := hP
  have hD : va_D A (stW q cI cJ (setI S 8 (T.1 8)) ++ (stW r cI cJ T)) := hD
  refine lv_aload_n hx hb dX2_become_8 rfl (lv_at hl 1 rfl) ?_
  refine va_get (D := D) (ci := 2) (v := .ref (r 5)) (C := RX2) (T := TX2) (N := 9) hx hb hts inX2 hown hK hP 19 rfl rfl 1 (by decide) (hts (.fieldLink RX2 11 "PumpOaths$Pumps" "capacity" "[I") (List.mem_of_getElem? (i := 2) rfl)) (fun _ h9 => h9) rfl dX2_become_9 ?_
  refine lv_iconst (v := 0) hx hb dX2_become_12 (by decide) ?_
  refine lv_aload_n hx hb dX2_become_13 rfl (lv_at hl 0 rfl) ?_
  refine va_get (D := D) (ci := 2) (v := .ref (q 5)) (C := RX2) (T := TX2) (N := 9) hx hb hts inX2 hown hK hP 4 rfl rfl 1 (by decide) (hts (.fieldLink RX2 11 "PumpOaths$Pumps" "capacity" "[I") (List.mem_of_getElem? (i := 2) rfl)) (fun _ h9 => h9) rfl dX2_become_14 ?_
  refine lv_iconst (v := 0) hx hb dX2_become_17 (by decide) ?_
  refine lv_bipush (v := 6) hx hb dX2_become_18 (by decide) ?_
  refine k_copyi hx hb (hml.trans hl.1.symm) hown (hts (.methodLink RX2 40 arraycopyName) (List.mem_of_getElem? (i := 3) rfl)) (hts (.native arraycopyName) (List.mem_of_getElem? (i := 4) rfl)) (hts (.static arraycopyName) (List.mem_of_getElem? (i := 5) rfl)) (hts (.initialized "java/lang/System") (List.mem_of_getElem? (i := 6) rfl)) hK hP hD hS 20 5 0 0 rfl rfl rfl rfl (by decide) rfl (by decide) (Nat.le_of_ble_eq_true rfl) dX2_become_20 (fun H locs hP hD hS => ?_)
  have hP : va_P D vwCl (stW q cI cJ (setA (setI S 8 (T.1 8)) 2 (T.2.2.1 2)) ++ (stW r cI cJ T)) H := hP
  have hD : va_D A (stW q cI cJ (setA (setI S 8 (T.1 8)) 2 (T.2.2.1 2)) ++ (stW r cI cJ T)) := hD
  refine lv_aload_n hx hb dX2_become_23 rfl (lv_at hl 1 rfl) ?_
  refine va_get (D := D) (ci := 2) (v := .ref (r 6)) (C := RX2) (T := TX2) (N := 9) hx hb hts inX2 hown hK hP 19 rfl rfl 2 (by decide) (hts (.fieldLink RX2 15 "PumpOaths$Pumps" "oath" "[I") (List.mem_of_getElem? (i := 7) rfl)) (fun _ h9 => h9) rfl dX2_become_24 ?_
  refine lv_iconst (v := 0) hx hb dX2_become_27 (by decide) ?_
  refine lv_aload_n hx hb dX2_become_28 rfl (lv_at hl 0 rfl) ?_
  refine va_get (D := D) (ci := 2) (v := .ref (q 6)) (C := RX2) (T := TX2) (N := 9) hx hb hts inX2 hown hK hP 4 rfl rfl 2 (by decide) (hts (.fieldLink RX2 15 "PumpOaths$Pumps" "oath" "[I") (List.mem_of_getElem? (i := 7) rfl)) (fun _ h9 => h9) rfl dX2_become_29 ?_
  refine lv_iconst (v := 0) hx hb dX2_become_32 (by decide) ?_
  refine lv_bipush (v := 6) hx hb dX2_become_33 (by decide) ?_
  refine k_copyi hx hb (hml.trans hl.1.symm) hown (hts (.methodLink RX2 40 arraycopyName) (List.mem_of_getElem? (i := 3) rfl)) (hts (.native arraycopyName) (List.mem_of_getElem? (i := 4) rfl)) (hts (.static arraycopyName) (List.mem_of_getElem? (i := 5) rfl)) (hts (.initialized "java/lang/System") (List.mem_of_getElem? (i := 6) rfl)) hK hP hD hS 21 6 0 0 rfl rfl rfl rfl (by decide) rfl (by decide) (Nat.le_of_ble_eq_true rfl) dX2_become_35 (fun H locs hP hD hS => ?_)
  have hP : va_P D vwCl (stW q cI cJ (setA (setA (setI S 8 (T.1 8)) 2 (T.2.2.1 2)) 3 (T.2.2.1 3)) ++ (stW r cI cJ T)) H := hP
  have hD : va_D A (stW q cI cJ (setA (setA (setI S 8 (T.1 8)) 2 (T.2.2.1 2)) 3 (T.2.2.1 3)) ++ (stW r cI cJ T)) := hD
  refine lv_aload_n hx hb dX2_become_38 rfl (lv_at hl 1 rfl) ?_
  refine va_get (D := D) (ci := 2) (v := .ref (r 7)) (C := RX2) (T := TX2) (N := 9) hx hb hts inX2 hown hK hP 19 rfl rfl 3 (by decide) (hts (.fieldLink RX2 18 "PumpOaths$Pumps" "mode" "[I") (List.mem_of_getElem? (i := 8) rfl)) (fun _ h9 => h9) rfl dX2_become_39 ?_
  refine lv_iconst (v := 0) hx hb dX2_become_42 (by decide) ?_
  refine lv_aload_n hx hb dX2_become_43 rfl (lv_at hl 0 rfl) ?_
  refine va_get (D := D) (ci := 2) (v := .ref (q 7)) (C := RX2) (T := TX2) (N := 9) hx hb hts inX2 hown hK hP 4 rfl rfl 3 (by decide) (hts (.fieldLink RX2 18 "PumpOaths$Pumps" "mode" "[I") (List.mem_of_getElem? (i := 8) rfl)) (fun _ h9 => h9) rfl dX2_become_44 ?_
  refine lv_iconst (v := 0) hx hb dX2_become_47 (by decide) ?_
  refine lv_bipush (v := 6) hx hb dX2_become_48 (by decide) ?_
  refine k_copyi hx hb (hml.trans hl.1.symm) hown (hts (.methodLink RX2 40 arraycopyName) (List.mem_of_getElem? (i := 3) rfl)) (hts (.native arraycopyName) (List.mem_of_getElem? (i := 4) rfl)) (hts (.static arraycopyName) (List.mem_of_getElem? (i := 5) rfl)) (hts (.initialized "java/lang/System") (List.mem_of_getElem? (i := 6) rfl)) hK hP hD hS 22 7 0 0 rfl rfl rfl rfl (by decide) rfl (by decide) (Nat.le_of_ble_eq_true rfl) dX2_become_50 (fun H locs hP hD hS => ?_)
  have hP : va_P D vwCl (stW q cI cJ (setA (setA (setA (setI S 8 (T.1 8)) 2 (T.2.2.1 2)) 3 (T.2.2.1 3)) 4 (T.2.2.1 4)) ++ (stW r cI cJ T)) H := hP
  have hD : va_D A (stW q cI cJ (setA (setA (setA (setI S 8 (T.1 8)) 2 (T.2.2.1 2)) 3 (T.2.2.1 3)) 4 (T.2.2.1 4)) ++ (stW r cI cJ T)) := hD
  refine lv_aload_n hx hb dX2_become_53 rfl (lv_at hl 1 rfl) ?_
  refine va_get (D := D) (ci := 2) (v := .ref (r 8)) (C := RX2) (T := TX2) (N := 9) hx hb hts inX2 hown hK hP 19 rfl rfl 4 (by decide) (hts (.fieldLink RX2 21 "PumpOaths$Pumps" "place" "[I") (List.mem_of_getElem? (i := 9) rfl)) (fun _ h9 => h9) rfl dX2_become_54 ?_
  refine lv_iconst (v := 0) hx hb dX2_become_57 (by decide) ?_
  refine lv_aload_n hx hb dX2_become_58 rfl (lv_at hl 0 rfl) ?_
  refine va_get (D := D) (ci := 2) (v := .ref (q 8)) (C := RX2) (T := TX2) (N := 9) hx hb hts inX2 hown hK hP 4 rfl rfl 4 (by decide) (hts (.fieldLink RX2 21 "PumpOaths$Pumps" "place" "[I") (List.mem_of_getElem? (i := 9) rfl)) (fun _ h9 => h9) rfl dX2_become_59 ?_
  refine lv_iconst (v := 0) hx hb dX2_become_62 (by decide) ?_
  refine lv_bipush (v := 6) hx hb dX2_become_63 (by decide) ?_
  refine k_copyi hx hb (hml.trans hl.1.symm) hown (hts (.methodLink RX2 40 arraycopyName) (List.mem_of_getElem? (i := 3) rfl)) (hts (.native arraycopyName) (List.mem_of_getElem? (i := 4) rfl)) (hts (.static arraycopyName) (List.mem_of_getElem? (i := 5) rfl)) (hts (.initialized "java/lang/System") (List.mem_of_getElem? (i := 6) rfl)) hK hP hD hS 23 8 0 0 rfl rfl rfl rfl (by decide) rfl (by decide) (Nat.le_of_ble_eq_true rfl) dX2_become_65 (fun H locs hP hD hS => ?_)
  have hP : va_P D vwCl (stW q cI cJ (setA (setA (setA (setA (setI S 8 (T.1 8)) 2 (T.2.2.1 2)) 3 (T.2.2.1 3)) 4 (T.2.2.1 4)) 5 (T.2.2.1 5)) ++ (stW r cI cJ T)) H := hP
  have hD : va_D A (stW q cI cJ (setA (setA (setA (setA (setI S 8 (T.1 8)) 2 (T.2.2.1 2)) 3 (T.2.2.1 3)) 4 (T.2.2.1 4)) 5 (T.2.2.1 5)) ++ (stW r cI cJ T)) := hD
  refine lv_aload_n hx hb dX2_become_68 rfl (lv_at hl 1 rfl) ?_
  refine va_get (D := D) (ci := 2) (v := .ref (r 9)) (C := RX2) (T := TX2) (N := 9) hx hb hts inX2 hown hK hP 19 rfl rfl 5 (by decide) (hts (.fieldLink RX2 24 "PumpOaths$Pumps" "hourStarts" "[I") (List.mem_of_getElem? (i := 10) rfl)) (fun _ h9 => h9) rfl dX2_become_69 ?_
  refine lv_iconst (v := 0) hx hb dX2_become_72 (by decide) ?_
  refine lv_aload_n hx hb dX2_become_73 rfl (lv_at hl 0 rfl) ?_
  refine va_get (D := D) (ci := 2) (v := .ref (q 9)) (C := RX2) (T := TX2) (N := 9) hx hb hts inX2 hown hK hP 4 rfl rfl 5 (by decide) (hts (.fieldLink RX2 24 "PumpOaths$Pumps" "hourStarts" "[I") (List.mem_of_getElem? (i := 10) rfl)) (fun _ h9 => h9) rfl dX2_become_74 ?_
  refine lv_iconst (v := 0) hx hb dX2_become_77 (by decide) ?_
  refine lv_bipush (v := 6) hx hb dX2_become_78 (by decide) ?_
  refine k_copyi hx hb (hml.trans hl.1.symm) hown (hts (.methodLink RX2 40 arraycopyName) (List.mem_of_getElem? (i := 3) rfl)) (hts (.native arraycopyName) (List.mem_of_getElem? (i := 4) rfl)) (hts (.static arraycopyName) (List.mem_of_getElem? (i := 5) rfl)) (hts (.initialized "java/lang/System") (List.mem_of_getElem? (i := 6) rfl)) hK hP hD hS 24 9 0 0 rfl rfl rfl rfl (by decide) rfl (by decide) (Nat.le_of_ble_eq_true rfl) dX2_become_80 (fun H locs hP hD hS => ?_)
  have hP : va_P D vwCl (stW q cI cJ (setA (setA (setA (setA (setA (setI S 8 (T.1 8)) 2 (T.2.2.1 2)) 3 (T.2.2.1 3)) 4 (T.2.2.1 4)) 5 (T.2.2.1 5)) 6 (T.2.2.1 6)) ++ (stW r cI cJ T)) H := hP
  have hD : va_D A (stW q cI cJ (setA (setA (setA (setA (setA (setI S 8 (T.1 8)) 2 (T.2.2.1 2)) 3 (T.2.2.1 3)) 4 (T.2.2.1 4)) 5 (T.2.2.1 5)) 6 (T.2.2.1 6)) ++ (stW r cI cJ T)) := hD
  refine lv_aload_n hx hb dX2_become_83 rfl (lv_at hl 1 rfl) ?_
  refine va_get (D := D) (ci := 2) (v := .ref (r 10)) (C := RX2) (T := TX2) (N := 9) hx hb hts inX2 hown hK hP 19 rfl rfl 6 (by decide) (hts (.fieldLink RX2 27 "PumpOaths$Pumps" "starts" "[I") (List.mem_of_getElem? (i := 11) rfl)) (fun _ h9 => h9) rfl dX2_become_84 ?_
  refine lv_iconst (v := 0) hx hb dX2_become_87 (by decide) ?_
  refine lv_aload_n hx hb dX2_become_88 rfl (lv_at hl 0 rfl) ?_
  refine va_get (D := D) (ci := 2) (v := .ref (q 10)) (C := RX2) (T := TX2) (N := 9) hx hb hts inX2 hown hK hP 4 rfl rfl 6 (by decide) (hts (.fieldLink RX2 27 "PumpOaths$Pumps" "starts" "[I") (List.mem_of_getElem? (i := 11) rfl)) (fun _ h9 => h9) rfl dX2_become_89 ?_
  refine lv_iconst (v := 0) hx hb dX2_become_92 (by decide) ?_
  refine lv_bipush (v := 6) hx hb dX2_become_93 (by decide) ?_
  refine k_copyi hx hb (hml.trans hl.1.symm) hown (hts (.methodLink RX2 40 arraycopyName) (List.mem_of_getElem? (i := 3) rfl)) (hts (.native arraycopyName) (List.mem_of_getElem? (i := 4) rfl)) (hts (.static arraycopyName) (List.mem_of_getElem? (i := 5) rfl)) (hts (.initialized "java/lang/System") (List.mem_of_getElem? (i := 6) rfl)) hK hP hD hS 25 10 0 0 rfl rfl rfl rfl (by decide) rfl (by decide) (Nat.le_of_ble_eq_true rfl) dX2_become_95 (fun H locs hP hD hS => ?_)
  have hP : va_P D vwCl (stW q cI cJ (setA (setA (setA (setA (setA (setA (setI S 8 (T.1 8)) 2 (T.2.2.1 2)) 3 (T.2.2.1 3)) 4 (T.2.2.1 4)) 5 (T.2.2.1 5)) 6 (T.2.2.1 6)) 7 (T.2.2.1 7)) ++ (stW r cI cJ T)) H := hP
  have hD : va_D A (stW q cI cJ (setA (setA (setA (setA (setA (setA (setI S 8 (T.1 8)) 2 (T.2.2.1 2)) 3 (T.2.2.1 3)) 4 (T.2.2.1 4)) 5 (T.2.2.1 5)) 6 (T.2.2.1 6)) 7 (T.2.2.1 7)) ++ (stW r cI cJ T)) := hD
  refine lv_aload_n hx hb dX2_become_98 rfl (lv_at hl 1 rfl) ?_
  refine va_get (D := D) (ci := 2) (v := .ref (r 11)) (C := RX2) (T := TX2) (N := 9) hx hb hts inX2 hown hK hP 19 rfl rfl 7 (by decide) (hts (.fieldLink RX2 30 "PumpOaths$Pumps" "minutes" "[I") (List.mem_of_getElem? (i := 12) rfl)) (fun _ h9 => h9) rfl dX2_become_99 ?_
  refine lv_iconst (v := 0) hx hb dX2_become_102 (by decide) ?_
  refine lv_aload_n hx hb dX2_become_103 rfl (lv_at hl 0 rfl) ?_
  refine va_get (D := D) (ci := 2) (v := .ref (q 11)) (C := RX2) (T := TX2) (N := 9) hx hb hts inX2 hown hK hP 4 rfl rfl 7 (by decide) (hts (.fieldLink RX2 30 "PumpOaths$Pumps" "minutes" "[I") (List.mem_of_getElem? (i := 12) rfl)) (fun _ h9 => h9) rfl dX2_become_104 ?_
  refine lv_iconst (v := 0) hx hb dX2_become_107 (by decide) ?_
  refine lv_bipush (v := 6) hx hb dX2_become_108 (by decide) ?_
  refine k_copyi hx hb (hml.trans hl.1.symm) hown (hts (.methodLink RX2 40 arraycopyName) (List.mem_of_getElem? (i := 3) rfl)) (hts (.native arraycopyName) (List.mem_of_getElem? (i := 4) rfl)) (hts (.static arraycopyName) (List.mem_of_getElem? (i := 5) rfl)) (hts (.initialized "java/lang/System") (List.mem_of_getElem? (i := 6) rfl)) hK hP hD hS 26 11 0 0 rfl rfl rfl rfl (by decide) rfl (by decide) (Nat.le_of_ble_eq_true rfl) dX2_become_110 (fun H locs hP hD hS => ?_)
  have hP : va_P D vwCl (stW q cI cJ (setA (setA (setA (setA (setA (setA (setA (setI S 8 (T.1 8)) 2 (T.2.2.1 2)) 3 (T.2.2.1 3)) 4 (T.2.2.1 4)) 5 (T.2.2.1 5)) 6 (T.2.2.1 6)) 7 (T.2.2.1 7)) 8 (T.2.2.1 8)) ++ (stW r cI cJ T)) H := hP
  have hD : va_D A (stW q cI cJ (setA (setA (setA (setA (setA (setA (setA (setI S 8 (T.1 8)) 2 (T.2.2.1 2)) 3 (T.2.2.1 3)) 4 (T.2.2.1 4)) 5 (T.2.2.1 5)) 6 (T.2.2.1 6)) 7 (T.2.2.1 7)) 8 (T.2.2.1 8)) ++ (stW r cI cJ T)) := hD
  refine lv_aload_n hx hb dX2_become_113 rfl (lv_at hl 1 rfl) ?_
  refine va_get (D := D) (ci := 2) (v := .ref (r 12)) (C := RX2) (T := TX2) (N := 9) hx hb hts inX2 hown hK hP 19 rfl rfl 8 (by decide) (hts (.fieldLink RX2 33 "PumpOaths$Pumps" "broken" "[I") (List.mem_of_getElem? (i := 13) rfl)) (fun _ h9 => h9) rfl dX2_become_114 ?_
  refine lv_iconst (v := 0) hx hb dX2_become_117 (by decide) ?_
  refine lv_aload_n hx hb dX2_become_118 rfl (lv_at hl 0 rfl) ?_
  refine va_get (D := D) (ci := 2) (v := .ref (q 12)) (C := RX2) (T := TX2) (N := 9) hx hb hts inX2 hown hK hP 4 rfl rfl 8 (by decide) (hts (.fieldLink RX2 33 "PumpOaths$Pumps" "broken" "[I") (List.mem_of_getElem? (i := 13) rfl)) (fun _ h9 => h9) rfl dX2_become_119 ?_
  refine lv_iconst (v := 0) hx hb dX2_become_122 (by decide) ?_
  refine lv_bipush (v := 6) hx hb dX2_become_123 (by decide) ?_
  refine k_copyi hx hb (hml.trans hl.1.symm) hown (hts (.methodLink RX2 40 arraycopyName) (List.mem_of_getElem? (i := 3) rfl)) (hts (.native arraycopyName) (List.mem_of_getElem? (i := 4) rfl)) (hts (.static arraycopyName) (List.mem_of_getElem? (i := 5) rfl)) (hts (.initialized "java/lang/System") (List.mem_of_getElem? (i := 6) rfl)) hK hP hD hS 27 12 0 0 rfl rfl rfl rfl (by decide) rfl (by decide) (Nat.le_of_ble_eq_true rfl) dX2_become_125 (fun H locs hP hD hS => ?_)
  have hP : va_P D vwCl (stW q cI cJ (setA (setA (setA (setA (setA (setA (setA (setA (setI S 8 (T.1 8)) 2 (T.2.2.1 2)) 3 (T.2.2.1 3)) 4 (T.2.2.1 4)) 5 (T.2.2.1 5)) 6 (T.2.2.1 6)) 7 (T.2.2.1 7)) 8 (T.2.2.1 8)) 9 (T.2.2.1 9)) ++ (stW r cI cJ T)) H := hP
  have hD : va_D A (stW q cI cJ (setA (setA (setA (setA (setA (setA (setA (setA (setI S 8 (T.1 8)) 2 (T.2.2.1 2)) 3 (T.2.2.1 3)) 4 (T.2.2.1 4)) 5 (T.2.2.1 5)) 6 (T.2.2.1 6)) 7 (T.2.2.1 7)) 8 (T.2.2.1 8)) 9 (T.2.2.1 9)) ++ (stW r cI cJ T)) := hD
  exact k_vret hx hb hr hlk hP hS dX2_become_128 (k_P rfl)
