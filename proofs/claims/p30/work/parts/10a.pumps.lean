/-! THE PUMPS, each method as a word of mine: rows of the state 2 capacity 3 oath 4 mode 5 place 6 hourStarts 7 starts 8 minutes 9 broken; n the pumps -/
theorem k_bodyN {k n : Nat} {c : Int32} (h : ¬ c ≤ nI k) (hc : c = nI n) (hk : k ≤ n) (hn : n ≤ 1000000) : k < n := by
  subst hc
  rcases Nat.lt_or_ge k n with q | q
  · exact q
  · exact absurd (nI_le q (by omega)) h
theorem k_exitN {k n : Nat} {c : Int32} (h : c ≤ nI k) (hc : c = nI n) (hk : k ≤ n) (hn : n ≤ 1000000) : k = n := by
  subst hc
  rcases Nat.lt_or_ge k n with q | q
  · exact absurd h (nI_ge q (by omega))
  · omega
theorem stW_ad (q : Nat → Nat) (cI cJ : ClassId) (S T : SS) : (stW q cI cJ S).map Prod.fst = (stW q cI cJ T).map Prod.fst := rfl
theorem k_ad2 {a b a2 b2 : va_W} (h1 : a2.map Prod.fst = a.map Prod.fst) (h2 : b2.map Prod.fst = b.map Prod.fst) : (a2 ++ b2).map Prod.fst = (a ++ b).map Prod.fst := by rw [List.map_append, List.map_append, h1, h2]
def p_has (S : SS) (p : Int32) : Bool := decide (¬ p < 0 ∧ ¬ S.1 8 ≤ p)
theorem p_hasN {S : SS} {p : Int32} {n : Nat} (h : p_has S p = true) (hn : S.1 8 = nI n) (hn6 : n ≤ 6) : ∃ k, k < n ∧ p = nI k := by
  simp only [p_has, decide_eq_true_eq] at h
  obtain ⟨j, hj, rfl⟩ := nI_of h.1
  refine ⟨j, k_bodyN h.2 hn ?_ (by omega), rfl⟩
  rcases Nat.lt_or_ge j n with q | q
  · omega
  · exact absurd (by rw [hn]; exact nI_le q hj) h.2
theorem p_hasIn {S : SS} {p : Int32} {n : Nat} (h : p_has S p = true) (hn : S.1 8 = nI n) (hn6 : n ≤ 6) : vp_in p 6 := by
  obtain ⟨k, hk, rfl⟩ := p_hasN h hn hn6
  exact vp_in_nI (by omega) (by decide)
def p_cntB (S : SS) (m : Int32) (k : Nat) (r : Int32) : Int32 := if S.2.2.1 4 k = m then r + 1 else r
def p_count (S : SS) (n : Nat) (m : Int32) : Int32 := itr (p_cntB S m) n 0
def p_allB (S : SS) (k : Nat) (r : Int32) : Int32 := r + S.2.2.1 7 k
def p_all (S : SS) (n : Nat) : Int32 := itr (p_allB S) n 0
/-- the first place below n at which p holds, else n -/
def frst (p : Nat → Bool) : Nat → Nat
  | 0 => 0
  | n + 1 => if frst p n < n then frst p n else if p n then n else n + 1
theorem frst_le (p : Nat → Bool) : ∀ n, frst p n ≤ n
  | 0 => Nat.le_refl 0
  | n + 1 => by
    have := frst_le p n
    simp only [frst]
    split
    · omega
    · split <;> omega
theorem frst_none {p : Nat → Bool} : ∀ {n : Nat}, (∀ j, j < n → p j = false) → frst p n = n
  | 0, _ => rfl
  | n + 1, h => by
    have h1 := frst_none (n := n) (fun j hj => h j (by omega))
    simp [frst, h1, h n (by omega)]
theorem frst_some {p : Nat → Bool} {k : Nat} (hk : p k = true) (hb : ∀ j, j < k → p j = false) : ∀ {n : Nat}, k < n → frst p n = k
  | 0, h => absurd h (Nat.not_lt_zero _)
  | n + 1, h => by
    rcases Nat.lt_or_ge k n with q | q
    · have h1 := frst_some hk hb (n := n) q
      simp [frst, h1, q]
    · have e : k = n := by omega
      subst e
      simp [frst, frst_none hb, hk]
def p_leadAt (S : SS) (n : Nat) : Nat := frst (fun k => decide (S.2.2.1 5 k = 0)) n
def p_lead (S : SS) (n : Nat) : Int32 := if p_leadAt S n < n then nI (p_leadAt S n) else -1
def p_fillB (v : Int32) (k : Nat) (f : Nat → Int32) : Nat → Int32 := upd f k v
def p_swear (S : SS) (n : Nat) (o : Int32) : SS := setA S 3 (itr (p_fillB o) n (S.2.2.1 3))
def p_out (S : SS) (n : Nat) : SS := setA S 4 (itr (p_fillB 2) n (S.2.2.1 4))
def p_hour (S : SS) (n : Nat) : SS := setA S 6 (itr (p_fillB 0) n (S.2.2.1 6))
def p_onB (S : SS) (k : Nat) (f : Nat → Int32) : Nat → Int32 := upd f k (if f k = 0 then S.1 8 - 1 else f k - 1)
def p_passOn (S : SS) (n : Nat) : SS := setA S 5 (itr (p_onB S) n (S.2.2.1 5))
def p_stopB (k : Nat) (g : (Nat → Int32) × Int32) : (Nat → Int32) × Int32 := if g.1 k = 1 then (upd g.1 k 0, 1) else g
def p_stopR (S : SS) (n : Nat) : (Nat → Int32) × Int32 := itr p_stopB n (S.2.2.1 4, 0)
def p_stop (S : SS) (n : Nat) : SS := if (p_stopR S n).2 = 0 then setA S 4 (p_stopR S n).1 else p_passOn (setA S 4 (p_stopR S n).1) n
def p_firstB (S : SS) (w : Int32) (k : Nat) (g : Int32 × Int32) : Int32 × Int32 := if S.2.2.1 4 k = 0 ∧ (w = 0 ∨ ¬ S.2.2.1 3 k ≤ S.2.2.1 6 k) ∧ ¬ g.2 ≤ S.2.2.1 5 k then (nI k, S.2.2.1 5 k) else g
def p_first (S : SS) (n : Nat) (w : Int32) : Int32 := (itr (p_firstB S w) n (-1, 6)).1
def p_next (S : SS) (n : Nat) (f : Int32) : Int32 := if p_first S n 1 = -1 ∧ ¬ f = 0 then p_first S n 0 else p_first S n 1
def p_breaks (S : SS) (p : Int32) : Bool := p_has S p && decide (¬ S.2.2.1 6 p.toNatClampNeg < S.2.2.1 3 p.toNatClampNeg)
def p_start1 (S : SS) (j : Nat) : SS := setA (setA (setA S 4 (upd (S.2.2.1 4) j 1)) 6 (upd (S.2.2.1 6) j (S.2.2.1 6 j + 1))) 7 (upd (S.2.2.1 7) j (S.2.2.1 7 j + 1))
def p_start (S : SS) (p : Int32) : SS := if p_has S p = true then (if S.2.2.1 6 p.toNatClampNeg < S.2.2.1 3 p.toNatClampNeg then p_start1 S p.toNatClampNeg else setA (p_start1 S p.toNatClampNeg) 9 (upd (S.2.2.1 9) p.toNatClampNeg (S.2.2.1 9 p.toNatClampNeg + 1))) else S
def p_runB (S : SS) (k : Nat) (g : (Nat → Int32) × Int32) : (Nat → Int32) × Int32 := if S.2.2.1 4 k = 1 then (upd g.1 k (g.1 k + 1), g.2 + S.2.2.1 2 k) else g
def p_runR (S : SS) (n : Nat) : (Nat → Int32) × Int32 := itr (p_runB S) n (S.2.2.1 8, 0)
def p_join (S : SS) (c o : Int32) : SS := if S.1 8 < 6 then setI (setA (setA (setA S 2 (upd (S.2.2.1 2) (S.1 8).toNatClampNeg c)) 3 (upd (S.2.2.1 3) (S.1 8).toNatClampNeg o)) 5 (upd (S.2.2.1 5) (S.1 8).toNatClampNeg (S.1 8))) 8 (S.1 8 + 1) else S
def p_joinR (S : SS) : Int32 := if S.1 8 < 6 then S.1 8 else -1
def p_fact (S : SS) (p w : Int32) : Int32 := if p_has S p = true then (if w = 0 then S.2.2.1 2 p.toNatClampNeg else if w = 1 then S.2.2.1 3 p.toNatClampNeg else if w = 2 then S.2.2.1 4 p.toNatClampNeg else if w = 3 then S.2.2.1 5 p.toNatClampNeg else if w = 4 then S.2.2.1 6 p.toNatClampNeg else if w = 5 then S.2.2.1 7 p.toNatClampNeg else if w = 6 then S.2.2.1 8 p.toNatClampNeg else S.2.2.1 9 p.toNatClampNeg) else 0
def p_digB (S : SS) (k : Nat) (j : Nat) (h : Int64) : Int64 := 31 * h + (p_fact S (nI k) (nI j)).toInt64
def p_dig (S : SS) (n : Nat) (h : Int64) : Int64 := itr (fun k x => itr (p_digB S k) 8 x) n h

set_option maxHeartbeats 1000000 in
set_option maxRecDepth 100000 in
/-- is there a pump p -/
theorem c_X2_has (l : Launch) (D : va_G) (q : Nat → Nat) (cI cJ : ClassId) (S : SS) (p : Int32)  : kI l yX2_has wsX2_has ({ frames := 0, cells := 0, slots := 0, locals := 0 } : Room) D [(cI, .int), (cJ, .long)] [.ref (q 4), .int p] (stW q cI cJ S) (bi (p_has S p)) (stW q cI cJ S) := by
  refine kBody.met (cc := cX2_has) (maxL := 2) (ret := (some .boolean)) (by decide) rfl (Nat.le_of_ble_eq_true rfl) ?_
  intro p9 e9 s9 m9 below meth c9 A9 ls hx hb hr hml hts hown hlk hK hP hD hA hl
  have hown : s9.vm.findClass RX2 = some m9.cls := hown
  have inX2 : ∀ w ∈ wsX20, w ∈ wsX2_has := fun w h => List.mem_cons_of_mem _ (List.mem_append_right _ (h))
  have hS : va_S A9 s9.heap s9.heap [] := va_S.rf
  have hl : lv_has ls 2 [(0, .ref (q 4)), (1, .int p)] := hl
  refine lv_iload_n hx hb dX2_has_0 rfl (lv_at hl 1 rfl) ?_
  refine lv_if_lt (tgt := 16) hx hb dX2_has_1 (by decide) (fun c_1_0 => ?_) (fun c_1_0 => ?_)
  · have c_1_0 : p < 0 := c_1_0
    refine lv_iconst (v := 0) hx hb dX2_has_16 (by decide) ?_
    exact k_iret hx hb hr hlk hP hS dX2_has_17 rfl (by first | rfl | (simp only [p_has, bi, c_1_0]; done) | (simp [p_has, bi, c_1_0]; done)) (fun h => h)
  · have c_1_0 : ¬ p < 0 := c_1_0
    refine lv_iload_n hx hb dX2_has_4 rfl (lv_at hl 1 rfl) ?_
    refine lv_aload_n hx hb dX2_has_5 rfl (lv_at hl 0 rfl) ?_
    refine va_get (D := D) (ci := 2) (v := .int (S.1 8)) (C := RX2) (T := TX2) (N := 9) hx hb hts inX2 hown hK hP 4 rfl rfl 0 (by decide) (hts (.fieldLink RX2 36 "PumpOaths$Pumps" "count" "I") (List.mem_of_getElem? (i := 1) rfl)) (fun _ h9 => h9) rfl dX2_has_6 ?_
    refine lv_icmp_ge (tgt := 16) hx hb dX2_has_9 (by decide) (fun c_9_1 => ?_) (fun c_9_1 => ?_)
    · have c_9_1 : (S.1 8) ≤ p := c_9_1
      refine lv_iconst (v := 0) hx hb dX2_has_16 (by decide) ?_
      exact k_iret hx hb hr hlk hP hS dX2_has_17 rfl (by first | rfl | (simp only [p_has, bi, c_1_0, c_9_1]; done) | (simp [p_has, bi, c_1_0, c_9_1]; done)) (fun h => h)
    · have c_9_1 : ¬ (S.1 8) ≤ p := c_9_1
      refine lv_iconst (v := 1) hx hb dX2_has_12 (by decide) ?_
      refine lv_goto (tgt := 17) hx hb dX2_has_13 (by decide) ?_
      exact k_iret hx hb hr hlk hP hS dX2_has_17 rfl (by first | rfl | (simp only [p_has, bi, c_1_0, c_9_1]; done) | (simp [p_has, bi, c_1_0, c_9_1]; done)) (fun h => h)

set_option maxHeartbeats 1000000 in
set_option maxRecDepth 100000 in
/-- how many pumps are in the mode w -/
theorem c_X2_countIn (l : Launch) (D : va_G) (q : Nat → Nat) (cI cJ : ClassId) (S : SS) (w : Int32) (n : Nat) (hn : S.1 8 = nI n) (hn6 : n ≤ 6) : kI l yX2_countIn wsX2_countIn ({ frames := 0, cells := 0, slots := 0, locals := 0 } : Room) D [(cI, .int), (cJ, .long)] [.ref (q 4), .int w] (stW q cI cJ S) (p_count S n w) (stW q cI cJ S) := by
  refine kBody.met (cc := cX2_countIn) (maxL := 4) (ret := (some .int)) (by decide) rfl (Nat.le_of_ble_eq_true rfl) ?_
  intro p9 e9 s9 m9 below meth c9 A9 ls hx hb hr hml hts hown hlk hK hP hD hA hl
  have hown : s9.vm.findClass RX2 = some m9.cls := hown
  have inX2 : ∀ w ∈ wsX20, w ∈ wsX2_countIn := fun w h => List.mem_cons_of_mem _ (List.mem_append_right _ (h))
  have hS : va_S A9 s9.heap s9.heap [] := va_S.rf
  have hl : lv_has ls 4 [(0, .ref (q 4)), (1, .int w)] := hl
  refine lv_iconst (v := 0) hx hb dX2_countIn_0 (by decide) ?_
  refine lv_istore_n (lv' := [(2, .int 0), (0, .ref (q 4)), (1, .int w)]) hx hb dX2_countIn_1 rfl hl (by decide) rfl (fun ls hl => ?_)
  refine lv_iconst (v := 0) hx hb dX2_countIn_2 (by decide) ?_
  refine lv_istore_n (lv' := [(3, .int 0), (2, .int 0), (0, .ref (q 4)), (1, .int w)]) hx hb dX2_countIn_3 rfl hl (by decide) rfl (fun ls hl => ?_)
  have L_4_0 : ∀ (d : Nat) (k : Nat) (x : Int32), n < k + d → k ≤ n → ∀  (e4 : itr (p_cntB S w) k 0 = x) (H : Heap) (locs : List Loc) (ls : Array Slot), va_P D vwCl (stW q cI cJ S) H → va_D A9 (stW q cI cJ S) → va_S A9 s9.heap H locs → lv_has ls 4 [(0, .ref (q 4)), (1, .int w), (2, .int x), (3, .int (nI k))] → W p9 l e9 ({ frames := 0, cells := 0, slots := 0, locals := 0 } : Room) s9 m9 (List.toArray [.ref (q 4), .int w]) below meth c9 H locs 0 0 (MQ below (va_Qi (fun r (_ : Unit) => r = (p_count S n w)) (fun _ t9 => va_P D vwCl (stW q cI cJ S) t9.heap) A9) (List.toArray [.ref (q 4), .int w]) s9 0 0 A9) (F0 m9 4 ls []) := by
    intro d
    induction d with
    | zero =>
      intro k x hf
      intro hkn; exact absurd hf (by omega)
    | succ d ih_4 =>
      intro k x hf_4 hkn_4 e4 H locs ls hP hD hS hl
      refine lv_iload_n hx hb dX2_countIn_4 rfl (lv_at hl 3 rfl) ?_
      refine lv_aload_n hx hb dX2_countIn_5 rfl (lv_at hl 0 rfl) ?_
      refine va_get (D := D) (ci := 2) (v := .int (S.1 8)) (C := RX2) (T := TX2) (N := 9) hx hb hts inX2 hown hK hP 4 rfl rfl 0 (by decide) (hts (.fieldLink RX2 36 "PumpOaths$Pumps" "count" "I") (List.mem_of_getElem? (i := 1) rfl)) (fun _ h9 => h9) rfl dX2_countIn_6 ?_
      refine lv_icmp_ge (tgt := 31) hx hb dX2_countIn_9 (by decide) (fun c_9_1 => ?_) (fun c_9_1 => ?_)
      · have c_9_1 : (S.1 8) ≤ (nI k) := c_9_1
        have hke_4 : n = k := (k_exitN c_9_1 hn hkn_4 (by omega)).symm
        subst hke_4
        refine lv_iload_n hx hb dX2_countIn_31 rfl (lv_at hl 2 rfl) ?_
        exact k_iret hx hb hr hlk hP hS dX2_countIn_32 rfl (by rw [p_count, e4]) (fun h => h)
      · have c_9_1 : ¬ (S.1 8) ≤ (nI k) := c_9_1
        have hkl_4 : k < n := k_bodyN c_9_1 hn hkn_4 (by omega)
        refine lv_aload_n hx hb dX2_countIn_12 rfl (lv_at hl 0 rfl) ?_
        refine va_get (D := D) (ci := 2) (v := .ref (q 7)) (C := RX2) (T := TX2) (N := 9) hx hb hts inX2 hown hK hP 4 rfl rfl 3 (by decide) (hts (.fieldLink RX2 18 "PumpOaths$Pumps" "mode" "[I") (List.mem_of_getElem? (i := 2) rfl)) (fun _ h9 => h9) rfl dX2_countIn_13 ?_
        refine lv_iload_n hx hb dX2_countIn_16 rfl (lv_at hl 3 rfl) ?_
        refine va_iald (f := S.2.2.1 4) hx hb hK hP 7 0 rfl rfl (k_in (k := k) rfl (by omega) (by decide)) dX2_countIn_17 ?_
        rw [show (nI k : Int32).toNatClampNeg = k from nI_clamp (by omega)]
        refine lv_iload_n hx hb dX2_countIn_18 rfl (lv_at hl 1 rfl) ?_
        refine lv_icmp_ne (tgt := 25) hx hb dX2_countIn_19 (by decide) (fun c_19_2 => ?_) (fun c_19_2 => ?_)
        · have c_19_2 : ¬ ((S.2.2.1 4) k) = w := c_19_2
          refine lv_iinc (v := (nI k) + 1) (lv' := [(3, .int ((nI k) + 1)), (0, .ref (q 4)), (1, .int w), (2, .int x)]) hx hb dX2_countIn_25 hl (k := 3) rfl rfl (by decide) rfl (fun ls hl => ?_)
          refine lv_goto (tgt := 4) hx hb dX2_countIn_28 (by decide) ?_
          rw [show ((nI k) + 1) = (nI (k + 1)) from nI_1 _] at hl
          exact ih_4 (k + 1) x (by omega) (by omega) (by rw [itr_s, e4]; simp [p_cntB, c_9_1, c_19_2]) _ _ _ hP hD hS (lv_sub hl [1, 2, 3, 0] rfl)
        · have c_19_2 : ((S.2.2.1 4) k) = w := c_19_2
          refine lv_iinc (v := x + 1) (lv' := [(2, .int (x + 1)), (0, .ref (q 4)), (1, .int w), (3, .int (nI k))]) hx hb dX2_countIn_22 hl (k := 2) rfl rfl (by decide) rfl (fun ls hl => ?_)
          refine lv_iinc (v := (nI k) + 1) (lv' := [(3, .int ((nI k) + 1)), (2, .int (x + 1)), (0, .ref (q 4)), (1, .int w)]) hx hb dX2_countIn_25 hl (k := 3) rfl rfl (by decide) rfl (fun ls hl => ?_)
          refine lv_goto (tgt := 4) hx hb dX2_countIn_28 (by decide) ?_
          rw [show ((nI k) + 1) = (nI (k + 1)) from nI_1 _] at hl
          exact ih_4 (k + 1) (x + 1) (by omega) (by omega) (by rw [itr_s, e4]; simp [p_cntB, c_9_1, c_19_2]) _ _ _ hP hD hS (lv_sub hl [2, 3, 1, 0] rfl)
  exact L_4_0 (n + 1) 0 0 (by omega) (by omega) (rfl) _ _ _ hP hD hS (lv_sub hl [2, 3, 1, 0] rfl)

set_option maxHeartbeats 1000000 in
set_option maxRecDepth 100000 in
theorem c_X2_allStarts (l : Launch) (D : va_G) (q : Nat → Nat) (cI cJ : ClassId) (S : SS) (n : Nat) (hn : S.1 8 = nI n) (hn6 : n ≤ 6) : kI l yX2_allStarts wsX2_allStarts ({ frames := 0, cells := 0, slots := 0, locals := 0 } : Room) D [(cI, .int), (cJ, .long)] [.ref (q 4)] (stW q cI cJ S) (p_all S n) (stW q cI cJ S) := by
  refine kBody.met (cc := cX2_allStarts) (maxL := 3) (ret := (some .int)) (by decide) rfl (Nat.le_of_ble_eq_true rfl) ?_
  intro p9 e9 s9 m9 below meth c9 A9 ls hx hb hr hml hts hown hlk hK hP hD hA hl
  have hown : s9.vm.findClass RX2 = some m9.cls := hown
  have inX2 : ∀ w ∈ wsX20, w ∈ wsX2_allStarts := fun w h => List.mem_cons_of_mem _ (List.mem_append_right _ (h))
  have hS : va_S A9 s9.heap s9.heap [] := va_S.rf
  have hl : lv_has ls 3 [(0, .ref (q 4))] := hl
  refine lv_iconst (v := 0) hx hb dX2_allStarts_0 (by decide) ?_
  refine lv_istore_n (lv' := [(1, .int 0), (0, .ref (q 4))]) hx hb dX2_allStarts_1 rfl hl (by decide) rfl (fun ls hl => ?_)
  refine lv_iconst (v := 0) hx hb dX2_allStarts_2 (by decide) ?_
  refine lv_istore_n (lv' := [(2, .int 0), (1, .int 0), (0, .ref (q 4))]) hx hb dX2_allStarts_3 rfl hl (by decide) rfl (fun ls hl => ?_)
  have L_4_0 : ∀ (d : Nat) (k : Nat) (x : Int32), n < k + d → k ≤ n → ∀  (e4 : itr (p_allB S) k 0 = x) (H : Heap) (locs : List Loc) (ls : Array Slot), va_P D vwCl (stW q cI cJ S) H → va_D A9 (stW q cI cJ S) → va_S A9 s9.heap H locs → lv_has ls 3 [(0, .ref (q 4)), (1, .int x), (2, .int (nI k))] → W p9 l e9 ({ frames := 0, cells := 0, slots := 0, locals := 0 } : Room) s9 m9 (List.toArray [.ref (q 4)]) below meth c9 H locs 0 0 (MQ below (va_Qi (fun r (_ : Unit) => r = (p_all S n)) (fun _ t9 => va_P D vwCl (stW q cI cJ S) t9.heap) A9) (List.toArray [.ref (q 4)]) s9 0 0 A9) (F0 m9 4 ls []) := by
    intro d
    induction d with
    | zero =>
      intro k x hf
      intro hkn; exact absurd hf (by omega)
    | succ d ih_4 =>
      intro k x hf_4 hkn_4 e4 H locs ls hP hD hS hl
      refine lv_iload_n hx hb dX2_allStarts_4 rfl (lv_at hl 2 rfl) ?_
      refine lv_aload_n hx hb dX2_allStarts_5 rfl (lv_at hl 0 rfl) ?_
      refine va_get (D := D) (ci := 2) (v := .int (S.1 8)) (C := RX2) (T := TX2) (N := 9) hx hb hts inX2 hown hK hP 4 rfl rfl 0 (by decide) (hts (.fieldLink RX2 36 "PumpOaths$Pumps" "count" "I") (List.mem_of_getElem? (i := 1) rfl)) (fun _ h9 => h9) rfl dX2_allStarts_6 ?_
      refine lv_icmp_ge (tgt := 27) hx hb dX2_allStarts_9 (by decide) (fun c_9_1 => ?_) (fun c_9_1 => ?_)
      · have c_9_1 : (S.1 8) ≤ (nI k) := c_9_1
        have hke_4 : n = k := (k_exitN c_9_1 hn hkn_4 (by omega)).symm
        subst hke_4
        refine lv_iload_n hx hb dX2_allStarts_27 rfl (lv_at hl 1 rfl) ?_
        exact k_iret hx hb hr hlk hP hS dX2_allStarts_28 rfl (by rw [p_all, e4]) (fun h => h)
      · have c_9_1 : ¬ (S.1 8) ≤ (nI k) := c_9_1
        have hkl_4 : k < n := k_bodyN c_9_1 hn hkn_4 (by omega)
        refine lv_iload_n hx hb dX2_allStarts_12 rfl (lv_at hl 1 rfl) ?_
        refine lv_aload_n hx hb dX2_allStarts_13 rfl (lv_at hl 0 rfl) ?_
        refine va_get (D := D) (ci := 2) (v := .ref (q 10)) (C := RX2) (T := TX2) (N := 9) hx hb hts inX2 hown hK hP 4 rfl rfl 6 (by decide) (hts (.fieldLink RX2 27 "PumpOaths$Pumps" "starts" "[I") (List.mem_of_getElem? (i := 2) rfl)) (fun _ h9 => h9) rfl dX2_allStarts_14 ?_
        refine lv_iload_n hx hb dX2_allStarts_17 rfl (lv_at hl 2 rfl) ?_
        refine va_iald (f := S.2.2.1 7) hx hb hK hP 10 0 rfl rfl (k_in (k := k) rfl (by omega) (by decide)) dX2_allStarts_18 ?_
        rw [show (nI k : Int32).toNatClampNeg = k from nI_clamp (by omega)]
        refine lv_iadd hx hb dX2_allStarts_19 ?_
        refine lv_istore_n (lv' := [(1, .int (x + ((S.2.2.1 7) k))), (0, .ref (q 4)), (2, .int (nI k))]) hx hb dX2_allStarts_20 rfl hl (by decide) rfl (fun ls hl => ?_)
        refine lv_iinc (v := (nI k) + 1) (lv' := [(2, .int ((nI k) + 1)), (1, .int (x + ((S.2.2.1 7) k))), (0, .ref (q 4))]) hx hb dX2_allStarts_21 hl (k := 2) rfl rfl (by decide) rfl (fun ls hl => ?_)
        refine lv_goto (tgt := 4) hx hb dX2_allStarts_24 (by decide) ?_
        rw [show ((nI k) + 1) = (nI (k + 1)) from nI_1 _] at hl
        exact ih_4 (k + 1) (x + ((S.2.2.1 7) k)) (by omega) (by omega) (by rw [itr_s, e4]; simp [p_allB, c_9_1]) _ _ _ hP hD hS (lv_sub hl [2, 1, 0] rfl)
  exact L_4_0 (n + 1) 0 0 (by omega) (by omega) (rfl) _ _ _ hP hD hS (lv_sub hl [2, 1, 0] rfl)

set_option maxHeartbeats 1000000 in
set_option maxRecDepth 100000 in
theorem c_X2_lead (l : Launch) (D : va_G) (q : Nat → Nat) (cI cJ : ClassId) (S : SS) (n : Nat) (hn : S.1 8 = nI n) (hn6 : n ≤ 6) : kI l yX2_lead wsX2_lead ({ frames := 0, cells := 0, slots := 0, locals := 0 } : Room) D [(cI, .int), (cJ, .long)] [.ref (q 4)] (stW q cI cJ S) (p_lead S n) (stW q cI cJ S) := by
  refine kBody.met (cc := cX2_lead) (maxL := 2) (ret := (some .int)) (by decide) rfl (Nat.le_of_ble_eq_true rfl) ?_
  intro p9 e9 s9 m9 below meth c9 A9 ls hx hb hr hml hts hown hlk hK hP hD hA hl
  have hown : s9.vm.findClass RX2 = some m9.cls := hown
  have inX2 : ∀ w ∈ wsX20, w ∈ wsX2_lead := fun w h => List.mem_cons_of_mem _ (List.mem_append_right _ (h))
  have hS : va_S A9 s9.heap s9.heap [] := va_S.rf
  have hl : lv_has ls 2 [(0, .ref (q 4))] := hl
  refine lv_iconst (v := 0) hx hb dX2_lead_0 (by decide) ?_
  refine lv_istore_n (lv' := [(1, .int 0), (0, .ref (q 4))]) hx hb dX2_lead_1 rfl hl (by decide) rfl (fun ls hl => ?_)
  have L_2_0 : ∀ (d : Nat) (k : Nat), n < k + d → k ≤ n → ∀  (hno : ∀ j, j < k → decide (S.2.2.1 5 j = 0) = false) (H : Heap) (locs : List Loc) (ls : Array Slot), va_P D vwCl (stW q cI cJ S) H → va_D A9 (stW q cI cJ S) → va_S A9 s9.heap H locs → lv_has ls 2 [(0, .ref (q 4)), (1, .int (nI k))] → W p9 l e9 ({ frames := 0, cells := 0, slots := 0, locals := 0 } : Room) s9 m9 (List.toArray [.ref (q 4)]) below meth c9 H locs 0 0 (MQ below (va_Qi (fun r (_ : Unit) => r = (p_lead S n)) (fun _ t9 => va_P D vwCl (stW q cI cJ S) t9.heap) A9) (List.toArray [.ref (q 4)]) s9 0 0 A9) (F0 m9 2 ls []) := by
    intro d
    induction d with
    | zero =>
      intro k  hf
      intro hkn; exact absurd hf (by omega)
    | succ d ih_2 =>
      intro k  hf_2 hkn_2 hno H locs ls hP hD hS hl
      refine lv_iload_n hx hb dX2_lead_2 rfl (lv_at hl 1 rfl) ?_
      refine lv_aload_n hx hb dX2_lead_3 rfl (lv_at hl 0 rfl) ?_
      refine va_get (D := D) (ci := 2) (v := .int (S.1 8)) (C := RX2) (T := TX2) (N := 9) hx hb hts inX2 hown hK hP 4 rfl rfl 0 (by decide) (hts (.fieldLink RX2 36 "PumpOaths$Pumps" "count" "I") (List.mem_of_getElem? (i := 1) rfl)) (fun _ h9 => h9) rfl dX2_lead_4 ?_
      refine lv_icmp_ge (tgt := 27) hx hb dX2_lead_7 (by decide) (fun c_7_1 => ?_) (fun c_7_1 => ?_)
      · have c_7_1 : (S.1 8) ≤ (nI k) := c_7_1
        have hke_2 : n = k := (k_exitN c_7_1 hn hkn_2 (by omega)).symm
        subst hke_2
        refine lv_iconst (v := (-1)) hx hb dX2_lead_27 (by decide) ?_
        exact k_iret hx hb hr hlk hP hS dX2_lead_28 rfl (by simp [p_lead, p_leadAt, frst_none hno]) (fun h => h)
      · have c_7_1 : ¬ (S.1 8) ≤ (nI k) := c_7_1
        have hkl_2 : k < n := k_bodyN c_7_1 hn hkn_2 (by omega)
        refine lv_aload_n hx hb dX2_lead_10 rfl (lv_at hl 0 rfl) ?_
        refine va_get (D := D) (ci := 2) (v := .ref (q 8)) (C := RX2) (T := TX2) (N := 9) hx hb hts inX2 hown hK hP 4 rfl rfl 4 (by decide) (hts (.fieldLink RX2 21 "PumpOaths$Pumps" "place" "[I") (List.mem_of_getElem? (i := 2) rfl)) (fun _ h9 => h9) rfl dX2_lead_11 ?_
        refine lv_iload_n hx hb dX2_lead_14 rfl (lv_at hl 1 rfl) ?_
        refine va_iald (f := S.2.2.1 5) hx hb hK hP 8 0 rfl rfl (k_in (k := k) rfl (by omega) (by decide)) dX2_lead_15 ?_
        rw [show (nI k : Int32).toNatClampNeg = k from nI_clamp (by omega)]
        refine lv_if_ne (tgt := 21) hx hb dX2_lead_16 (by decide) (fun c_16_2 => ?_) (fun c_16_2 => ?_)
        · have c_16_2 : ¬ ((S.2.2.1 5) k) = 0 := c_16_2
          refine lv_iinc (v := (nI k) + 1) (lv' := [(1, .int ((nI k) + 1)), (0, .ref (q 4))]) hx hb dX2_lead_21 hl (k := 1) rfl rfl (by decide) rfl (fun ls hl => ?_)
          refine lv_goto (tgt := 2) hx hb dX2_lead_24 (by decide) ?_
          rw [show ((nI k) + 1) = (nI (k + 1)) from nI_1 _] at hl
          exact ih_2 (k + 1) (by omega) (by omega) (k_ext hno (by simp [c_7_1, c_16_2])) _ _ _ hP hD hS (lv_sub hl [1, 0] rfl)
        · have c_16_2 : ((S.2.2.1 5) k) = 0 := c_16_2
          refine lv_iload_n hx hb dX2_lead_19 rfl (lv_at hl 1 rfl) ?_
          exact k_iret hx hb hr hlk hP hS dX2_lead_20 rfl (by rw [p_lead, show p_leadAt S n = k from frst_some (by simp [c_7_1, c_16_2]) hno hkl_2, if_pos hkl_2]) (fun h => h)
  exact L_2_0 (n + 1) 0 (by omega) (by omega) (fun j hj => absurd hj (Nat.not_lt_zero _)) _ _ _ hP hD hS (lv_sub hl [1, 0] rfl)
