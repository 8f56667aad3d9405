/-- a row copied whole -/
def o_cpB (g : Nat → Int64) (b : Nat) (k : Nat) (f : Nat → Int64) : Nat → Int64 := vp_updL f k (g (b + k))
theorem o_cp (g : Nat → Int64) (b : Nat) (f : Nat → Int64) : ∀ n j, j < n → itr (o_cpB g b) n f j = g (b + j)
  | 0, j, h => absurd h (Nat.not_lt_zero _)
  | n + 1, j, h => by
    rw [itr_s]
    unfold o_cpB
    by_cases e : j = n
    · subst e; rw [pk_uLs]
    · rw [pk_uLn e]; exact o_cp g b f n j (by omega)
theorem k_cellL {D : va_G} {a : Nat} {c : ClassId} {N : Nat} {f g : Nat → Int64} {H : Heap} (h : ∀ j, j < N → f j = g j) (hP : va_at D vwCl (a, .inl (c, N, .inr (.inl f))) H) : va_at D vwCl (a, .inl (c, N, .inr (.inl g))) H := by
  have e : vp_cell c (N, .inr (.inl f)) = vp_cell c (N, .inr (.inl g)) := by
    rw [vp_cell_l, vp_cell_l]
    exact k_arr (fun j hj => by rw [h j hj])
  show H[a]? = some (vp_cell c (N, .inr (.inl g)))
  rw [← e]
  exact hP
theorem moW_V {D : va_G} {q : Nat → Nat} {cI cJ : ClassId} {M : MS} {f g : Nat → Int64} {H : Heap} (h : ∀ j, j < 138 → f j = g j) (i : Nat) (hi : i < 2) (hP : va_P D vwCl (moW q cI cJ (o_setV M i f)) H) : va_P D vwCl (moW q cI cJ (o_setV M i g)) H := by
  rcases (show i = 0 ∨ i = 1 by omega) with rfl | rfl
  · exact k_setP (ws := moW q cI cJ M) (i := 1) (x := (q 1, .inl (cJ, 138, .inr (.inl f)))) (y := (q 1, .inl (cJ, 138, .inr (.inl g)))) (k_cellL h) hP
  · exact k_setP (ws := moW q cI cJ M) (i := 2) (x := (q 2, .inl (cJ, 138, .inr (.inl f)))) (y := (q 2, .inl (cJ, 138, .inr (.inl g)))) (k_cellL h) hP
def o_tries (M : MS) : MS := o_setV M 1 (M.2.1 0)
def m_goB (n t : Nat) (k : Nat) (f : Nat → Int64) : Nat → Int64 := m_pass f n (t + k)
def m_ok (w : Nat → Int64) (n t : Nat) : Prop := w 7 = lN n ∧ (∀ k, k < n → ∃ j, j < 6 ∧ w (96 + k) = lN j) ∧ w 8 = lN t
theorem m_flow_get {w : Nat → Int64} {n h k : Nat} (hn : n ≤ 6) (h1 : k ≠ 1) (h2 : k < 14 ∨ 18 < k) (h3 : k < 48 ∨ 96 ≤ k) : m_flow w n h k = w k := by
  unfold m_flow m_fl1
  rw [pk_uLn h1, pk_uLn (by omega), pk_uLn (by omega), pk_uLn (by omega), pk_uLn (by omega)]
  refine itr_out (f := m_flB) n w (fun i g hi => ?_)
  unfold m_flB
  split
  · rw [pk_uLn (by omega), pk_uLn h1, pk_uLn (by omega)]
  · rfl
theorem m_p6_get {f : Nat → Int64} {t k : Nat} (h1 : k ≠ 8) (h2 : k ≠ 23) (h3 : k ≠ 11) (h4 : k ≠ 12) : m_p6 f t k = f k := by
  unfold m_p6 m_p11 m_p8
  split
  · split
    · rw [pk_uLn h4, pk_uLn h3, pk_uLn h2, pk_uLn h1]
    · rw [pk_uLn h1]
  · rw [pk_uLn h1]
theorem m_p6_8 {f : Nat → Int64} {t : Nat} : m_p6 f t 8 = f 8 + 1 := by
  unfold m_p6 m_p11 m_p8
  split
  · split
    · rw [pk_uLn (by decide), pk_uLn (by decide), pk_uLn (by decide), pk_uLs]
    · rw [pk_uLs]
  · rw [pk_uLs]
theorem m_sh_get (g : Nat → Int64) : ∀ (i k : Nat), itr m_shB i g (96 + k) = if k < i then g (96 + k + 1) else g (96 + k)
  | 0, k => by simp [itr]
  | i + 1, k => by
    rw [itr_s]
    unfold m_shB
    by_cases h : k = i
    · subst h
      rw [pk_uLs, if_pos (Nat.lt_succ_self k), Nat.add_assoc]
      have := m_sh_get g k (k + 1)
      rw [if_neg (by omega)] at this
      exact this
    · rw [pk_uLn (by omega)]
      refine (m_sh_get g i k).trans ?_
      by_cases h2 : k < i
      · rw [if_pos h2, if_pos (by omega)]
      · rw [if_neg h2, if_neg (by omega)]
theorem m_rest_ord {w : Nat → Int64} {n k : Nat} (hn : n ≤ 6) (hk : k < n) : m_rest w n (96 + k) = if m_many w n 1 = 0 then w (96 + k) else if k + 1 < n then w (96 + k + 1) else w 96 := by
  have ho : ∀ j, 96 ≤ j → m_rest1 w n j = w j := fun j hj => itr_out (f := m_offB) n w (fun i g hi => pk_uLn (by omega))
  unfold m_rest
  split
  · rfl
  · by_cases e : k + 1 < n
    · rw [pk_uLn (by omega), m_sh_get, if_pos (by omega), if_pos e]
      exact ho _ (by omega)
    · rw [show 96 + k = 96 + (n - 1) by omega, pk_uLs, if_neg e]
      exact ho _ (by omega)
theorem m_pass_ok {w : Nat → Int64} {n t : Nat} (h : m_ok w n t) (hn6 : n ≤ 6) (hb : t < 2 ^ 40) : m_ok (m_pass w n t) n (t + 1) := by
  obtain ⟨h7, hord, h8⟩ := h
  have hord2 : ∀ k, k < n → ∃ j, j < 6 ∧ m_p12 w n t (96 + k) = lN j := fun k hk => by
    obtain ⟨j, hj, e⟩ := hord k hk
    exact ⟨j, hj, (m_p12_get hn6 (by omega) (by omega) (by omega)).trans e⟩
  have hg : ∀ k, (k < 14 ∨ 18 < k) → (k < 48 ∨ 96 ≤ k) → k ≠ 1 → k ≠ 8 → k ≠ 10 → k ≠ 11 → k ≠ 12 → k ≠ 23 → m_pass w n t k = m_p3 (m_p12 w n t) n k := by
    intro k a b h1 h8 h10 h11 h12 h23
    unfold m_pass
    rw [m_p6_get h8 h23 h11 h12]
    unfold m_p5
    rw [pk_uLn h10]
    exact m_flow_get hn6 h1 a b
  refine ⟨?_, fun k hk => ?_, ?_⟩
  · rw [hg 7 (by omega) (by omega) (by omega) (by omega) (by omega) (by omega) (by omega) (by omega), m_p3_get hn6 hord2 (by omega) (by omega) (by omega), m_p12_get hn6 (by omega) (by omega) (by omega), h7]
  · rw [hg _ (by omega) (by omega) (by omega) (by omega) (by omega) (by omega) (by omega) (by omega)]
    unfold m_p3
    split
    · split
      · exact hord2 k hk
      · rename_i hc
        obtain ⟨j, hj, e⟩ := m_starterIn hord2 hc
        rw [e, nI_clamp (by omega), m_start_get hj (by omega) (by omega) (by omega) (by omega)]
        exact hord2 k hk
    · rw [m_rest_ord hn6 hk]
      split
      · exact hord2 k hk
      · split
        · rename_i h1; exact hord2 (k + 1) h1
        · exact hord2 0 (by omega)
  · unfold m_pass
    rw [m_p6_8]
    unfold m_p5
    rw [pk_uLn (by decide)]
    unfold m_p4
    rw [m_flow_get hn6 (by decide) (by decide) (by decide), m_p3_get hn6 hord2 (by decide) (by decide) (by decide), m_p12_get hn6 (by decide) (by decide) (by decide), h8]
    exact lN_1 t
theorem m_go_ok {w : Nat → Int64} {n t : Nat} (h : m_ok w n t) (hn6 : n ≤ 6) : ∀ k, t + k < 2 ^ 40 → m_ok (itr (m_goB n t) k w) n (t + k)
  | 0, _ => h
  | k + 1, hb => m_pass_ok (m_go_ok h hn6 k (by omega)) hn6 (by omega)

set_option maxHeartbeats 1000000 in
set_option maxRecDepth 100000 in
theorem c_X5_tries (l : Launch) (D : va_G) (q : Nat → Nat) (cI cJ : ClassId) (M : MS)  : kV l yX5_tries wsX5_tries ({ frames := 0, cells := 0, slots := 0, locals := 0 } : Room) D [(cI, .int), (cJ, .long)] [.ref (q 0)] (moW q cI cJ M) (moW q cI cJ (o_tries M)) := by
  refine kBody.met (cc := cX5_tries) (maxL := 2) (ret := none) (by decide) rfl (Nat.le_of_ble_eq_true rfl) ?_
  intro p9 e9 s9 m9 below meth c9 A9 ls hx hb hr hml hts hown hlk hK hP hD hA hl
  have hown : s9.vm.findClass RX5 = some m9.cls := hown
  have inX5 : ∀ w ∈ wsX50, w ∈ wsX5_tries := fun w h => List.mem_cons_of_mem _ (List.mem_append_right _ (h))
  have hS : va_S A9 s9.heap s9.heap [] := va_S.rf
  have hl : lv_has ls 2 [(0, .ref (q 0))] := hl
  refine lv_iconst (v := 0) hx hb dX5_tries_0 (by decide) ?_
  refine lv_istore_n (lv' := [(1, .int 0), (0, .ref (q 0))]) hx hb dX5_tries_1 rfl hl (by decide) rfl (fun ls hl => ?_)
  have L_2_0 : ∀ (d : Nat) (k : Nat) (f : Nat → Int64), 138 < k + d → k ≤ 138 → ∀  (e2 : itr (o_cpB (M.2.1 0) 0) k (M.2.1 1) = f) (H : Heap) (locs : List Loc) (ls : Array Slot), va_P D vwCl (moW q cI cJ (o_setV M 1 f)) H → va_D A9 (moW q cI cJ (o_setV M 1 f)) → va_S A9 s9.heap H locs → lv_has ls 2 [(0, .ref (q 0)), (1, .int (nI k))] → W p9 l e9 ({ frames := 0, cells := 0, slots := 0, locals := 0 } : Room) s9 m9 (List.toArray [.ref (q 0)]) below meth c9 H locs 0 0 (MQ below (va_Qv (fun (_ : Unit) => True) (fun _ t9 => va_P D vwCl (moW q cI cJ (o_tries M)) t9.heap) A9) (List.toArray [.ref (q 0)]) s9 0 0 A9) (F0 m9 2 ls []) := by
    intro d
    induction d with
    | zero =>
      intro k f hf
      intro hkn; exact absurd hf (by omega)
    | succ d ih_2 =>
      intro k f hf_2 hkn_2 e2 H locs ls hP hD hS hl
      refine lv_iload_n hx hb dX5_tries_2 rfl (lv_at hl 1 rfl) ?_
      refine lv_sipush (v := 138) hx hb dX5_tries_3 (by decide) ?_
      refine lv_icmp_ge (tgt := 27) hx hb dX5_tries_6 (by decide) (fun c_6_1 => ?_) (fun c_6_1 => ?_)
      · have c_6_1 : 138 ≤ (nI k) := c_6_1
        have hke_2 : 138 = k := (k_exitN c_6_1 rfl hkn_2 (by decide)).symm
        subst hke_2
        exact k_vret hx hb hr hlk hP hS dX5_tries_27 (moW_V (fun j hj => by rw [← e2, o_cp (M.2.1 0) 0 _ 138 j hj, Nat.zero_add]) 1 (by decide))
      · have c_6_1 : ¬ 138 ≤ (nI k) := c_6_1
        have hkl_2 : k < 138 := k_bodyN c_6_1 rfl hkn_2 (by decide)
        refine lv_aload_n hx hb dX5_tries_9 rfl (lv_at hl 0 rfl) ?_
        refine va_get (D := D) (ci := 5) (v := .ref (q 2)) (C := RX5) (T := TX5) (N := 14) hx hb hts inX5 hown hK hP 0 rfl rfl 1 (by decide) (hts (.fieldLink RX5 13 "PumpOathsModel" "tried" "[J") (List.mem_of_getElem? (i := 1) rfl)) (fun _ h9 => h9) rfl dX5_tries_10 ?_
        refine lv_iload_n hx hb dX5_tries_13 rfl (lv_at hl 1 rfl) ?_
        refine lv_aload_n hx hb dX5_tries_14 rfl (lv_at hl 0 rfl) ?_
        refine va_get (D := D) (ci := 5) (v := .ref (q 1)) (C := RX5) (T := TX5) (N := 14) hx hb hts inX5 hown hK hP 0 rfl rfl 0 (by decide) (hts (.fieldLink RX5 7 "PumpOathsModel" "now" "[J") (List.mem_of_getElem? (i := 2) rfl)) (fun _ h9 => h9) rfl dX5_tries_15 ?_
        refine lv_iload_n hx hb dX5_tries_18 rfl (lv_at hl 1 rfl) ?_
        refine va_lald (f := M.2.1 0) hx hb hK hP 1 1 rfl rfl (k_in (k := k) rfl (by omega) (by decide)) dX5_tries_19 ?_
        rw [show (nI k : Int32).toNatClampNeg = k from nI_clamp (by omega)]
        refine va_last (f := f) hx hb hK hP hD hS 2 1 rfl rfl (k_in (k := k) rfl (by omega) (by decide)) dX5_tries_20 (fun H locs hP hD hS => ?_)
        rw [show (nI k : Int32).toNatClampNeg = k from nI_clamp (by omega)] at hP hD
        have hP : va_P D vwCl (moW q cI cJ (o_setV M 1 (vp_updL f k ((M.2.1 0) k)))) H := hP
        have hD : va_D A9 (moW q cI cJ (o_setV M 1 (vp_updL f k ((M.2.1 0) k)))) := hD
        refine lv_iinc (v := (nI k) + 1) (lv' := [(1, .int ((nI k) + 1)), (0, .ref (q 0))]) hx hb dX5_tries_21 hl (k := 1) rfl rfl (by decide) rfl (fun ls hl => ?_)
        refine lv_goto (tgt := 2) hx hb dX5_tries_24 (by decide) ?_
        rw [show ((nI k) + 1) = (nI (k + 1)) from nI_1 _] at hl
        exact ih_2 (k + 1) (vp_updL f k ((M.2.1 0) k)) (by omega) (by omega) (by rw [itr_s, e2]; simp [o_cpB, Nat.zero_add, c_6_1]) _ _ _ hP hD hS (lv_sub hl [1, 0] rfl)
  exact L_2_0 (138 + 1) 0 (M.2.1 1) (by omega) (by omega) (rfl) _ _ _ hP hD hS (lv_sub hl [1, 0] rfl)

set_option maxHeartbeats 1000000 in
set_option maxRecDepth 100000 in
theorem c_X5_goesOn (l : Launch) (D : va_G) (q : Nat → Nat) (cI cJ : ClassId) (M : MS) (x : Int32) (n t : Nat) (hok : m_ok (M.2.1 1) n t) (hn6 : n ≤ 6) (htb : t < 2 ^ 38) : kV l yX5_goesOn wsX5_goesOn ({ frames := 4, cells := 0, slots := 0, locals := 90 } : Room) D [(cI, .int), (cJ, .long)] [.ref (q 0), .int x] (moW q cI cJ M) (moW q cI cJ (o_setV M 1 (itr (m_goB n t) x.toNatClampNeg (M.2.1 1)))) := by
  refine kBody.met (cc := cX5_goesOn) (maxL := 3) (ret := none) (by decide) rfl (Nat.le_of_ble_eq_true rfl) ?_
  intro p9 e9 s9 m9 below meth c9 A9 ls hx hb hr hml hts hown hlk hK hP hD hA hl
  have hown : s9.vm.findClass RX5 = some m9.cls := hown
  have inX5 : ∀ w ∈ wsX50, w ∈ wsX5_goesOn := fun w h => List.mem_cons_of_mem _ (List.mem_append_right _ (h))
  have hS : va_S A9 s9.heap s9.heap [] := va_S.rf
  have hl : lv_has ls 3 [(0, .ref (q 0)), (1, .int x)] := hl
  have hcl := k_clt x
  refine lv_iconst (v := 0) hx hb dX5_goesOn_0 (by decide) ?_
  refine lv_istore_n (lv' := [(2, .int 0), (0, .ref (q 0)), (1, .int x)]) hx hb dX5_goesOn_1 rfl hl (by decide) rfl (fun ls hl => ?_)
  have L_2_0 : ∀ (d : Nat) (k : Nat) (f : Nat → Int64), x.toNatClampNeg < k + d → k ≤ x.toNatClampNeg → ∀  (e2 : itr (m_goB n t) k (M.2.1 1) = f) (hq : m_ok f n (t + k)) (H : Heap) (locs : List Loc) (ls : Array Slot), va_P D vwCl (moW q cI cJ (o_setV M 1 f)) H → va_D A9 (moW q cI cJ (o_setV M 1 f)) → va_S A9 s9.heap H locs → lv_has ls 3 [(0, .ref (q 0)), (1, .int x), (2, .int (nI k))] → W p9 l e9 ({ frames := 4, cells := 0, slots := 0, locals := 90 } : Room) s9 m9 (List.toArray [.ref (q 0), .int x]) below meth c9 H locs 0 0 (MQ below (va_Qv (fun (_ : Unit) => True) (fun _ t9 => va_P D vwCl (moW q cI cJ (o_setV M 1 (itr (m_goB n t) x.toNatClampNeg (M.2.1 1)))) t9.heap) A9) (List.toArray [.ref (q 0), .int x]) s9 0 0 A9) (F0 m9 2 ls []) := by
    intro d
    induction d with
    | zero =>
      intro k f hf
      intro hkn; exact absurd hf (by omega)
    | succ d ih_2 =>
      intro k f hf_2 hkn_2 e2 hq H locs ls hP hD hS hl
      refine lv_iload_n hx hb dX5_goesOn_2 rfl (lv_at hl 2 rfl) ?_
      refine lv_iload_n hx hb dX5_goesOn_3 rfl (lv_at hl 1 rfl) ?_
      refine lv_icmp_ge (tgt := 20) hx hb dX5_goesOn_4 (by decide) (fun c_4_1 => ?_) (fun c_4_1 => ?_)
      · have c_4_1 : x ≤ (nI k) := c_4_1
        have hke_2 : x.toNatClampNeg = k := (k_exit c_4_1 hkn_2).symm
        subst hke_2
        exact k_vret hx hb hr hlk hP hS dX5_goesOn_20 (k_P (by rw [e2]))
      · have c_4_1 : ¬ x ≤ (nI k) := c_4_1
        have hkl_2 : k < x.toNatClampNeg := k_body c_4_1 hkn_2
        refine lv_aload_n hx hb dX5_goesOn_7 rfl (lv_at hl 0 rfl) ?_
        refine va_get (D := D) (ci := 5) (v := .ref (q 2)) (C := RX5) (T := TX5) (N := 14) hx hb hts inX5 hown hK hP 0 rfl rfl 1 (by decide) (hts (.fieldLink RX5 13 "PumpOathsModel" "tried" "[J") (List.mem_of_getElem? (i := 1) rfl)) (fun _ h9 => h9) rfl dX5_goesOn_8 ?_
        refine k_callv (a := List.take 2 (moW q cI cJ (o_setV M 1 f))) (z := List.drop 3 (moW q cI cJ (o_setV M 1 f))) (wc := rwW (q 2) cJ f) (wc' := rwW (q 2) cJ (m_pass f n (t + k))) (w' := moW q cI cJ (o_setV M 1 (m_pass f n (t + k)))) (va_runS (As := [.ref (q 2)]) (rest := []) ⟨hx, hb, hml, hown, hts⟩ (c_X5_passes l D (q 2) cI cJ f n hq.1 hn6 hq.2.1 (t + k) hq.2.2 (by omega) _) (cwS 1 hts gX5_goesOn_X5_passes rfl rfl rfl (by decide +kernel) ⟨Nat.le_of_ble_eq_true rfl, Nat.le_of_ble_eq_true rfl⟩) ⟨kB_blind, k_pre (a := List.take 2 (moW q cI cJ (o_setV M 1 f))) (z := List.drop 3 (moW q cI cJ (o_setV M 1 f))) rfl hK hP hD⟩ rfl rfl hl.1 rfl (lv_room (Nat.le_of_ble_eq_true rfl)) dX5_goesOn_11 ⟨Nat.zero_le _, Nat.zero_le _⟩) rfl rfl (rwW_ad _ _ _ _) hP hD hS hA (fun H locs hP hD hS => ?_)
        refine lv_iinc (v := (nI k) + 1) (lv' := [(2, .int ((nI k) + 1)), (0, .ref (q 0)), (1, .int x)]) hx hb dX5_goesOn_14 hl (k := 2) rfl rfl (by decide) rfl (fun ls hl => ?_)
        refine lv_goto (tgt := 2) hx hb dX5_goesOn_17 (by decide) ?_
        rw [show ((nI k) + 1) = (nI (k + 1)) from nI_1 _] at hl
        exact ih_2 (k + 1) (m_pass f n (t + k)) (by omega) (by omega) (by rw [itr_s, e2]; simp [m_goB, c_4_1]) (m_pass_ok hq hn6 (by omega)) _ _ _ hP hD hS (lv_sub hl [1, 2, 0] rfl)
  exact L_2_0 (x.toNatClampNeg + 1) 0 (M.2.1 1) (by omega) (by omega) (rfl) (hok) _ _ _ hP hD hS (lv_sub hl [1, 2, 0] rfl)
