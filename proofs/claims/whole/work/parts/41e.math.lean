/-! MATHEMATICS: the text is read alike -/
/-- what reading keeps in the class: length, orders, rows, an error -/
def tK (T T' : TS) : Prop := T'.1 0 = T.1 0 ∧ T'.1 1 = T.1 1 ∧ T'.2 = T.2 ∧ (¬ T.1 3 = -1 → T'.1 3 = T.1 3)
theorem tK_rf (T : TS) : tK T T := ⟨rfl, rfl, rfl, fun _ => rfl⟩
theorem tK_tr {T U V : TS} (h : tK T U) (g : tK U V) : tK T V := ⟨g.1.trans h.1, g.2.1.trans h.2.1, g.2.2.1.trans h.2.2.1, fun e => (g.2.2.2 (by rw [h.2.2.2 e]; exact e)).trans (h.2.2.2 e)⟩
theorem tK_2 (T : TS) (x : Int32) : tK T (t_setI T 2 x) := ⟨rfl, rfl, rfl, fun _ => rfl⟩
theorem tK_fail (T : TS) (x : Int32) : tK T (t_fail T x) := by
  unfold t_fail
  split
  · next e => exact ⟨rfl, rfl, rfl, fun h => absurd e h⟩
  · exact tK_rf T
theorem tK_exp (T : TS) (c : Int32) : tK T (t_exp T c) := by
  refine tK_tr ?_ (tK_2 _ _)
  unfold t_exp1
  split
  · exact tK_rf T
  · exact tK_fail _ _
theorem tK_pump (T : TS) : tK T (t_pump T) := by
  refine tK_tr ?_ (tK_2 _ _)
  unfold t_pump1
  split
  · exact tK_rf T
  · exact tK_fail _ _
theorem tK_dgt (T : TS) : tK T (t_dgt T) := by
  refine tK_tr ?_ (tK_2 _ _)
  unfold t_dgt1
  split
  · exact tK_rf T
  · exact tK_fail _ _
theorem tK_hour (T : TS) : tK T (t_hour T) := by
  have h := tK_tr (tK_dgt T) (tK_dgt (t_dgt T))
  unfold t_hour
  split
  · exact h
  · exact tK_tr h (tK_fail _ _)
theorem t_numB_e (k : Nat) (g : TS × Int32) : t_numB k g = if t_dig g.1 = true then (t_setI g.1 2 (g.1.1 2 + 1), 10 * g.2 + t_peek g.1 - 48) else g := rfl
theorem tK_numL (T : TS) (x : Int32) : ∀ d, tK T (itr t_numB d (T, x)).1
  | 0 => tK_rf T
  | d + 1 => by
    rw [itr_s, t_numB_e]
    split
    · exact tK_tr (tK_numL T x d) (tK_2 _ _)
    · exact tK_numL T x d
theorem tK_num (T : TS) (d : Nat) (lo hi : Int32) : tK T (t_num T d lo hi) := by
  have h : tK T (t_numL T d).1 := tK_numL T 0 d
  have h2 : tK T (t_num2 T (t_numL T d).1) := by
    unfold t_num2
    split
    · exact tK_tr h (tK_fail _ _)
    · exact h
  unfold t_num t_num3
  split
  · exact tK_tr h2 (tK_fail _ _)
  · exact h2
/-- an error doesn't go away -/
theorem tK_no {T T' : TS} (h : tK T T') (e : T'.1 3 = -1) : T.1 3 = -1 := by
  by_cases q : T.1 3 = -1
  · exact q
  · exact absurd ((h.2.2.2 q).symm.trans e) q
/-- class and model stand at the same byte, or have the same error -/
def Sy (T : TS) (M : MS) (b : Nat) : Prop := T.1 0 = M.1 1 ∧ (∃ le, le ≤ 100 ∧ M.1 1 = nI le) ∧ (∀ i, i < 100 → T.2 0 i = M.2.2 0 i) ∧ T.1 3 = M.1 4 ∧ (T.1 3 = -1 → ∃ a, a ≤ b ∧ T.1 2 = nI a ∧ M.1 3 = nI a)
theorem Sy_mono {T : TS} {M : MS} {b b' : Nat} (h : Sy T M b) (hb : b ≤ b') : Sy T M b' := ⟨h.1, h.2.1, h.2.2.1, h.2.2.2.1, fun e => by
  obtain ⟨a, h1, h2⟩ := h.2.2.2.2 e
  exact ⟨a, by omega, h2⟩⟩
theorem Sy_err {T T' : TS} {M M' : MS} {b : Nat} (h : Sy T M b) (hne : ¬ T.1 3 = -1) (hK : tK T T') (m1 : M'.1 1 = M.1 1) (m2 : M'.2.2 0 = M.2.2 0) (m4 : M'.1 4 = M.1 4) (b' : Nat) : Sy T' M' b' := by
  obtain ⟨h0, h1, h2, h3, -⟩ := h
  refine ⟨by rw [hK.1, m1]; exact h0, by rw [m1]; exact h1, fun i hi => by rw [hK.2.2.1, m2]; exact h2 i hi, by rw [hK.2.2.2 hne, m4]; exact h3, fun e => absurd (tK_no hK e) hne⟩
theorem Sy_fail {T : TS} {M : MS} {b : Nat} (h : Sy T M b) {x y : Int32} {c : Nat} (hc : c < 2 ^ 31) (hx : x = nI c) (hy : y = nI c) (b' : Nat) : Sy (t_fail T x) (o_fail M y) b' ∧ ¬ (t_fail T x).1 3 = -1 := by
  obtain ⟨h0, h1, h2, h3, h4⟩ := id h
  by_cases e : T.1 3 = -1
  · have e1 : t_fail T x = t_setI T 3 x := by unfold t_fail; rw [if_pos e]
    have e2 : (o_fail M y).1 4 = y := by
      show (if M.1 4 = -1 then y else M.1 4) = y
      rw [← h3, if_pos e]
    have e3 : (t_setI T 3 x).1 3 = x := rfl
    have hne : ¬ x = -1 := by rw [hx]; exact nI_m1 hc
    rw [e1]
    exact ⟨⟨h0, h1, h2, by rw [e2, hy, e3, hx], fun q => absurd (e3.symm.trans q) hne⟩, fun q => hne (e3.symm.trans q)⟩
  · have e1 : t_fail T x = T := by unfold t_fail; rw [if_neg e]
    have e2 : (o_fail M y).1 4 = M.1 4 := by
      show (if M.1 4 = -1 then y else M.1 4) = M.1 4
      rw [← h3, if_neg e]
    rw [e1]
    exact ⟨⟨h0, h1, h2, by rw [e2]; exact h3, fun q => absurd q e⟩, e⟩
theorem Sy_look {T : TS} {M : MS} {b : Nat} (h : Sy T M b) (hb : b < 1000) (e : T.1 3 = -1) : t_peek T = o_look M ∧ (¬ o_look M = -1 → ∃ a, a < 100 ∧ T.1 2 = nI a ∧ M.1 3 = nI a) := by
  obtain ⟨h0, ⟨le, hle, h1⟩, h2, h3, h4⟩ := h
  obtain ⟨a, ha, a1, a2⟩ := h4 e
  have hcl : (nI a).toNatClampNeg = a := nI_clamp (by omega)
  unfold t_peek o_look
  rw [h0, h1, a1, a2, hcl]
  by_cases c : a < le
  · have c1 : ¬ nI le ≤ nI a := nI_ge c (by omega)
    rw [if_pos ⟨nI_pos (by omega), c1, nI_ge (b := 100) (by omega) (by omega)⟩, if_neg c1]
    exact ⟨h2 a (by omega), fun _ => ⟨a, by omega, rfl, rfl⟩⟩
  · have c1 : nI le ≤ nI a := nI_le (by omega) (by omega)
    rw [if_neg (fun q => q.2.1 c1), if_pos c1]
    exact ⟨rfl, fun q => absurd rfl q⟩
theorem Sy_at {T : TS} {M : MS} {b : Nat} (h : Sy T M b) (e : T.1 3 = -1) (b' : Nat) (hb : b + 1 ≤ b') : Sy (t_setI T 2 (T.1 2 + 1)) (o_setI M 3 (M.1 3 + 1)) b' := by
  obtain ⟨h0, h1, h2, h3, h4⟩ := h
  obtain ⟨a, ha, a1, a2⟩ := h4 e
  refine ⟨h0, h1, h2, h3, fun _ => ⟨a + 1, by omega, ?_, ?_⟩⟩
  · show T.1 2 + 1 = _
    rw [a1, nI_1]
  · show M.1 3 + 1 = _
    rw [a2, nI_1]
theorem Sy_exp {T : TS} {M : MS} {b : Nat} (h : Sy T M b) (hb : b < 1000) (c : Int32) (hc : ¬ c = -1) : Sy (t_exp T c) (A_X5_sign_s0 M c) 100 := by
  have h3 := h.2.2.2.1
  by_cases e : T.1 3 = -1
  · obtain ⟨hl, hl2⟩ := Sy_look h hb e
    obtain ⟨a, ha, a1, a2⟩ := h.2.2.2.2 e
    unfold A_X5_sign_s0
    rw [if_pos (h3.symm.trans e)]
    by_cases q : o_look M = c
    · obtain ⟨a', ha', b1, b2⟩ := hl2 (by rw [q]; exact hc)
      have e1 : t_exp1 T c = T := by unfold t_exp1; rw [if_pos (hl.trans q)]
      rw [if_pos q]
      unfold t_exp
      rw [e1]
      exact Sy_at ⟨h.1, h.2.1, h.2.2.1, h3, fun _ => ⟨a', by omega, b1, b2⟩⟩ e 100 (by omega : 99 + 1 ≤ 100)
    · have e1 : t_exp1 T c = t_fail T (T.1 2) := by unfold t_exp1; rw [if_neg (fun z => q (hl.symm.trans z))]
      rw [if_neg q]
      unfold t_exp
      rw [e1]
      obtain ⟨hs, hne⟩ := Sy_fail h (c := a) (by omega) a1 a2 100
      exact Sy_err hs hne (tK_2 _ _) rfl rfl rfl 100
  · have e2 : A_X5_sign_s0 M c = M := by unfold A_X5_sign_s0; rw [if_neg (fun q => e (h3.trans q))]
    rw [e2]
    exact Sy_err h e (tK_exp T c) rfl rfl rfl 100
theorem dig_eq (x : Int32) : m_in x.toInt64 48 57 = decide (¬ x < 48 ∧ ¬ 57 < x) := (m_c_in x 48 57 rfl rfl).trans rfl
theorem dig_v {x : Int32} (h : ¬ x < 48 ∧ ¬ 57 < x) : ∃ j, j ≤ 9 ∧ x = nI (48 + j) ∧ x - 48 = nI j := by
  obtain ⟨v, h1, h2, rfl⟩ := c_in_t (x := x) (lo := 48) (hi := 57) (a := 48) (b := 57) (decide_eq_true h) rfl rfl (by omega) (by omega)
  exact ⟨v - 48, by omega, by congr 1; omega, pk_sub (b := 48) h1⟩
theorem Sy_dgt {T : TS} {M : MS} {b : Nat} (h : Sy T M b) (hb : b < 900) : Sy (t_dgt T) (A_X5_digit_s0 M 9) (b + 1) ∧ ((t_dgt T).1 3 = -1 → (∃ j, j ≤ 9 ∧ t_dgtR T = nI j) ∧ t_dgtR T = (A_X5_digit_s0 M 9).1 5) := by
  have h3 := h.2.2.2.1
  by_cases e : T.1 3 = -1
  · obtain ⟨hl, hl2⟩ := Sy_look h (by omega) e
    obtain ⟨a, ha, a1, a2⟩ := h.2.2.2.2 e
    unfold A_X5_digit_s0
    rw [if_pos (h3.symm.trans e)]
    by_cases q : ¬ o_look M < 48 ∧ ¬ 57 < o_look M
    · obtain ⟨j, hj, j1, j2⟩ := dig_v q
      have qd : o_dig M = true := by unfold o_dig; rw [dig_eq]; exact decide_eq_true q
      have qt : t_dig T = true := by unfold t_dig; rw [hl]; exact decide_eq_true q
      have e1 : t_dgt1 T = T := by unfold t_dgt1; rw [if_pos qt]
      have c9 : ¬ (9 : Int32) < o_look M - 48 := by rw [j2]; exact nI_nlt (a := 9) hj (by omega)
      rw [if_pos qd, if_neg c9]
      have hr : t_dgtR T = o_look M - 48 := by unfold t_dgtR; rw [e1, hl]
      refine ⟨?_, fun _ => ⟨⟨j, hj, hr.trans j2⟩, hr⟩⟩
      unfold t_dgt
      rw [e1]
      exact Sy_at (M := o_setI M 5 (o_look M - 48)) h e (b + 1) (Nat.le_refl _)
    · have qd : ¬ o_dig M = true := by unfold o_dig; rw [dig_eq, decide_eq_true_eq]; exact q
      have qt : ¬ t_dig T = true := by unfold t_dig; rw [hl, decide_eq_true_eq]; exact q
      have e1 : t_dgt1 T = t_fail T (T.1 2) := by unfold t_dgt1; rw [if_neg qt]
      rw [if_neg qd]
      obtain ⟨hs, hne⟩ := Sy_fail (M := o_setI M 5 0) h (c := a) (by omega) a1 a2 (b + 1)
      have hK := tK_2 (t_fail T (T.1 2)) ((t_fail T (T.1 2)).1 2 + 1)
      unfold t_dgt
      rw [e1]
      exact ⟨Sy_err hs hne hK rfl rfl rfl _, fun z => absurd (tK_no hK z) hne⟩
  · refine ⟨Sy_err h e (tK_dgt T) ?_ ?_ ?_ _, fun z => absurd (tK_no (tK_dgt T) z) e⟩
    · exact o_digit_I M 9 (by decide) (by decide) (by decide)
    · rw [o_digit_2]
    · unfold A_X5_digit_s0
      have e9 : ¬ M.1 4 = -1 := fun q => e (h3.trans q)
      rw [if_neg e9]
      exact if_neg e9
theorem pump_v (x : Int32) : (¬ x - 48 < 0 ∧ x - 48 < 6) ↔ ((¬ x < 48 ∧ ¬ 57 < x) ∧ ¬ 5 < x - 48) := by
  constructor
  · rintro ⟨h1, h2⟩
    obtain ⟨j, hj, e⟩ := nI_of h1
    rw [e] at h2
    have h6 := (nI_ltI (b := 6) hj (by omega)).mp h2
    have ex : x = nI (48 + j) := by
      have : x = x - 48 + 48 := by simp
      rw [this, e, show (48 : Int32) = nI 48 from rfl, nI_add, Nat.add_comm]
    rw [e, ex]
    exact ⟨⟨nI_nlt (b := 48) (by omega) (by omega), nI_nlt (a := 57) (by omega) (by omega)⟩, nI_nlt (a := 5) (by omega) (by omega)⟩
  · rintro ⟨h1, h2⟩
    obtain ⟨j, hj, -, e⟩ := dig_v h1
    rw [e] at h2 ⊢
    have h5 : j < 6 := by
      rcases Nat.lt_or_ge 5 j with q | q
      · exact absurd (nI_lt (a := 5) q (by omega)) h2
      · omega
    exact ⟨nI_pos (by omega), nI_lt (b := 6) h5 (by omega)⟩
theorem Sy_pump {T : TS} {M : MS} {b : Nat} (h : Sy T M b) (hb : b < 900) : Sy (t_pump T) (A_X5_digit_s0 M 5) (b + 1) ∧ ((t_pump T).1 3 = -1 → t_peek T - 48 = (A_X5_digit_s0 M 5).1 5) := by
  have h3 := h.2.2.2.1
  by_cases e : T.1 3 = -1
  · obtain ⟨hl, hl2⟩ := Sy_look h (by omega) e
    obtain ⟨a, ha, a1, a2⟩ := h.2.2.2.2 e
    have hfail : ∀ M' : MS, M' = o_fail (o_setI M 5 0) (M.1 3) → t_pump1 T = t_fail T (T.1 2) → Sy (t_pump T) M' (b + 1) ∧ ((t_pump T).1 3 = -1 → t_peek T - 48 = M'.1 5) := fun M' hM' e1 => by
      obtain ⟨hs, hne⟩ := Sy_fail (M := o_setI M 5 0) h (c := a) (by omega) a1 a2 (b + 1)
      have hK := tK_2 (t_fail T (T.1 2)) ((t_fail T (T.1 2)).1 2 + 1)
      subst hM'
      unfold t_pump
      rw [e1]
      exact ⟨Sy_err hs hne hK rfl rfl rfl _, fun z => absurd (tK_no hK z) hne⟩
    unfold A_X5_digit_s0
    rw [if_pos (h3.symm.trans e)]
    by_cases q : ¬ o_look M < 48 ∧ ¬ 57 < o_look M
    · have qd : o_dig M = true := by unfold o_dig; rw [dig_eq]; exact decide_eq_true q
      rw [if_pos qd]
      by_cases q5 : (5 : Int32) < o_look M - 48
      · rw [if_pos q5]
        exact hfail _ rfl (by unfold t_pump1; rw [hl, if_neg (fun z => ((pump_v _).mp z).2 q5)])
      · rw [if_neg q5]
        have e1 : t_pump1 T = T := by unfold t_pump1; rw [hl, if_pos ((pump_v _).mpr ⟨q, q5⟩)]
        refine ⟨?_, fun _ => by rw [hl]; rfl⟩
        unfold t_pump
        rw [e1]
        exact Sy_at (M := o_setI M 5 (o_look M - 48)) h e (b + 1) (Nat.le_refl _)
    · have qd : ¬ o_dig M = true := by unfold o_dig; rw [dig_eq, decide_eq_true_eq]; exact q
      rw [if_neg qd]
      exact hfail _ rfl (by unfold t_pump1; rw [hl, if_neg (fun z => q ((pump_v _).mp z).1)])
  · refine ⟨Sy_err h e (tK_pump T) ?_ ?_ ?_ _, fun z => absurd (tK_no (tK_pump T) z) e⟩
    · exact o_digit_I M 5 (by decide) (by decide) (by decide)
    · rw [o_digit_2]
    · unfold A_X5_digit_s0
      have e9 : ¬ M.1 4 = -1 := fun q => e (h3.trans q)
      rw [if_neg e9]
      exact if_neg e9
theorem Sy_hour {T : TS} {M : MS} {b : Nat} (h : Sy T M b) (hb : b < 800) : Sy (t_hour T) (A_X5_readsHour_s0 M) (b + 2) ∧ ((t_hour T).1 3 = -1 → t_hourR T = (A_X5_readsHour_s0 M).1 5 ∧ ∃ j, j < 24 ∧ t_hourR T = nI j) := by
  obtain ⟨s1, v1⟩ := Sy_dgt h (by omega)
  obtain ⟨s2, v2⟩ := Sy_dgt s1 (by omega)
  have h3 := s2.2.2.2.1
  by_cases e : (t_dgt (t_dgt T)).1 3 = -1
  · have e1 := tK_no (tK_dgt (t_dgt T)) e
    have e0 := tK_no (tK_dgt T) e1
    obtain ⟨⟨j1, hj1, w1⟩, x1⟩ := v1 e1
    obtain ⟨⟨j2, hj2, w2⟩, x2⟩ := v2 e
    obtain ⟨a, ha, a1, a2⟩ := h.2.2.2.2 e0
    have hr : t_hourR T = nI (10 * j1 + j2) := by
      unfold t_hourR
      rw [w1, w2, show (10 : Int32) = nI 10 from rfl, pk_mul, nI_add]
    have hm : (A_X5_digit_s0 (A_X5_digit_s0 M 9) 9).1 5 + 10 * (A_X5_digit_s0 M 9).1 5 = nI (10 * j1 + j2) := by
      rw [← x1, ← x2, w1, w2, show (10 : Int32) = nI 10 from rfl, pk_mul, nI_add, Nat.add_comm]
    unfold t_hour A_X5_readsHour_s0
    rw [if_pos (h3.symm.trans e), hm, hr]
    by_cases c : 10 * j1 + j2 < 24
    · have c1 : nI (10 * j1 + j2) < (24 : Int32) := nI_lt (b := 24) c (by omega)
      have c2 : nI (10 * j1 + j2) ≤ (23 : Int32) := nI_le (b := 23) (by omega) (by omega)
      rw [if_pos c1, if_pos c2]
      exact ⟨s2, fun _ => ⟨rfl, _, c, rfl⟩⟩
    · have c1 : ¬ nI (10 * j1 + j2) < (24 : Int32) := nI_nlt (b := 24) (by omega) (by omega)
      have c2 : ¬ nI (10 * j1 + j2) ≤ (23 : Int32) := nI_ge (a := 23) (by omega) (by omega)
      rw [if_neg c1, if_neg c2]
      obtain ⟨hs, hne⟩ := Sy_fail (M := o_setI (A_X5_digit_s0 (A_X5_digit_s0 M 9) 9) 5 (nI (10 * j1 + j2))) s2 (c := a) (by omega) a1 a2 (b + 2)
      exact ⟨hs, fun z => absurd z hne⟩
  · have hK : tK (t_dgt (t_dgt T)) (t_hour T) := by
      unfold t_hour
      split
      · exact tK_rf _
      · exact tK_fail _ _
    refine ⟨Sy_err s2 e hK ?_ ?_ ?_ _, fun z => absurd (tK_no hK z) e⟩
    all_goals
      unfold A_X5_readsHour_s0
      rw [if_neg (fun q => e (h3.trans q))]
      rfl
