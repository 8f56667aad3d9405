/-! THE MODEL CARRIES OUT A TEXT -/
theorem o_rnB_0 (d fr : Int32) (k : Nat) (M : MS) : (o_rnB d fr k M).1 0 = M.1 0 := by
  unfold o_rnB
  repeat' split
  all_goals first | rfl | exact o_fail_I _ _ (by decide)
theorem o_numL_0 (d fr : Int32) : ∀ (k : Nat) (M : MS), (itr (o_rnB d fr) k M).1 0 = M.1 0
  | 0, _ => rfl
  | k + 1, M => (o_rnB_0 _ _ _ _).trans (o_numL_0 d fr k M)
theorem o_num_0 (M : MS) (dd : Nat) (lo hi : Int32) : (o_num M dd lo hi).1 0 = M.1 0 := by
  have h : (o_numL M dd).1 0 = M.1 0 := o_numL_0 _ _ (dd + 1) (o_setI M 5 0)
  unfold o_num o_num2
  repeat' split
  all_goals first | exact h | exact (o_fail_I _ _ (by decide)).trans h
theorem o_digit_0 (M : MS) (x : Int32) : (A_X5_digit_s0 M x).1 0 = M.1 0 := o_digit_I M x (by decide) (by decide) (by decide)
theorem o_sign_0 (M : MS) (x : Int32) : (A_X5_sign_s0 M x).1 0 = M.1 0 := o_sign_I M x (by decide) (by decide)
theorem o_hour_0 (M : MS) : (A_X5_readsHour_s0 M).1 0 = M.1 0 := by
  have h : (A_X5_digit_s0 (A_X5_digit_s0 M 9) 9).1 0 = M.1 0 := (o_digit_0 _ _).trans (o_digit_0 _ _)
  unfold A_X5_readsHour_s0
  repeat' split
  all_goals first | exact h | exact (o_fail_I _ _ (by decide)).trans h
theorem o_order_0 (M : MS) (od : Nat) : (A_X5_readsOrder_s0 M od).1 0 = M.1 0 := by
  rw [o_order_eq]
  have hB : (o_caseB M (o_ord0 M od) od).1 0 = M.1 0 := by
    unfold o_caseB
    repeat' split
    · exact (o_num_0 _ _ _ _).trans ((o_sign_0 _ _).trans (o_hour_0 _))
    · exact o_num_0 _ _ _ _
    · exact (o_num_0 _ _ _ _).trans ((o_sign_0 _ _).trans (o_digit_0 _ _))
    · exact o_digit_0 _ _
    · exact o_digit_0 _ _
    · exact o_fail_I _ _ (by decide)
  unfold o_order o_keep
  split
  · exact (o_sign_0 _ _).trans hB
  · exact (o_sign_0 _ _).trans hB
def o_rd0 (M : MS) : MS := o_setI (o_setI (o_setI (o_setI M 2 0) 3 0) 4 (-1)) 6 0
def o_rdB (k : Nat) (M : MS) : MS := if M.1 4 = -1 ∧ ¬ M.1 1 ≤ M.1 3 then A_X5_readsOrder_s0 M k else M
def o_rd (M : MS) : MS := itr o_rdB 34 (o_rd0 M)
def o_tm (M : MS) : Nat := (M.2.1 0 8).toNatClampNeg
def o_doB (n : Nat) (i : Nat) (M : MS) : MS := A_X5_does_s0 M n (o_tm M) i
def o_done (S : MS) (n od : Nat) : Nat := frst (fun i => decide (A_X5_can_r (itr (o_doB n) i S) i = 0)) od
def o_carry (M : MS) (st n : Nat) : MS := if (o_rd M).1 4 = -1 then itr (o_doB n) (o_done (o_save (o_rd M) st) n ((o_rd M).1 6).toNatClampNeg) (o_save (o_rd M) st) else o_rd M
def o_carryR (M : MS) (st n : Nat) : Int32 := if (o_rd M).1 4 = -1 then nI (o_done (o_save (o_rd M) st) n ((o_rd M).1 6).toNatClampNeg) else -10 - (o_rd M).1 4
theorem can_isP {M : MS} {k : Nat} (h : ¬ A_X5_can_r M k = 0) (hf : o_fact M k) (h1 : ¬ M.2.2 1 k = 100) (h2 : ¬ M.2.2 1 k = 109) : m_isP (M.2.1 0) (M.2.2 2 k) = true := by
  unfold A_X5_can_r at h
  rw [if_neg h2] at h
  cases hc : m_isP (M.2.1 0) (M.2.2 2 k)
  · exfalso
    apply h
    rcases hf.1 with e | e | e | e | e
    · exact absurd e h1
    · exact absurd e h2
    · rw [if_pos e, hc]; rfl
    · rw [if_neg (by rw [e]; decide), if_pos e, hc]; rfl
    · rw [if_neg (by rw [e]; decide), if_neg (by rw [e]; decide), if_pos e, hc]; rfl
  · rfl
theorem does_2 (M : MS) (n t k : Nat) : (A_X5_does_s0 M n t k).2.2 = M.2.2 ∧ (A_X5_does_s0 M n t k).1 = M.1 := by
  unfold A_X5_does_s0
  repeat' split
  all_goals exact ⟨rfl, rfl⟩
theorem m_ok_u {w : Nat → Int64} {n t k : Nat} {x : Int64} (h : m_ok w n t) (h7 : k ≠ 7) (h8 : k ≠ 8) (ho : k < 96 ∨ 96 + n ≤ k) : m_ok (vp_updL w k x) n t := by
  refine ⟨(pk_uLn (Ne.symm h7)).trans h.1, fun i hi => ?_, (pk_uLn (Ne.symm h8)).trans h.2.2⟩
  obtain ⟨j, hj, e⟩ := h.2.1 i hi
  exact ⟨j, hj, (pk_uLn (by omega)).trans e⟩
theorem does_ok {M : MS} {n t k : Nat} (hok : m_ok (M.2.1 0) n t) (hn6 : n ≤ 6) (hb : t < 2 ^ 38) (hf : o_fact M k) (hp : ¬ M.2.2 1 k = 100 → ¬ M.2.2 1 k = 109 → m_isP (M.2.1 0) (M.2.2 2 k) = true) :
    ∃ t2, t ≤ t2 ∧ t2 ≤ t + 2147483648 ∧ m_ok ((A_X5_does_s0 M n t k).2.1 0) n t2 := by
  have hcl := k_clt (M.2.2 3 k)
  unfold A_X5_does_s0
  by_cases h1 : M.2.2 1 k = 100
  · rw [if_pos h1]
    obtain ⟨j, hj, e⟩ := hf.2 h1
    exact ⟨t, Nat.le_refl _, by omega, m_ok_u hok (by rw [e, nI_clamp (by omega)]; omega) (by rw [e, nI_clamp (by omega)]; omega) (by rw [e, nI_clamp (by omega)]; omega)⟩
  · rw [if_neg h1]
    by_cases h2 : M.2.2 1 k = 109
    · rw [if_pos h2]
      exact ⟨t + (M.2.2 3 k).toNatClampNeg, by omega, by omega, m_go_ok hok hn6 _ (by omega)⟩
    · rw [if_neg h2]
      obtain ⟨p1, p2⟩ := m_isPn (hp h1 h2) hok.1 hn6
      repeat' split
      all_goals exact ⟨t, Nat.le_refl _, by omega, m_ok_u hok (by omega) (by omega) (by omega)⟩
theorem m_ok_tm {M : MS} {n t : Nat} (h : m_ok (M.2.1 0) n t) (hb : t < 2 ^ 62) : o_tm M = t := by
  rw [o_tm, h.2.2]
  exact lN_cl (by omega)
