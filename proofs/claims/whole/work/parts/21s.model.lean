/-! WHAT THE READER KEEPS -/
theorem o_fail_2 (M : MS) (x : Int32) : (o_fail M x).2 = M.2 := rfl
theorem o_sign_2 (M : MS) (x : Int32) : (A_X5_sign_s0 M x).2 = M.2 := by
  unfold A_X5_sign_s0
  repeat' split
  all_goals rfl
theorem o_digit_2 (M : MS) (x : Int32) : (A_X5_digit_s0 M x).2 = M.2 := by
  unfold A_X5_digit_s0
  repeat' split
  all_goals rfl
theorem o_rnB_2 (d fr : Int32) (k : Nat) (M : MS) : (o_rnB d fr k M).2 = M.2 := by
  unfold o_rnB
  repeat' split
  all_goals rfl
theorem o_numL_2 (d fr : Int32) : ∀ (k : Nat) (M : MS), (itr (o_rnB d fr) k M).2 = M.2
  | 0, _ => rfl
  | k + 1, M => (o_rnB_2 _ _ _ _).trans (o_numL_2 d fr k M)
theorem o_num_2 (M : MS) (dd : Nat) (lo hi : Int32) : (o_num M dd lo hi).2 = M.2 := by
  have h : (o_numL M dd).2 = M.2 := o_numL_2 _ _ (dd + 1) (o_setI M 5 0)
  unfold o_num o_num2
  repeat' split
  all_goals first | exact h | exact (o_fail_2 _ _).trans h
theorem o_hour_2 (M : MS) : (A_X5_readsHour_s0 M).2 = M.2 := by
  have h : (A_X5_digit_s0 (A_X5_digit_s0 M 9) 9).2 = M.2 := (o_digit_2 _ _).trans (o_digit_2 _ _)
  unfold A_X5_readsHour_s0
  repeat' split
  all_goals exact h
/-- from M to N, if no error stands there, at least d bytes were read, and none stood at M -/
def stp (M N : MS) (d : Nat) : Prop := N.1 4 = -1 → M.1 4 = -1 ∧ ∃ a b, a + d ≤ b ∧ b < 2000 ∧ M.1 3 = nI a ∧ N.1 3 = nI b
theorem stp_t {M N K : MS} {d e : Nat} (h1 : stp M N d) (h2 : stp N K e) : stp M K (d + e) := fun h => by
  obtain ⟨n4, a2, b2, l2, u2, p2, q2⟩ := h2 h
  obtain ⟨m4, a1, b1, l1, u1, p1, q1⟩ := h1 n4
  have e9 : b1 = a2 := (nI_eq (by omega) (by omega)).mp (q1.symm.trans p2)
  exact ⟨m4, a1, b2, by omega, u2, p1, q2⟩
theorem o_fail_ne {M : MS} {x : Int32} {e : Nat} (he : e < 2 ^ 31) (hx : x = nI e) : ¬ (o_fail M x).1 4 = -1 := by
  subst hx
  unfold o_fail
  show ¬ upd M.1 4 (if M.1 4 = -1 then nI e else M.1 4) 4 = -1
  rw [pk_us]
  split
  · exact nI_m1 he
  · rename_i h; exact h
theorem stp_v {M N : MS} {d : Nat} (h : ¬ N.1 4 = -1) : stp M N d := fun h9 => absurd h9 h
theorem stp_sign {M : MS} {x : Int32} {b : Nat} (hb : tB M b) (h : b ≤ 1000) : stp M (A_X5_sign_s0 M x) 1 := by
  obtain ⟨a, ha, e⟩ := hb
  unfold A_X5_sign_s0
  split
  · rename_i h4
    split
    · exact fun _ => ⟨h4, a, a + 1, Nat.le_refl _, by omega, e, by show M.1 3 + 1 = _; rw [e, nI_1]⟩
    · exact stp_v (o_fail_ne (by omega) e)
  · rename_i h4; exact stp_v h4
theorem o_digit_ok {M : MS} {x : Int32} {b : Nat} (hb : tB M b) (h : b ≤ 1000) (h4 : (A_X5_digit_s0 M x).1 4 = -1) : M.1 4 = -1 ∧ (∃ a, a < b ∧ M.1 3 = nI a ∧ (A_X5_digit_s0 M x).1 3 = nI (a + 1)) ∧ ∃ j, j ≤ 9 ∧ (A_X5_digit_s0 M x).1 5 = nI j := by
  obtain ⟨a, ha, e⟩ := hb
  have hn := @o_fail_ne (o_setI M 5 0) (M.1 3) a (by omega) e
  unfold A_X5_digit_s0 at h4 ⊢
  by_cases c1 : M.1 4 = -1
  · by_cases c2 : o_dig M = true
    · by_cases c3 : x < o_look M - 48
      · rw [if_pos c1, if_pos c2, if_pos c3] at h4; exact absurd h4 hn
      · rw [if_pos c1, if_pos c2, if_neg c3]
        refine ⟨c1, ⟨a, ha, e, by show M.1 3 + 1 = _; rw [e, nI_1]⟩, ?_⟩
        have h2 := m_inI (y := 48) (z := 57) c2
        obtain ⟨v, hv, e9⟩ := nI_of (x := o_look M) (by
          intro h9
          apply h2.1
          have := Int32.lt_iff_toInt_lt.mp h9
          rw [Int32.lt_iff_toInt_lt]
          have z : (0 : Int32).toInt = 0 := rfl
          have z2 : (48 : Int32).toInt = 48 := rfl
          omega)
        rw [e9] at h2
        have l1 : 48 ≤ v := by
          rcases Nat.lt_or_ge v 48 with q | q
          · exact absurd (show nI v < nI 48 from nI_lt q (by decide)) h2.1
          · exact q
        have l2 : v ≤ 57 := by
          rcases Nat.lt_or_ge 57 v with q | q
          · exact absurd (show nI 57 < nI v from nI_lt q hv) h2.2
          · exact q
        exact ⟨v - 48, by omega, by show o_look M - 48 = _; rw [e9, show (48 : Int32) = nI 48 from rfl, pk_sub l1]⟩
    · rw [if_pos c1, if_neg c2] at h4; exact absurd h4 hn
  · rw [if_neg c1] at h4; exact absurd h4 hn
theorem stp_digit {M : MS} {x : Int32} {b : Nat} (hb : tB M b) (h : b ≤ 1000) : stp M (A_X5_digit_s0 M x) 1 := fun h4 => by
  obtain ⟨m4, ⟨a, ha, e1, e2⟩, -⟩ := o_digit_ok hb h h4
  exact ⟨m4, a, a + 1, Nat.le_refl _, by omega, e1, e2⟩
theorem stp_rn {M : MS} {d fr : Int32} {k b : Nat} (hb : tB M b) (h : b ≤ 1000) : stp M (o_rnB d fr k M) 0 := by
  obtain ⟨a, ha, e⟩ := hb
  unfold o_rnB
  split
  · rename_i c
    split
    · exact stp_v (o_fail_ne (by omega) e)
    · exact fun _ => ⟨c.1, a, a + 1, by omega, by omega, e, by show M.1 3 + 1 = _; rw [e, nI_1]⟩
  · exact fun h4 => ⟨h4, a, a, by omega, by omega, e, e⟩
theorem stp_rnL {d fr : Int32} : ∀ (k : Nat) {M : MS} {b : Nat}, tB M b → b + k ≤ 1000 → stp M (itr (o_rnB d fr) k M) 0
  | 0, M, b, ⟨a, ha, e⟩, h => fun h4 => ⟨h4, a, a, by omega, by omega, e, e⟩
  | k + 1, M, b, hb, h => by
    have h2 := tI_itr (M := M) (d := d) (fr := fr) k (N := M) (b := b) ⟨rfl, rfl, hb⟩
    exact stp_t (stp_rnL k hb (by omega)) (stp_rn h2.2.2 (by omega))
theorem stp_num {M : MS} {dd b : Nat} {lo hi : Int32} (hb : tB M b) (h : b + (dd + 1) ≤ 1000) : stp M (o_num M dd lo hi) 1 := by
  have hI := tI_itr (M := M) (d := nI dd) (fr := M.1 3) (dd + 1) (N := o_setI M 5 0) (b := b) ⟨rfl, rfl, hb⟩
  have hs : stp M (o_numL M dd) 0 := stp_rnL (d := nI dd) (fr := M.1 3) (dd + 1) (M := o_setI M 5 0) hb h
  obtain ⟨a, ha, e⟩ := hI.2.2
  obtain ⟨a0, ha0, e0⟩ := hb
  unfold o_num o_num2
  split
  · split
    · exact stp_v (o_fail_ne (by omega) e)
    · rename_i c1 c2
      split
      · intro h4
        obtain ⟨m4, x, y, l, u, p, q⟩ := hs h4
        refine ⟨m4, x, y, ?_, u, p, q⟩
        rcases Nat.lt_or_ge x y with z | z
        · omega
        · exact absurd (by rw [p, q, show x = y by omega]) c2
      · exact stp_v (o_fail_ne (by omega) e0)
  · rename_i c1; exact stp_v c1
theorem o_hour_ok {M : MS} {b : Nat} (hb : tB M b) (h : b ≤ 900) (h4 : (A_X5_readsHour_s0 M).1 4 = -1) : ∃ j, j < 24 ∧ (A_X5_readsHour_s0 M).1 5 = nI j := by
  have hb2 : tB (A_X5_digit_s0 M 9) (b + 1) := tB_1 hb (o_digit_3 _ _)
  obtain ⟨a0, ha0, e0⟩ := hb
  unfold A_X5_readsHour_s0 at h4 ⊢
  by_cases c1 : (A_X5_digit_s0 (A_X5_digit_s0 M 9) 9).1 4 = -1
  · obtain ⟨d4, -, j2, hj2, e2⟩ := o_digit_ok hb2 (by omega) c1
    obtain ⟨-, -, j1, hj1, e1⟩ := o_digit_ok ⟨a0, ha0, e0⟩ (by omega) d4
    have es : (A_X5_digit_s0 (A_X5_digit_s0 M 9) 9).1 5 + 10 * (A_X5_digit_s0 M 9).1 5 = nI (j2 + 10 * j1) := by rw [e2, e1, show (10 : Int32) = nI 10 from rfl, pk_mul, nI_add]
    by_cases c2 : (A_X5_digit_s0 (A_X5_digit_s0 M 9) 9).1 5 + 10 * (A_X5_digit_s0 M 9).1 5 ≤ 23
    · rw [if_pos c1, if_pos c2]
      refine ⟨j2 + 10 * j1, ?_, es⟩
      rw [es] at c2
      have := (nI_leI (by omega) (by decide)).mp (show nI (j2 + 10 * j1) ≤ nI 23 from c2)
      omega
    · rw [if_pos c1, if_neg c2] at h4
      exact absurd h4 (o_fail_ne (e := a0) (by omega) e0)
  · rw [if_neg c1] at h4
    exact absurd h4 c1
theorem stp_hour {M : MS} {b : Nat} (hb : tB M b) (h : b ≤ 900) : stp M (A_X5_readsHour_s0 M) 2 := by
  have h2 : stp M (A_X5_digit_s0 (A_X5_digit_s0 M 9) 9) 2 := stp_t (stp_digit hb (by omega)) (stp_digit (tB_1 hb (o_digit_3 _ _)) (by omega))
  obtain ⟨a0, ha0, e0⟩ := hb
  unfold A_X5_readsHour_s0
  split
  · split
    · exact h2
    · exact stp_v (o_fail_ne (e := a0) (by omega) e0)
  · exact h2
def o_fst (N : MS) (od : Nat) : MS := o_setA N 2 (upd (N.2.2 2) od (N.1 5))
def o_ord0 (M : MS) (od : Nat) : MS := o_setI (o_setA M 2 (upd (M.2.2 2) od 0)) 3 (M.1 3 + 1)
def o_caseB (M N : MS) (od : Nat) : MS :=
  if o_look M = 100 then o_num (A_X5_sign_s0 (o_fst (A_X5_readsHour_s0 N) od) 61) 4 0 1000
  else if o_look M = 109 then o_num N 3 1 720
  else if o_look M = 111 then o_num (A_X5_sign_s0 (o_fst (A_X5_digit_s0 N 5) od) 61) 2 1 12
  else if o_look M = 120 then o_fst (A_X5_digit_s0 N 5) od
  else if o_look M = 121 then o_fst (A_X5_digit_s0 N 5) od
  else o_fail N (M.1 3 + 1 - 1)
def o_keep (M R : MS) (od : Nat) : MS := if R.1 4 = -1 then o_setI (o_setA (o_setA R 1 (upd (R.2.2 1) od (o_look M))) 3 (upd (R.2.2 3) od (R.1 5))) 6 (R.1 6 + 1) else R
def o_order (M : MS) (od : Nat) : MS := o_keep M (A_X5_sign_s0 (o_caseB M (o_ord0 M od) od) 59) od
set_option maxRecDepth 100000 in
set_option maxHeartbeats 1000000 in
theorem o_order_eq (M : MS) (od : Nat) : A_X5_readsOrder_s0 M od = o_order M od := by
  unfold A_X5_readsOrder_s0 o_order o_caseB o_keep o_fst o_ord0
  by_cases h1 : o_look M = 100
  · simp only [if_pos h1]
  · by_cases h2 : o_look M = 109
    · simp only [if_neg h1, if_pos h2]
    · by_cases h3 : o_look M = 111
      · simp only [if_neg h1, if_neg h2, if_pos h3]
      · by_cases h4 : o_look M = 120
        · simp only [if_neg h1, if_neg h2, if_neg h3, if_pos h4]
        · by_cases h5 : o_look M = 121
          · simp only [if_neg h1, if_neg h2, if_neg h3, if_neg h4, if_pos h5]
          · simp only [if_neg h1, if_neg h2, if_neg h3, if_neg h4, if_neg h5]
