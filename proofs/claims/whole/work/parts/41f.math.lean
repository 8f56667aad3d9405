/-! MATHEMATICS: numbers and orders are read alike -/
theorem o_rnB_e (d fr : Int32) (k : Nat) (M : MS) : o_rnB d fr k M = if M.1 4 = -1 ∧ o_dig M = true then (if M.1 3 - fr = d then o_fail M (M.1 3) else o_setI (o_setI M 5 (10 * M.1 5 + o_look M - 48)) 3 (M.1 3 + 1)) else M := rfl
theorem dig_sy {T : TS} {M : MS} {b : Nat} (h : Sy T M b) (hb : b < 1000) (e : T.1 3 = -1) : t_dig T = o_dig M := by
  obtain ⟨hl, -⟩ := Sy_look h hb e
  unfold t_dig o_dig
  rw [dig_eq, hl]
theorem num_l {T : TS} {M : MS} {b dd : Nat} (h : Sy T M b) (hb : b + dd < 900) (e : T.1 3 = -1) {a : Nat} (ha : a ≤ b) (a1 : T.1 2 = nI a) (a2 : M.1 3 = nI a) : ∀ i, i ≤ dd →
    ∃ c, c ≤ i ∧ (itr t_numB i (T, 0)).1.1 2 = nI (a + c) ∧ (itr (o_rnB (nI dd) (M.1 3)) i (o_setI M 5 0)).1 3 = nI (a + c) ∧ (itr t_numB i (T, 0)).2 = (itr (o_rnB (nI dd) (M.1 3)) i (o_setI M 5 0)).1 5 ∧ (itr t_numB i (T, 0)).1.1 3 = -1 ∧ (itr (o_rnB (nI dd) (M.1 3)) i (o_setI M 5 0)).1 4 = -1 ∧ (itr (o_rnB (nI dd) (M.1 3)) i (o_setI M 5 0)).1 1 = M.1 1 ∧ (c < i → t_dig (itr t_numB i (T, 0)).1 = false)
  | 0, _ => ⟨0, Nat.le_refl 0, a1, a2, rfl, e, h.2.2.2.1.symm.trans e, rfl, fun q => absurd q (Nat.lt_irrefl 0)⟩
  | i + 1, hi => by
    obtain ⟨c, hc, c1, c2, c3, c4, c5, c6, c7⟩ := num_l h hb e ha a1 a2 i (by omega)
    rw [itr_s, itr_s, t_numB_e, o_rnB_e]
    have hK := tK_numL T 0 i
    have hV := o_numL_2 (nI dd) (M.1 3) i (o_setI M 5 0)
    generalize itr t_numB i (T, 0) = g at c1 c3 c4 c7 hK ⊢
    generalize hN : itr (o_rnB (nI dd) (M.1 3)) i (o_setI M 5 0) = N at c2 c3 c5 c6 hV ⊢
    have hs : Sy g.1 N (b + dd) := ⟨by rw [hK.1, c6]; exact h.1, by rw [c6]; exact h.2.1, fun j hj => by
      rw [hK.2.2.1, show N.2 = M.2 from hV]; exact h.2.2.1 j hj, c4.trans c5.symm, fun _ => ⟨a + c, by omega, c1, c2⟩⟩
    obtain ⟨hl, -⟩ := Sy_look hs (by omega) c4
    have hd := dig_sy hs (by omega) c4
    by_cases q : o_dig N = true
    · have hci : c = i := by
        rcases Nat.lt_or_ge c i with z | z
        · rw [c7 z] at hd
          rw [← hd] at q
          cases q
        · omega
      subst hci
      have hne : ¬ N.1 3 - M.1 3 = nI dd := by
        rw [c2, a2, pk_sub (by omega), show a + c - a = c by omega]
        exact fun z => by have := (nI_eq (by omega) (by omega)).mp z; omega
      rw [if_pos (hd.trans q), if_pos ⟨c5, q⟩, if_neg hne]
      refine ⟨c + 1, by omega, ?_, ?_, ?_, c4, c5, c6, fun z => absurd z (Nat.lt_irrefl _)⟩
      · show g.1.1 2 + 1 = _
        rw [c1, nI_1, Nat.add_assoc]
      · show N.1 3 + 1 = _
        rw [c2, nI_1, Nat.add_assoc]
      · show 10 * g.2 + t_peek g.1 - 48 = 10 * N.1 5 + o_look N - 48
        rw [c3, hl]
    · have hd2 : ¬ t_dig g.1 = true := by rw [hd]; exact q
      rw [if_neg hd2, if_neg (fun z => q z.2)]
      exact ⟨c, by omega, c1, c2, c3, c4, c5, c6, fun _ => Bool.eq_false_iff.mpr hd2⟩
theorem Sy_num {T : TS} {M : MS} {b dd L Hh : Nat} (h : Sy T M b) (hb : b + dd < 800) {lo hi : Int32} (hlo : lo = nI L) (hhi : hi = nI Hh) (hLH : L ≤ Hh) (hH : Hh < 10000) : Sy (t_num T dd lo hi) (o_num M dd lo hi) (b + dd) ∧ ((t_num T dd lo hi).1 3 = -1 → t_numR T dd = (o_num M dd lo hi).1 5 ∧ ∃ v, v ≤ Hh ∧ t_numR T dd = nI v) := by
  have h3 := h.2.2.2.1
  by_cases e : T.1 3 = -1
  · obtain ⟨a, ha, a1, a2⟩ := h.2.2.2.2 e
    obtain ⟨c, hc, c1, c2, c3, c4, c5, c6, c7⟩ := num_l h (by omega) e ha a1 a2 dd (Nat.le_refl dd)
    have hK : tK T (t_numL T dd).1 := tK_numL T 0 dd
    have hV := o_numL_2 (nI dd) (M.1 3) dd (o_setI M 5 0)
    have hg : itr t_numB dd (T, 0) = t_numL T dd := rfl
    rw [hg] at c1 c3 c4 c7
    obtain ⟨N, hN⟩ : ∃ N, N = itr (o_rnB (nI dd) (M.1 3)) dd (o_setI M 5 0) := ⟨_, rfl⟩
    rw [← hN] at c2 c3 c5 c6 hV
    have hs : Sy (t_numL T dd).1 N (b + dd) := ⟨by rw [hK.1, c6]; exact h.1, by rw [c6]; exact h.2.1, fun j hj => by
      rw [hK.2.2.1, show N.2 = M.2 from hV]; exact h.2.2.1 j hj, c4.trans c5.symm, fun _ => ⟨a + c, by omega, c1, c2⟩⟩
    have hd := dig_sy hs (by omega) c4
    have hU : o_numL M dd = if o_dig N = true then (if N.1 3 - M.1 3 = nI dd then o_fail N (N.1 3) else o_setI (o_setI N 5 (10 * N.1 5 + o_look N - 48)) 3 (N.1 3 + 1)) else N := by
      show itr (o_rnB (nI dd) (M.1 3)) (dd + 1) (o_setI M 5 0) = _
      rw [itr_s, ← hN, o_rnB_e]
      by_cases q : o_dig N = true
      · rw [if_pos ⟨c5, q⟩, if_pos q]
      · rw [if_neg (fun z => q z.2), if_neg q]
    have hR : t_numR T dd = (t_numL T dd).2 := rfl
    unfold t_num o_num
    rw [hU, hR]
    by_cases q : o_dig N = true
    · have hci : c = dd := by
        rcases Nat.lt_or_ge c dd with z | z
        · rw [c7 z] at hd
          rw [← hd] at q
          cases q
        · omega
      have heq : N.1 3 - M.1 3 = nI dd := by
        rw [c2, a2, pk_sub (by omega), show a + c - a = dd by omega]
      rw [if_pos q, if_pos heq]
      obtain ⟨hs2, hne⟩ := Sy_fail hs (c := a + c) (by omega) c1 c2 (b + dd)
      have e2 : t_num2 T (t_numL T dd).1 = t_fail (t_numL T dd).1 ((t_numL T dd).1.1 2) := by unfold t_num2; rw [if_pos (Or.inr (hd.trans q))]
      have e4 : ¬ (o_fail N (N.1 3)).1 4 = -1 := fun z => hne (hs2.2.2.2.1.trans z)
      have e3 : o_num2 M (o_fail N (N.1 3)) lo hi = o_fail N (N.1 3) := by unfold o_num2; rw [if_neg e4]
      rw [e2, e3]
      have hK3 : tK (t_fail (t_numL T dd).1 ((t_numL T dd).1.1 2)) (t_num3 T (t_fail (t_numL T dd).1 ((t_numL T dd).1.1 2)) (t_numL T dd).2 lo hi) := by
        unfold t_num3
        split
        · exact tK_fail _ _
        · exact tK_rf _
      exact ⟨Sy_err hs2 hne hK3 rfl rfl rfl _, fun z => absurd (tK_no hK3 z) hne⟩
    · rw [if_neg q]
      have qt : ¬ t_dig (t_numL T dd).1 = true := by rw [hd]; exact q
      by_cases z0 : c = 0
      · subst z0
        have e2 : t_num2 T (t_numL T dd).1 = t_fail (t_numL T dd).1 ((t_numL T dd).1.1 2) := by unfold t_num2; rw [if_pos (Or.inl (c1.trans a1.symm))]
        have e3 : o_num2 M N lo hi = o_fail N (N.1 3) := by unfold o_num2; rw [if_pos c5, if_pos (c2.trans a2.symm)]
        rw [e2, e3]
        obtain ⟨hs2, hne⟩ := Sy_fail hs (c := a + 0) (by omega) c1 c2 (b + dd)
        have hK3 : tK (t_fail (t_numL T dd).1 ((t_numL T dd).1.1 2)) (t_num3 T (t_fail (t_numL T dd).1 ((t_numL T dd).1.1 2)) (t_numL T dd).2 lo hi) := by
          unfold t_num3
          split
          · exact tK_fail _ _
          · exact tK_rf _
        exact ⟨Sy_err hs2 hne hK3 rfl rfl rfl _, fun z => absurd (tK_no hK3 z) hne⟩
      · have hne1 : ¬ nI (a + c) = nI a := fun z => by have := (nI_eq (by omega) (by omega)).mp z; omega
        have e2 : t_num2 T (t_numL T dd).1 = (t_numL T dd).1 := by
          unfold t_num2
          rw [c1, a1, if_neg]
          rintro (z | z)
          · exact hne1 z
          · exact qt z
        have hin : m_in (N.1 5).toInt64 lo.toInt64 hi.toInt64 = c_in (N.1 5) lo hi := m_c_in _ _ _ rfl rfl
        have e3 : o_num2 M N lo hi = if c_in (N.1 5) lo hi = true then N else o_fail N (M.1 3) := by
          unfold o_num2
          rw [if_pos c5, c2, a2, if_neg hne1, hin]
        rw [e2, e3, c3]
        unfold t_num3
        by_cases w : c_in (N.1 5) lo hi = true
        · have w1 : ¬ (N.1 5 < lo ∨ ¬ N.1 5 ≤ hi) := by
            unfold c_in at w
            rw [decide_eq_true_eq] at w
            rintro (z | z)
            · exact w.1 z
            · exact w.2 (Int32.not_le.mp z)
          rw [if_neg w1, if_pos w]
          obtain ⟨v, -, hv, ev⟩ := c_in_t w hlo hhi (by omega) hLH
          exact ⟨hs, fun _ => ⟨rfl, v, hv, ev⟩⟩
        · have w1 : N.1 5 < lo ∨ ¬ N.1 5 ≤ hi := by
            unfold c_in at w
            rw [decide_eq_true_eq] at w
            by_cases z : N.1 5 < lo
            · exact Or.inl z
            · exact Or.inr (fun y => w ⟨z, Int32.not_lt.mpr y⟩)
          rw [if_pos w1, if_neg w]
          obtain ⟨hs2, hne⟩ := Sy_fail hs (c := a) (by omega) a1 a2 (b + dd)
          exact ⟨hs2, fun z => absurd z hne⟩
  · have e9 : ¬ M.1 4 = -1 := fun q => e (h3.trans q)
    have hU : ∀ i, itr (o_rnB (nI dd) (M.1 3)) i (o_setI M 5 0) = o_setI M 5 0 := by
      intro i
      induction i with
      | zero => rfl
      | succ i ih => rw [itr_s, ih, o_rnB_e]; exact if_neg (fun q => e9 q.1)
    have hM : o_num M dd lo hi = o_setI M 5 0 := by
      unfold o_num
      rw [show o_numL M dd = o_setI M 5 0 from hU (dd + 1)]
      unfold o_num2
      exact if_neg e9
    rw [hM]
    exact ⟨Sy_err h e (tK_num T dd lo hi) rfl rfl rfl _, fun z => absurd (tK_no (tK_num T dd lo hi) z) e⟩
theorem o_rnB_6 (d fr : Int32) (k : Nat) (M : MS) : (o_rnB d fr k M).1 6 = M.1 6 := by
  unfold o_rnB
  repeat' split
  all_goals first | rfl | exact o_fail_I _ _ (by decide)
theorem o_numL_6 (d fr : Int32) : ∀ (k : Nat) (M : MS), (itr (o_rnB d fr) k M).1 6 = M.1 6
  | 0, _ => rfl
  | k + 1, M => (o_rnB_6 _ _ _ _).trans (o_numL_6 d fr k M)
theorem o_num_6 (M : MS) (dd : Nat) (lo hi : Int32) : (o_num M dd lo hi).1 6 = M.1 6 := by
  have h : (o_numL M dd).1 6 = M.1 6 := o_numL_6 _ _ (dd + 1) (o_setI M 5 0)
  unfold o_num o_num2
  repeat' split
  all_goals first | exact h | exact (o_fail_I _ _ (by decide)).trans h
theorem o_hour_6 (M : MS) : (A_X5_readsHour_s0 M).1 6 = M.1 6 := by
  have h : (A_X5_digit_s0 (A_X5_digit_s0 M 9) 9).1 6 = M.1 6 := (o_digit_I _ _ (by decide) (by decide) (by decide)).trans (o_digit_I _ _ (by decide) (by decide) (by decide))
  unfold A_X5_readsHour_s0
  repeat' split
  all_goals first | exact h | exact (o_fail_I _ _ (by decide)).trans h
/-- order i is kept alike: its letter, and what the letter needs -/
def OV (T : TS) (M : MS) (i : Nat) : Prop := T.2 1 (3 * i) = M.2.2 1 i ∧
  ((M.2.2 1 i = 100 ∧ T.2 1 (3 * i + 1) = M.2.2 2 i ∧ T.2 1 (3 * i + 2) = M.2.2 3 i ∧ (∃ j, j < 24 ∧ M.2.2 2 i = nI j) ∧ ∃ v, v ≤ 1000 ∧ M.2.2 3 i = nI v) ∨
   (M.2.2 1 i = 109 ∧ T.2 1 (3 * i + 2) = M.2.2 3 i ∧ ∃ v, v ≤ 720 ∧ M.2.2 3 i = nI v) ∨
   (M.2.2 1 i = 111 ∧ T.2 1 (3 * i + 1) = M.2.2 2 i ∧ T.2 1 (3 * i + 2) = M.2.2 3 i ∧ ∃ v, v ≤ 12 ∧ M.2.2 3 i = nI v) ∨
   ((M.2.2 1 i = 120 ∨ M.2.2 1 i = 121) ∧ T.2 1 (3 * i + 1) = M.2.2 2 i))
/-- what the body of an order gives: B the class', R the model's -/
theorem Sy_body {T : TS} {M : MS} {od : Nat} (h : Sy T M 100) (e : T.1 3 = -1) :
    tK (t_at1 T) (t_body (t_at1 T) (t_peek T)).2.2 ∧ Sy (t_body (t_at1 T) (t_peek T)).2.2 (o_caseB M (o_ord0 M od) od) 200 ∧ (o_caseB M (o_ord0 M od) od).2.2 1 = M.2.2 1 ∧ (o_caseB M (o_ord0 M od) od).2.2 3 = M.2.2 3 ∧ (o_caseB M (o_ord0 M od) od).1 6 = M.1 6 ∧ (∀ i, i ≠ od → (o_caseB M (o_ord0 M od) od).2.2 2 i = M.2.2 2 i) ∧
    ((t_body (t_at1 T) (t_peek T)).2.2.1 3 = -1 →
      ((o_look M = 100 ∧ (t_body (t_at1 T) (t_peek T)).1 = (o_caseB M (o_ord0 M od) od).2.2 2 od ∧ (t_body (t_at1 T) (t_peek T)).2.1 = (o_caseB M (o_ord0 M od) od).1 5 ∧ (∃ j, j < 24 ∧ (t_body (t_at1 T) (t_peek T)).1 = nI j) ∧ ∃ v, v ≤ 1000 ∧ (t_body (t_at1 T) (t_peek T)).2.1 = nI v) ∨
       (o_look M = 109 ∧ (t_body (t_at1 T) (t_peek T)).2.1 = (o_caseB M (o_ord0 M od) od).1 5 ∧ ∃ v, v ≤ 720 ∧ (t_body (t_at1 T) (t_peek T)).2.1 = nI v) ∨
       (o_look M = 111 ∧ (t_body (t_at1 T) (t_peek T)).1 = (o_caseB M (o_ord0 M od) od).2.2 2 od ∧ (t_body (t_at1 T) (t_peek T)).2.1 = (o_caseB M (o_ord0 M od) od).1 5 ∧ ∃ v, v ≤ 12 ∧ (t_body (t_at1 T) (t_peek T)).2.1 = nI v) ∨
       ((o_look M = 120 ∨ o_look M = 121) ∧ (t_body (t_at1 T) (t_peek T)).1 = (o_caseB M (o_ord0 M od) od).2.2 2 od))) := by
  obtain ⟨hl, -⟩ := Sy_look h (by omega) e
  obtain ⟨a, ha, a1, a2⟩ := h.2.2.2.2 e
  have h1 : Sy (t_at1 T) (o_ord0 M od) 101 := Sy_at (M := o_setA M 2 (upd (M.2.2 2) od 0)) h e 101 (Nat.le_refl _)
  have e1 : (t_at1 T).1 3 = -1 := e
  have p1 : (t_at1 T).1 2 = nI (a + 1) := by show T.1 2 + 1 = _; rw [a1, nI_1]
  have p2 : (o_ord0 M od).1 3 = nI (a + 1) := by show M.1 3 + 1 = _; rw [a2, nI_1]
  obtain ⟨U, hU⟩ : ∃ U, U = t_at1 T := ⟨_, rfl⟩
  have hf0 : ∀ i, i ≠ od → (o_ord0 M od).2.2 2 i = M.2.2 2 i := fun i hi => pk_un hi
  obtain ⟨N, hN⟩ : ∃ N, N = o_ord0 M od := ⟨_, rfl⟩
  have n1 : N.2.2 1 = M.2.2 1 := by rw [hN]; rfl
  have n3 : N.2.2 3 = M.2.2 3 := by rw [hN]; rfl
  have n6 : N.1 6 = M.1 6 := by rw [hN]; rfl
  rw [← hN] at h1 p2 hf0 ⊢
  rw [← hU] at h1 e1 p1 ⊢
  rw [hl]
  unfold t_body o_caseB
  by_cases l1 : o_look M = 100
  · rw [if_pos l1, if_pos l1]
    dsimp only
    obtain ⟨s1, v1⟩ := Sy_hour h1 (by omega)
    have s1' : Sy (t_hour U) (o_fst (A_X5_readsHour_s0 N) od) (101 + 2) := s1
    have s2 := Sy_exp s1' (by omega) 61 (by decide)
    obtain ⟨s3, v3⟩ := Sy_num (dd := 4) (L := 0) (Hh := 1000) s2 (by omega) (lo := 0) (hi := 1000) rfl rfl (by omega) (by omega)
    have k1 := tK_hour U
    have k2 := tK_exp (t_hour U) 61
    have k3 := tK_num (t_exp (t_hour U) 61) 4 0 1000
    have q2 : (o_num (A_X5_sign_s0 (o_fst (A_X5_readsHour_s0 N) od) 61) 4 0 1000).2 = (o_fst (A_X5_readsHour_s0 N) od).2 := (o_num_2 _ _ _ _).trans (o_sign_2 _ _)
    have q3 : (A_X5_readsHour_s0 N).2 = N.2 := o_hour_2 N
    refine ⟨tK_tr (tK_tr k1 k2) k3, Sy_mono s3 (by omega), ?_, ?_, ?_, fun i hi => ?_, fun z => Or.inl ⟨l1, ?_, (v3 z).1, ?_, (v3 z).2⟩⟩
    · rw [q2]; show (A_X5_readsHour_s0 N).2.2 1 = _; rw [q3]; exact n1
    · rw [q2]; show (A_X5_readsHour_s0 N).2.2 3 = _; rw [q3]; exact n3
    · exact (o_num_6 _ _ _ _).trans ((o_sign_I _ _ (by decide) (by decide)).trans ((o_hour_6 N).trans n6))
    · rw [q2]
      show upd ((A_X5_readsHour_s0 N).2.2 2) od _ i = _
      rw [pk_un hi, q3]
      exact hf0 i hi
    · rw [q2]
      show t_hourR U = upd ((A_X5_readsHour_s0 N).2.2 2) od ((A_X5_readsHour_s0 N).1 5) od
      rw [pk_us]
      exact (v1 (tK_no (tK_tr k2 k3) z)).1
    · exact (v1 (tK_no (tK_tr k2 k3) z)).2
  · rw [if_neg l1, if_neg l1]
    by_cases l2 : o_look M = 109
    · rw [if_pos l2, if_pos l2]
      dsimp only
      obtain ⟨s3, v3⟩ := Sy_num (dd := 3) (L := 1) (Hh := 720) h1 (by omega) (lo := 1) (hi := 720) rfl rfl (by omega) (by omega)
      have q2 : (o_num N 3 1 720).2 = N.2 := o_num_2 _ _ _ _
      refine ⟨tK_num U 3 1 720, Sy_mono s3 (by omega), by rw [q2]; exact n1, by rw [q2]; exact n3, ?_, fun i hi => by rw [q2]; exact hf0 i hi, fun z => Or.inr (Or.inl ⟨l2, (v3 z).1, (v3 z).2⟩)⟩
      exact (o_num_6 _ _ _ _).trans n6
    · rw [if_neg l2, if_neg l2]
      by_cases l3 : o_look M = 111
      · rw [if_pos l3, if_pos l3]
        dsimp only
        obtain ⟨s1, v1⟩ := Sy_pump h1 (by omega)
        have s1' : Sy (t_pump U) (o_fst (A_X5_digit_s0 N 5) od) (101 + 1) := s1
        have s2 := Sy_exp s1' (by omega) 61 (by decide)
        obtain ⟨s3, v3⟩ := Sy_num (dd := 2) (L := 1) (Hh := 12) s2 (by omega) (lo := 1) (hi := 12) rfl rfl (by omega) (by omega)
        have k1 := tK_pump U
        have k2 := tK_exp (t_pump U) 61
        have k3 := tK_num (t_exp (t_pump U) 61) 2 1 12
        have q2 : (o_num (A_X5_sign_s0 (o_fst (A_X5_digit_s0 N 5) od) 61) 2 1 12).2 = (o_fst (A_X5_digit_s0 N 5) od).2 := (o_num_2 _ _ _ _).trans (o_sign_2 _ _)
        have q3 : (A_X5_digit_s0 N 5).2 = N.2 := o_digit_2 N 5
        refine ⟨tK_tr (tK_tr k1 k2) k3, Sy_mono s3 (by omega), ?_, ?_, ?_, fun i hi => ?_, fun z => Or.inr (Or.inr (Or.inl ⟨l3, ?_, (v3 z).1, (v3 z).2⟩))⟩
        · rw [q2]; show (A_X5_digit_s0 N 5).2.2 1 = _; rw [q3]; exact n1
        · rw [q2]; show (A_X5_digit_s0 N 5).2.2 3 = _; rw [q3]; exact n3
        · exact (o_num_6 _ _ _ _).trans ((o_sign_I _ _ (by decide) (by decide)).trans ((o_digit_I N 5 (by decide) (by decide) (by decide)).trans n6))
        · rw [q2]
          show upd ((A_X5_digit_s0 N 5).2.2 2) od _ i = _
          rw [pk_un hi, q3]
          exact hf0 i hi
        · rw [q2]
          show t_peek U - 48 = upd ((A_X5_digit_s0 N 5).2.2 2) od ((A_X5_digit_s0 N 5).1 5) od
          rw [pk_us]
          exact v1 (tK_no (tK_tr k2 k3) z)
      · rw [if_neg l3, if_neg l3]
        have two : ∀ (l4 : o_look M = 120 ∨ o_look M = 121), tK U (t_pump U) ∧ Sy (t_pump U) (o_fst (A_X5_digit_s0 N 5) od) 200 ∧ (o_fst (A_X5_digit_s0 N 5) od).2.2 1 = M.2.2 1 ∧ (o_fst (A_X5_digit_s0 N 5) od).2.2 3 = M.2.2 3 ∧ (o_fst (A_X5_digit_s0 N 5) od).1 6 = M.1 6 ∧ (∀ i, i ≠ od → (o_fst (A_X5_digit_s0 N 5) od).2.2 2 i = M.2.2 2 i) ∧ ((t_pump U).1 3 = -1 → t_peek U - 48 = (o_fst (A_X5_digit_s0 N 5) od).2.2 2 od) := fun l4 => by
          obtain ⟨s1, v1⟩ := Sy_pump h1 (by omega)
          have q3 : (A_X5_digit_s0 N 5).2 = N.2 := o_digit_2 N 5
          refine ⟨tK_pump U, Sy_mono (show Sy (t_pump U) (o_fst (A_X5_digit_s0 N 5) od) (101 + 1) from s1) (by omega), ?_, ?_, ?_, fun i hi => ?_, fun z => ?_⟩
          · show (A_X5_digit_s0 N 5).2.2 1 = _; rw [q3]; exact n1
          · show (A_X5_digit_s0 N 5).2.2 3 = _; rw [q3]; exact n3
          · exact (o_digit_I N 5 (by decide) (by decide) (by decide)).trans n6
          · show upd ((A_X5_digit_s0 N 5).2.2 2) od _ i = _
            rw [pk_un hi, q3]
            exact hf0 i hi
          · show _ = upd ((A_X5_digit_s0 N 5).2.2 2) od ((A_X5_digit_s0 N 5).1 5) od
            rw [pk_us]
            exact v1 z
        by_cases l4 : o_look M = 120
        · rw [if_pos l4, if_pos l4]
          dsimp only
          obtain ⟨b1, b2, b3, b4, b5, b6, b7⟩ := two (Or.inl l4)
          exact ⟨b1, b2, b3, b4, b5, b6, fun z => Or.inr (Or.inr (Or.inr ⟨Or.inl l4, b7 z⟩))⟩
        · rw [if_neg l4, if_neg l4]
          by_cases l5 : o_look M = 121
          · rw [if_pos l5, if_pos l5]
            dsimp only
            obtain ⟨b1, b2, b3, b4, b5, b6, b7⟩ := two (Or.inr l5)
            exact ⟨b1, b2, b3, b4, b5, b6, fun z => Or.inr (Or.inr (Or.inr ⟨Or.inr l5, b7 z⟩))⟩
          · rw [if_neg l5, if_neg l5]
            dsimp only
            have x1 : U.1 2 - 1 = nI a := by rw [p1, nI_pred]
            have x2 : M.1 3 + 1 - 1 = nI a := by rw [a2, nI_1, nI_pred]
            obtain ⟨hs, hne⟩ := Sy_fail h1 (c := a) (by omega) x1 x2 200
            exact ⟨tK_fail _ _, hs, n1, n3, n6, hf0, fun z => absurd z hne⟩
theorem Sy_order {T : TS} {M : MS} {od : Nat} (h : Sy T M 100) (e : T.1 3 = -1) : (t_order T od).1 1 = T.1 1 ∧ Sy (t_order T od) (o_order M od) 100 ∧
    ((t_order T od).1 3 = -1 → OV (t_order T od) (o_order M od) od ∧ (o_order M od).1 6 = M.1 6 + 1 ∧ ∀ i, i ≠ od → OV T M i → OV (t_order T od) (o_order M od) i) := by
  obtain ⟨k0, s0, m1, m3, m6, m2, v⟩ := Sy_body (od := od) h e
  obtain ⟨hl, -⟩ := Sy_look h (by omega) e
  unfold t_order o_order
  have k9 := tK_exp (t_body (t_at1 T) (t_peek T)).2.2 59
  have s9 := Sy_exp s0 (by omega) 59 (by decide)
  have kk := tK_tr k0 k9
  have n2 := o_sign_2 (o_caseB M (o_ord0 M od) od) 59
  have n5 : (A_X5_sign_s0 (o_caseB M (o_ord0 M od) od) 59).1 5 = (o_caseB M (o_ord0 M od) od).1 5 := o_sign_I _ _ (by decide) (by decide)
  have n6 : (A_X5_sign_s0 (o_caseB M (o_ord0 M od) od) 59).1 6 = (o_caseB M (o_ord0 M od) od).1 6 := o_sign_I _ _ (by decide) (by decide)
  have h39 := s9.2.2.2.1
  have hA : ∀ (j : Nat) , (t_exp (t_body (t_at1 T) (t_peek T)).2.2 59).2 j = T.2 j := fun j => by rw [kk.2.2.1]; rfl
  rw [hl] at v s9 h39 kk hA k9 s0 ⊢
  generalize t_body (t_at1 T) (o_look M) = B at v s9 h39 kk hA k9 s0 ⊢
  generalize o_caseB M (o_ord0 M od) od = C at m1 m3 m6 m2 v s9 h39 n2 n5 n6 s0 ⊢
  generalize A_X5_sign_s0 C 59 = R at s9 h39 n2 n5 n6 ⊢
  obtain ⟨E, hE⟩ : ∃ E, E = t_exp B.2.2 59 := ⟨_, rfl⟩
  rw [← hE] at s9 h39 kk hA k9 ⊢
  have sK : Sy (t_keep E od (o_look M) B.1 B.2.1) (o_keep M R od) 100 := by
    unfold o_keep
    split
    · exact s9
    · exact s9
  refine ⟨kk.2.1, sK, fun z => ?_⟩
  have z1 : E.1 3 = -1 := z
  have z2 : R.1 4 = -1 := h39.symm.trans z1
  have v9 := v (tK_no k9 z1)
  have eK : o_keep M R od = o_setI (o_setA (o_setA R 1 (upd (R.2.2 1) od (o_look M))) 3 (upd (R.2.2 3) od (R.1 5))) 6 (R.1 6 + 1) := by unfold o_keep; rw [if_pos z2]
  have w1 : ∀ i, (o_keep M R od).2.2 1 i = if i = od then o_look M else M.2.2 1 i := fun i => by
    rw [eK]
    show upd (R.2.2 1) od (o_look M) i = _
    unfold upd
    rw [n2, m1]
  have w2 : ∀ i, (o_keep M R od).2.2 2 i = C.2.2 2 i := fun i => by
    rw [eK]
    show R.2.2 2 i = _
    rw [n2]
  have w3 : ∀ i, (o_keep M R od).2.2 3 i = if i = od then C.1 5 else M.2.2 3 i := fun i => by
    rw [eK]
    show upd (R.2.2 3) od (R.1 5) i = _
    unfold upd
    rw [n2, m3, n5]
  have p0 : ∀ i, (t_keep E od (o_look M) B.1 B.2.1).2 1 i = if i = 3 * od + 2 then B.2.1 else if i = 3 * od + 1 then B.1 else if i = 3 * od then o_look M else T.2 1 i := fun i => by
    show upd (upd (upd (E.2 1) (3 * od) (o_look M)) (3 * od + 1) B.1) (3 * od + 2) B.2.1 i = _
    unfold upd
    rw [hA]
  refine ⟨?_, ?_, fun i hi ho => ?_⟩
  · unfold OV
    rw [w1, w2, w3, p0, p0, p0, if_pos rfl, if_pos rfl, if_neg (show ¬ 3 * od = 3 * od + 2 by omega), if_neg (show ¬ 3 * od = 3 * od + 1 by omega), if_pos rfl, if_neg (show ¬ 3 * od + 1 = 3 * od + 2 by omega), if_pos rfl, if_pos rfl]
    refine ⟨rfl, ?_⟩
    rcases v9 with ⟨l, x1, x2, x3, x4⟩ | ⟨l, x2, x4⟩ | ⟨l, x1, x2, x4⟩ | ⟨l, x1⟩
    · exact Or.inl ⟨l, x1, x2, x1 ▸ x3, x2 ▸ x4⟩
    · exact Or.inr (Or.inl ⟨l, x2, x2 ▸ x4⟩)
    · exact Or.inr (Or.inr (Or.inl ⟨l, x1, x2, x2 ▸ x4⟩))
    · exact Or.inr (Or.inr (Or.inr ⟨l, x1⟩))
  · rw [eK]
    show R.1 6 + 1 = _
    rw [n6, m6]
  · have q : ∀ j, j < 3 → (t_keep E od (o_look M) B.1 B.2.1).2 1 (3 * i + j) = T.2 1 (3 * i + j) := fun j hj => by
      rw [p0, if_neg (by omega), if_neg (by omega), if_neg (by omega)]
    unfold OV at ho ⊢
    rw [w1, w2, w3, if_neg hi, if_neg hi, m2 i hi, q 1 (by omega), q 2 (by omega), show (t_keep E od (o_look M) B.1 B.2.1).2 1 (3 * i) = T.2 1 (3 * i) from q 0 (by omega)]
    exact ho
