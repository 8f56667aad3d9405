/-! MATHEMATICS: the questions what if; the digest -/
theorem mp_get {w : Nat → Int64} {n t k : Nat} (hn6 : n ≤ 6) (h1 : k ≠ 8) (h2 : k ≠ 23) (h3 : k ≠ 11) (h4 : k ≠ 12) (h5 : k ≠ 10) (h6 : k ≠ 1) (h7 : k < 14 ∨ 18 < k) (h8 : k < 48 ∨ 96 ≤ k ∨ (k - 48) % 8 ≠ 5) : m_pass w n t k = m_p3 (m_p12 w n t) n k := by
  refine (m_p6_get h1 h2 h3 h4).trans ((pk_uLn h5).trans ?_)
  show m_fl1 (m_fl0 (m_p3 (m_p12 w n t) n) n) (t % 1440 / 60) k = _
  unfold m_fl1
  refine (pk_uLn h6).trans ((pk_uLn (by omega)).trans ((pk_uLn (by omega)).trans ((pk_uLn (by omega)).trans ((pk_uLn (by omega)).trans ?_))))
  refine itr_out (f := m_flB) _ _ (fun i g hi => ?_)
  rw [m_flB_e]
  split
  · exact (pk_uLn (by omega)).trans ((pk_uLn (by omega)).trans (pk_uLn (by omega)))
  · rfl
theorem m_start_9 {f : Nat → Int64} {q : Nat} (hq : q < 6) : m_start f q 9 = f 9 ∨ m_start f q 9 = f 9 + 1 := by
  unfold m_start
  split
  · exact Or.inl (m_st1_get (by omega) hq)
  · exact Or.inr ((m_logs_get (by omega) (by omega)).trans pk_uLs)
theorem m_start_4 {f : Nat → Int64} {q p : Nat} (hq : q < 6) (hp : p < 6) : m_start f q (48 + 8 * p + 4) = if p = q then f (48 + 8 * p + 4) + 1 else f (48 + 8 * p + 4) := by
  have h1 : m_st1 f q (48 + 8 * p + 4) = if p = q then f (48 + 8 * p + 4) + 1 else f (48 + 8 * p + 4) := by
    unfold m_st1
    by_cases e : p = q
    · subst e
      rw [if_pos rfl]
      exact pk_uLs
    · rw [if_neg e]
      exact (pk_uLn (by omega)).trans ((pk_uLn (by omega)).trans (pk_uLn (by omega)))
  unfold m_start
  split
  · exact h1
  · exact (m_logs_get (by omega) (by omega)).trans ((pk_uLn (by omega)).trans ((pk_uLn (by omega)).trans h1))
theorem m_rest_4 {f : Nat → Int64} {n p : Nat} (hp : p < 6) : m_rest f n (48 + 8 * p + 4) = f (48 + 8 * p + 4) := by
  by_cases e : m_many f n 1 = 0
  · unfold m_rest; rw [if_pos e]
  · rw [m_rest_mid e (by omega), if_neg (by omega)]
theorem m_p12_4 {w : Nat → Int64} {n t p : Nat} (hp : p < 6) : m_p12 w n t (48 + 8 * p + 4) = w (48 + 8 * p + 4) := by
  have h1 : m_p1 w t (48 + 8 * p + 4) = w (48 + 8 * p + 4) := m_p1_get (by omega) (by omega)
  show m_p2 (m_p1 w t) n t (48 + 8 * p + 4) = _
  unfold m_p2
  split
  · show itr (o_piB 3 0) n (m_p1 w t) (48 + 8 * p + 4) = _
    rw [itr_pi 3 0 (by omega), if_neg (by omega)]
    exact h1
  · exact h1
theorem pass_9 {S : SS} {w : Nat → Int64} {n t : Nat} (h : RS S w n t) (ht : t ≤ 3000000) {a : Nat} (ha : w 9 = lN a) : m_pass w n t 9 = lN a ∨ m_pass w n t 9 = lN (a + 1) := by
  obtain ⟨-, hn6, -, -, -⟩ := RS_ok h
  obtain ⟨-, h1, h2, h3⟩ := r_min h ht
  rw [mp_get hn6 (by omega) (by omega) (by omega) (by omega) (by omega) (by omega) (by omega) (by omega)]
  have h12 : m_p12 w n t 9 = lN a := (m_p12_get hn6 (by omega) (by omega) (by omega)).trans ha
  by_cases e : s_minR S n = -1
  · rw [h3 e]
    left
    split
    · exact h12
    · exact (m_rest_get hn6 (by omega)).trans h12
  · obtain ⟨q, hq, -, hm⟩ := h2 e
    rw [hm]
    rcases m_start_9 (f := m_p12 w n t) (q := q) (by omega) with e1 | e1
    · left; rw [e1, h12]
    · right; rw [e1, h12, lN_1]
theorem pass_4 {S : SS} {w : Nat → Int64} {n t : Nat} (h : RS S w n t) (ht : t ≤ 3000000) : (s_minR S n = -1 → ∀ p, p < n → m_pass w n t (48 + 8 * p + 4) = w (48 + 8 * p + 4)) ∧ (¬ s_minR S n = -1 → ∃ q, q < n ∧ s_minR S n = nI q ∧ ∀ p, p < n → m_pass w n t (48 + 8 * p + 4) = if p = q then w (48 + 8 * p + 4) + 1 else w (48 + 8 * p + 4)) := by
  obtain ⟨-, hn6, -, -, -⟩ := RS_ok h
  obtain ⟨-, h1, h2, h3⟩ := r_min h ht
  refine ⟨fun e p hp => ?_, fun e => ?_⟩
  · rw [mp_get hn6 (by omega) (by omega) (by omega) (by omega) (by omega) (by omega) (by omega) (by omega), h3 e]
    split
    · exact m_p12_4 (by omega)
    · exact (m_rest_4 (by omega)).trans (m_p12_4 (by omega))
  · obtain ⟨q, hq, hs, hm⟩ := h2 e
    refine ⟨q, hq, hs, fun p hp => ?_⟩
    rw [mp_get hn6 (by omega) (by omega) (by omega) (by omega) (by omega) (by omega) (by omega) (by omega), hm, m_start_4 (by omega) (by omega), m_p12_4 (by omega)]
theorem RS_fill {S : SS} {w : Nat → Int64} {n t : Nat} (h : RS S w n t) (a f : Nat) (ha : pj f = a) (hf : f < 7) (hf0 : f ≠ 0) {x : Int32} {y : Int64} (v : Nat) (hx : x = nI v) (hy : y = lN v) (hv : v ≤ 12) : RS (setA S a (itr (p_fillB x) n (S.2.2.1 a))) (itr (o_piB f y) n w) n t := by
  obtain ⟨⟨Z, hR⟩, h23⟩ := h
  have hn6 := hR.2.2.1.2.1
  refine ⟨⟨_, r_fill hR a f ha hf hf0 v hx hy (by omega)⟩, ?_⟩
  rw [itr_pi f y (by omega), if_neg (by omega)]
  exact h23
/-- the broken oaths only grow -/
theorem grow_9 {S : SS} {w : Nat → Int64} {n t : Nat} (h : RS S w n t) {a : Nat} (ha : w 9 = lN a) (ha30 : a < 2 ^ 30) : ∀ m, t + m ≤ 3000000 → (∀ j, j ≤ m → itr (m_goB n t) j w 9 = lN a) ∨ ∃ b, a < b ∧ b < 2 ^ 30 ∧ itr (m_goB n t) m w 9 = lN b
  | 0, _ => Or.inl (fun j hj => by
    have e : j = 0 := by omega
    subst e; exact ha)
  | m + 1, hm => by
    have hr := r_pass h m (by omega)
    obtain ⟨c, hc, -, hc2⟩ := RS_i (r_pass h (m + 1) hm) (by omega) 5 9 (by omega) rfl
    rcases grow_9 h ha ha30 m (by omega) with hl | ⟨b, hb1, hb2, hb3⟩
    · rcases pass_9 hr (by omega) (hl m (Nat.le_refl m)) with e | e
      · left
        intro j hj
        by_cases e2 : j = m + 1
        · subst e2; exact e
        · exact hl j (by omega)
      · right
        have e3 : itr (m_goB n t) (m + 1) w 9 = lN (a + 1) := e
        have := (lN_eq (a := c) (b := a + 1) (by omega) (by omega)).mp (hc2.symm.trans e3)
        exact ⟨a + 1, by omega, by omega, e3⟩
    · right
      rcases pass_9 hr (by omega) hb3 with e | e
      · exact ⟨b, hb1, hb2, e⟩
      · have e3 : itr (m_goB n t) (m + 1) w 9 = lN (b + 1) := e
        have := (lN_eq (a := c) (b := b + 1) (by omega) (by omega)).mp (hc2.symm.trans e3)
        exact ⟨b + 1, by omega, by omega, e3⟩
theorem RS_5 {S : SS} {w : Nat → Int64} {n t : Nat} (h : RS S w n t) (ht : t ≤ 3000000) {a : Nat} (ha : a < 2 ^ 30) : (S.1 5 = nI a) ↔ w 9 = lN a := by
  obtain ⟨c, hc, h1, h2⟩ := RS_i h ht 5 9 (by omega) rfl
  rw [h1, h2]
  exact (nI_eq (by omega) (by omega)).trans (lN_eq (by omega) (by omega)).symm
theorem wk_eq {S : SS} {w : Nat → Int64} {n t : Nat} (h : RS S w n t) (ht : t ≤ 1000000) {o m : Nat} (ho : o ≤ 12) (hm : m ≤ 1440) : c_wkR S n (nI o) m = decide (o_ofRow w n t m o 9 = w 9) := by
  obtain ⟨a, ha, a1, a2⟩ := RS_i h (by omega) 5 9 (by omega) rfl
  have hn6 := (RS_ok h).2.1
  have hs : RS (p_swear S n (nI o)) (itr (o_piB 1 (nI o).toInt64) n w) n t := RS_fill h 3 1 rfl (by omega) (by omega) o rfl (nI_l (by omega)) ho
  have hw9 : itr (o_piB 1 (nI o).toInt64) n w 9 = lN a := by rw [itr_pi 1 _ (by omega), if_neg (by omega)]; exact a2
  have hcond : ∀ i, i ≤ m → ((s_pass (p_swear S n (nI o)) n i).1 5 = S.1 5 ↔ itr (m_goB n t) i (itr (o_piB 1 (nI o).toInt64) n w) 9 = lN a) := fun i hi => by
    rw [a1]
    exact RS_5 (r_pass hs i (by omega)) (by omega) ha
  unfold c_wkR
  rw [a2]
  refine decide_eq_decide.mpr ?_
  obtain ⟨i1, i2⟩ := frst_is (fun i => decide (¬ (s_pass (p_swear S n (nI o)) n (i + 1)).1 5 = S.1 5)) m
  rcases grow_9 hs hw9 ha m (by omega) with hl | ⟨b, hb1, hb2, hb3⟩
  · refine ⟨fun _ => hl m (Nat.le_refl m), fun _ q => ?_⟩
    have := i2 q
    rw [decide_eq_true_eq] at this
    exact this ((hcond _ (by have : c_wkAt S n (nI o) m < m := q; exact this)).mpr (hl _ (by have : c_wkAt S n (nI o) m < m := q; exact this)))
  · have hne : ¬ itr (m_goB n t) m (itr (o_piB 1 (nI o).toInt64) n w) 9 = lN a := by
      rw [hb3]
      intro q
      have := (lN_eq (by omega) (by omega)).mp q
      omega
    refine ⟨fun q => absurd ?_ hne, fun q => absurd q hne⟩
    have hm0 : m ≠ 0 := fun e => by subst e; exact hne hw9
    have h9 := i1 (m - 1) (by
      have : ¬ c_wkAt S n (nI o) m < m := q
      have h7 : c_wkAt S n (nI o) m ≤ m := frst_le _ m
      show m - 1 < c_wkAt S n (nI o) m
      omega)
    simp only [decide_eq_false_iff_not, Classical.not_not] at h9
    rw [show m - 1 + 1 = m by omega] at h9
    exact (hcond m (Nat.le_refl m)).mp h9
theorem q_oathFor {S2 S3 S4 S5 S6 : SS} {T : TS} {sv : Int32} {M : MS} {st n t le : Nat} (h : RO S2 S3 S4 S5 S6 T sv M st n t le) (x : Int32) : Q2 iae (c_ofT x) ((o_oathFor M n t x).1 2) (c_ofR S2 n x.toNatClampNeg = o_oathForR M n t x) (ROE S2 S3 S4 S5 S6 T sv (o_oathFor M n t x)) (ROE S2 S3 S4 S5 S6 T sv (o_oathFor M n t x)) := by
  obtain ⟨Z, hR, h23, ht, hn6⟩ := RO_w h
  have hRS : RS S2 (M.2.1 0) n t := ⟨⟨Z, hR⟩, h23⟩
  have c1 : m_in x.toInt64 1 1440 = c_in x 1 1440 := m_c_in x 1 1440 rfl rfl
  unfold c_ofT o_oathFor o_oathForR
  rw [c1]
  by_cases e1 : c_in x 1 1440 = true
  · obtain ⟨k, -, hk, rfl⟩ := c_in_t (a := 1) (b := 1440) e1 rfl rfl (by omega) (by omega)
    have hcl : (nI k).toNatClampNeg = k := nI_clamp (by omega)
    have hat : c_ofAt S2 n k = o_ofAt (M.2.1 0) n t k := frst_cong (fun i hi => wk_eq hRS ht (by omega) hk)
    simp only [if_pos e1, hcl]
    unfold c_ofR
    rw [hat]
    refine Or.inl ⟨rfl, ?_, rfl, ?_⟩
    · split <;> rfl
    · split <;> exact ⟨st, n, t, le, h⟩
  · simp only [if_neg e1]
    exact Or.inr ⟨rfl, rfl, ⟨st, n, t, le, h⟩⟩
theorem q_emptyIn {S2 S3 S4 S5 S6 : SS} {T : TS} {sv : Int32} {M : MS} {st n t le : Nat} (h : RO S2 S3 S4 S5 S6 T sv M st n t le) : c_emR S2 n = o_emptyInR M n t ∧ ROE S2 S3 S4 S5 S6 T sv (o_emptyIn M n t) := by
  obtain ⟨Z, hR, h23, ht, hn6⟩ := RO_w h
  have hRS : RS S2 (M.2.1 0) n t := ⟨⟨Z, hR⟩, h23⟩
  have hs : RS (p_out S2 n) (itr (o_piB 2 2) n (M.2.1 0)) n t := RS_fill hRS 4 2 rfl (by omega) (by omega) 2 rfl rfl (by omega)
  have hat : c_emAt S2 n = o_emAt (M.2.1 0) n t := frst_cong (fun i hi => by
    obtain ⟨a, ha, a1, a2⟩ := RS_i (r_pass hs i (by omega)) (by omega) 1 1 (by omega) rfl
    refine decide_eq_decide.mpr ?_
    show _ ↔ itr (m_goB n t) i (itr (o_piB 2 2) n (M.2.1 0)) 1 = 0
    rw [a1, a2]
    exact (nI_eq (b := 0) (by omega) (by omega)).trans (lN_eq (b := 0) (by omega) (by omega)).symm)
  refine ⟨?_, st, n, t, le, h⟩
  unfold c_emR o_emptyInR
  rw [hat]
theorem q_nextStart {S2 S3 S4 S5 S6 : SS} {T : TS} {sv : Int32} {M : MS} {st n t le : Nat} (h : RO S2 S3 S4 S5 S6 T sv M st n t le) : c_nsR S2 n = o_started (o_nsRow (M.2.1 0) n t) (M.2.1 0) n ∧ ROE S2 S3 S4 S5 S6 T sv (o_setV (o_setI M 2 0) 1 (o_nsRow (M.2.1 0) n t)) := by
  obtain ⟨Z, hR, h23, ht, hn6⟩ := RO_w h
  have hRS : RS S2 (M.2.1 0) n t := ⟨⟨Z, hR⟩, h23⟩
  refine ⟨?_, st, n, t, le, h⟩
  obtain ⟨w, hw⟩ : ∃ w, w = M.2.1 0 := ⟨_, rfl⟩
  rw [← hw] at hRS ⊢
  obtain ⟨K, hK⟩ : ∃ K, K = c_nsAt S2 n := ⟨_, rfl⟩
  obtain ⟨i1, i2⟩ := frst_is (fun i => decide (¬ s_minR (s_pass S2 n i) n = -1)) 1440
  have hKle : K ≤ 1440 := by rw [hK]; exact frst_le _ 1440
  have hno : ∀ j, j < K → s_minR (s_pass S2 n j) n = -1 := fun j hj => by
    have := i1 j (by rw [hK] at hj; exact hj)
    simp only [decide_eq_false_iff_not, Classical.not_not] at this
    exact this
  have same : ∀ j, j ≤ K → ∀ p, p < n → itr (m_goB n t) j w (48 + 8 * p + 4) = w (48 + 8 * p + 4) := by
    intro j
    induction j with
    | zero => intro _ p _; rfl
    | succ j ih =>
      intro hj p hp
      exact ((pass_4 (r_pass hRS j (by omega)) (by omega)).1 (hno j (by omega)) p hp).trans (ih (by omega) p hp)
  have none : ∀ j, j ≤ K → o_started (itr (m_goB n t) j w) w n = -1 := fun j hj => by
    unfold o_started
    have : frst (o_startedP (itr (m_goB n t) j w) w) n = n := frst_none (fun p hp => by
      unfold o_startedP
      rw [same j hj p hp]
      exact decide_eq_false (fun q => q (Int64.le_refl _)))
    rw [this, if_neg (Nat.lt_irrefl n)]
  unfold c_nsR o_nsRow
  rw [← hK]
  rcases Nat.lt_or_ge K 1440 with hlt | hge
  · have hne : ¬ s_minR (s_pass S2 n K) n = -1 := by
      have := i2 (by rw [hK] at hlt; exact hlt)
      rw [decide_eq_true_eq] at this
      rw [hK]; exact this
    obtain ⟨q, hq, hs, hrow⟩ := (pass_4 (r_pass hRS K (by omega)) (by omega)).2 hne
    have hst : o_started (itr (m_goB n t) (K + 1) w) w n = nI q := by
      unfold o_started
      have hrow2 : ∀ p, p < n → itr (m_goB n t) (K + 1) w (48 + 8 * p + 4) = if p = q then w (48 + 8 * p + 4) + 1 else w (48 + 8 * p + 4) := fun p hp => by
        have := hrow p hp
        rw [same K (Nat.le_refl K) p hp] at this
        exact this
      obtain ⟨v, hv, -, hv2⟩ := RS_pv hRS (by omega) 7 4 q rfl (by omega) (by omega)
      have hf : frst (o_startedP (itr (m_goB n t) (K + 1) w) w) n = q := frst_some (by
        unfold o_startedP
        rw [hrow2 q hq, if_pos rfl, hv2, lN_1]
        exact decide_eq_true (fun e => by have := (lN_le (by omega) (by omega)).mp e; omega)) (fun p hp => by
        unfold o_startedP
        rw [hrow2 p (by omega), if_neg (by omega)]
        exact decide_eq_false (fun e => e (Int64.le_refl _))) hq
      rw [hf, if_pos hq]
    have hat : o_nsAt w n t = K + 1 := by
      unfold o_nsAt
      rcases Nat.lt_or_ge (K + 1) 1440 with h9 | h9
      · refine frst_some (p := fun i => decide (¬ o_started (itr (m_goB n t) i w) w n = -1)) ?_ (fun j hj => ?_) h9
        · rw [hst]
          exact decide_eq_true (nI_m1 (by omega))
        · exact decide_eq_false (fun e => e (none j (by omega)))
      · have : K + 1 = 1440 := by omega
        rw [this]
        exact frst_none (fun j hj => decide_eq_false (fun e => e (none j (by omega))))
    rw [hat, hst, if_pos hlt]
    exact hs
  · have hat : o_nsAt w n t = 1440 := by
      unfold o_nsAt
      exact frst_none (fun j hj => decide_eq_false (fun e => e (none j (by omega))))
    rw [hat, none 1440 hge, if_neg (by omega)]
theorem itr_cong {σ : Type} {f g : Nat → σ → σ} {s : σ} : ∀ {n : Nat}, (∀ k, k < n → ∀ x, f k x = g k x) → itr f n s = itr g n s
  | 0, _ => rfl
  | n + 1, h => by
    rw [itr_s, itr_s, itr_cong (n := n) (fun k hk x => h k (by omega) x), h n (by omega)]
theorem itr_8 (F : Nat → Nat → Int64 → Int64) (h : Int64) : ∀ n, itr (fun k x => itr (F k) 8 x) n h = itr (fun k x => F (k / 8) (k % 8) x) (8 * n) h
  | 0 => rfl
  | n + 1 => by
    rw [itr_s, itr_8 F h n]
    have e : ∀ i, i < 8 → (8 * n + i) / 8 = n ∧ (8 * n + i) % 8 = i := fun i hi => by omega
    have s : ∀ i, i ≤ 8 → itr (fun k x => F (k / 8) (k % 8) x) (8 * n + i) h = itr (F n) i (itr (fun k x => F (k / 8) (k % 8) x) (8 * n) h) := by
      intro i
      induction i with
      | zero => intro _; rfl
      | succ i ih =>
        intro hi
        show F ((8 * n + i) / 8) ((8 * n + i) % 8) (itr (fun k x => F (k / 8) (k % 8) x) (8 * n + i) h) = _
        rw [(e i (by omega)).1, (e i (by omega)).2, ih (by omega)]
        rfl
    exact (s 8 (Nat.le_refl 8)).symm
theorem q_digest {S2 S3 S4 S5 S6 : SS} {T : TS} {sv : Int32} {M : MS} {st n t le : Nat} (h : RO S2 S3 S4 S5 S6 T sv M st n t le) : ∃ m, m ≤ 12 ∧ S2.1 9 = nI m ∧ M.2.1 0 13 = lN m ∧ 31 * s_dig S2 n m (113863 + (T.1 0).toInt64) + sv.toInt64 = o_digest M n m := by
  obtain ⟨Z, hR, h23, ht, hn6⟩ := RO_w h
  obtain ⟨hC, hM, hB, -, hL⟩ := id hR
  obtain ⟨⟨a1, a2, a3⟩, -, -, d1, d2, d3, -⟩ := id h
  have z13 := hB.2.2.2.2.2.2.2.2.2.1
  refine ⟨Z 13, z13, Rl_i hR 9 13 (by omega) rfl, hM 13 zd_13, ?_⟩
  have hz : ∀ k, zd k → Z k < 2 ^ 31 := fun k hk => by have := zB_le hB hk; omega
  have e0 : ∀ s, itr (s_dgN S2 n) 14 s = itr (o_dgN M n) 14 s := fun s => itr_cong (fun k hk x => by
    unfold s_dgN o_dgN
    rw [one_eq hR (by omega) (by omega) (o_setI M 2 0) rfl])
  have e1 : ∀ s, itr (s_dgA S2 0) 3 s = itr (o_dgW M 4) 3 s := fun s => itr_cong (fun k hk x => by
    unfold s_dgA o_dgW
    rw [zC_s hC hk, hM _ (zd_lo (by omega)), nI_l (hz _ (zd_lo (by omega)))])
  have e2 : ∀ s, itr (s_dgA S2 1) 24 s = itr (o_dgW M 24) 24 s := fun s => itr_cong (fun k hk x => by
    unfold s_dgA o_dgW
    rw [zC_d hC hk, hM _ (zd_d hk), nI_l (hz _ (zd_d hk))])
  have e3 : ∀ s, itr (s_dgV S2) 5 s = itr (o_dgW M 14) 5 s := fun s => itr_cong (fun k hk x => by
    unfold s_dgV o_dgW
    rw [hL.2.1 k hk])
  have e4 : ∀ s, p_dig S2 n s = itr (o_dgP M) (8 * n) s := fun s => by
    unfold p_dig
    rw [itr_8 (p_digB S2) s n]
    refine itr_cong (fun k hk x => ?_)
    unfold p_digB o_dgP
    rw [fact_eq hR (p := k / 8) (v := k % 8) (by omega) (by omega) (o_setI M 2 0) rfl]
  have e5 : ∀ s, b_dig S2 (Z 13) s = itr (o_dgW M 102) (3 * Z 13) s := fun s => by
    unfold b_dig
    refine itr_cong (fun k hk x => ?_)
    unfold b_digB o_dgW
    rw [zC_l hC (by omega), hM _ (zd_l (by omega)), nI_l (hz _ (zd_l (by omega)))]
  unfold s_dig o_digest
  rw [e0, e1, e2, e3, e4, e5, d1, d2, a1, a2, show M.2.1 0 12 = S2.2.1 1 from hL.1]
