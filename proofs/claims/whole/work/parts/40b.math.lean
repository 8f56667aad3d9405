/-! MATHEMATICS: steps 1 and 2 of a minute, the stop -/
theorem i64_bal (L a b c : Int64) : L - a + b + c = -(a - b - c - L) := by grind
theorem zL_f {S : SS} {w w' : Nat → Int64} (h : zL S w) (e : ∀ k, 12 ≤ k → k < 20 → k ≠ 13 → w' k = w k) : zL S w' := by
  refine ⟨(e 12 (by omega) (by omega) (by omega)).trans h.1, fun j hj => (e _ (by omega) (by omega) (by omega)).trans (h.2.1 j hj), (e 19 (by omega) (by omega) (by omega)).trans h.2.2⟩
theorem Rl_t {S : SS} {w : Nat → Int64} {Z : Nat → Nat} {n t b : Nat} (h : Rl S w Z n t b) : S.1 4 = nI t ∧ t ≤ b := by
  have h1 := Rl_i h 4 8 (by omega) rfl
  have h2 := zB_le' h.2.2.1 8 (by omega)
  rw [h.2.2.1.2.2.1] at h1 h2
  exact ⟨h1, h2⟩
theorem s_dayN {S : SS} {w : Nat → Int64} {Z : Nat → Nat} {n t b : Nat} (h : Rl S w Z n t b) (hb : b < 2 ^ 30) : s_day S = nI (t % 1440) := by
  obtain ⟨h1, h2⟩ := Rl_t h
  unfold s_day
  rw [h1]
  exact pk_rem (a := t) (d := 1440) (by omega) (by omega) (by omega)
theorem bal_eq {S : SS} {w : Nat → Int64} {Z : Nat → Nat} (hC : zC S Z) (hM : zM w Z) (hb : Z 1 < 2 ^ 31) (hL : ∀ j, j < 5 → w (14 + j) = S.2.2.2 j) : m_bal w = - s_bal S := by
  unfold m_bal s_bal
  rw [show w 14 = S.2.2.2 0 from hL 0 (by omega), show w 15 = S.2.2.2 1 from hL 1 (by omega), show w 16 = S.2.2.2 2 from hL 2 (by omega), hM 1 (zd_lo (by omega)), show S.1 1 = nI (Z 1) from zC_i hC (by omega), nI_l hb]
  exact i64_bal _ _ _ _
theorem r_m1 {S : SS} {w : Nat → Int64} {Z : Nat → Nat} {n t b : Nat} (h : Rl S w Z n t b) (hb : b < 2 ^ 30) : Rl (s_m1 S) (m_p1 w t) Z n t b ∧ m_p1 w t 23 = (if t % 1440 = 1320 then 1 else w 23) := by
  have hd := s_dayN h hb
  unfold s_m1 m_p1
  rw [hd]
  by_cases e : t % 1440 = 1320
  · have e1 : nI (t % 1440) = 1320 := by rw [e]; rfl
    rw [if_pos e1, if_pos e1, if_pos e]
    obtain ⟨hC, hM, hB, hO, hL⟩ := h
    have hn6 := hB.2.1
    have hM1 : zM (vp_updL w 23 1) Z := zM_skip hM 23 _ (by unfold zd; omega)
    refine ⟨⟨zC_L hC _ _, zM_skip hM1 19 _ (by unfold zd; omega), hB, zO_w hO (fun k hk => (pk_uLn (by omega)).trans (pk_uLn (by omega))), (pk_uLn (by decide)).trans ((pk_uLn (by decide)).trans hL.1), fun j hj => (pk_uLn (by omega)).trans ((pk_uLn (by omega)).trans (hL.2.1 j hj)), pk_uLs.trans ?_⟩, (pk_uLn (by decide)).trans pk_uLs⟩
    show m_bal (vp_updL w 23 1) = - s_bal S
    have h1 := zB_le' hB 1 (by omega)
    exact bal_eq hC hM1 (by omega) (fun j hj => (pk_uLn (by omega)).trans (hL.2.1 j hj))
  · have e1 : ¬ nI (t % 1440) = 1320 := fun q => e ((nI_eq (a := t % 1440) (b := 1320) (by omega) (by decide)).mp q)
    rw [if_neg e1, if_neg e1, if_neg e]
    exact ⟨h, rfl⟩
theorem itr_fill (v : Int32) (k : Nat) : ∀ (n : Nat) (f : Nat → Int32), itr (p_fillB v) n f k = if k < n then v else f k
  | 0, f => by rw [if_neg (Nat.not_lt_zero k)]; rfl
  | n + 1, f => by
    rw [itr_s]
    show (if k = n then v else itr (p_fillB v) n f k) = _
    rw [itr_fill v k n f]
    repeat' split
    all_goals first | rfl | omega
theorem itr_pi (b : Nat) (v : Int64) (hb : b < 8) (k : Nat) : ∀ (n : Nat) (f : Nat → Int64), itr (o_piB b v) n f k = if 48 ≤ k ∧ k < 48 + 8 * n ∧ (k - 48) % 8 = b then v else f k
  | 0, f => by rw [if_neg (by omega)]; rfl
  | n + 1, f => by
    rw [itr_s]
    show (if k = 48 + 8 * n + b then v else itr (o_piB b v) n f k) = _
    rw [itr_pi b v hb k n f]
    repeat' split
    all_goals first | rfl | omega
def zF (Z : Nat → Nat) (n f v : Nat) : Nat → Nat := fun k => if 48 ≤ k ∧ k < 48 + 8 * n ∧ (k - 48) % 8 = f then v else Z k
theorem setA_o {S : SS} {a j : Nat} {g : Nat → Int32} (h : j ≠ a) : (setA S a g).2.2.1 j = S.2.2.1 j := if_neg h
theorem setA_s {S : SS} {a : Nat} {g : Nat → Int32} : (setA S a g).2.2.1 a = g := if_pos rfl
theorem pj_ne5 {f a : Nat} (h : pj f = a) : 5 ≠ a := by unfold pj at h; split at h <;> omega
theorem r_fill {S : SS} {w : Nat → Int64} {Z : Nat → Nat} {n t b : Nat} (h : Rl S w Z n t b) (a f : Nat) (ha : pj f = a) (hf : f < 7) (hf0 : f ≠ 0) {x : Int32} {y : Int64} (v : Nat) (hx : x = nI v) (hy : y = lN v) (hv : v ≤ b) : Rl (setA S a (itr (p_fillB x) n (S.2.2.1 a))) (itr (o_piB f y) n w) (zF Z n f v) n t b := by
  obtain ⟨hC, hM, hB, hO, hL⟩ := h
  have hn6 := hB.2.1
  refine ⟨zC_row hC a f ha hf (fun p hp => ?_) (fun k hk hne => ?_), fun k hk => ?_, zB_of hB (fun k hk => if_neg (by omega)) ?_ (fun j hj => if_neg (by omega)) (fun p hp => if_neg (by omega)) (fun k hk => ?_), ?_, ?_⟩
  · rw [itr_fill]
    unfold zF
    by_cases e : p < n
    · rw [if_pos e, if_pos (by omega)]; exact hx
    · rw [if_neg e, if_neg (by omega)]; exact zC_p hC a f ha hp hf
  · exact if_neg (by omega)
  · rw [itr_pi f y (by omega)]
    unfold zF
    split
    · exact hy
    · exact hM k hk
  · show (if _ then _ else _) ≤ 12
    rw [if_neg (by omega)]
    exact hB.2.2.2.2.2.2.2.2.2.1
  · unfold zF
    split
    · exact hv
    · exact zB_le hB hk
  · rw [setA_o (pj_ne5 ha)]
    exact zO_w hO (fun k hk => by rw [itr_pi f y (by omega)]; exact if_neg (by omega))
  · exact zL_f (S := S) hL (fun k h1 h2 h3 => by rw [itr_pi f y (by omega)]; exact if_neg (by omega))
theorem r_m2 {S : SS} {w : Nat → Int64} {Z : Nat → Nat} {n t b : Nat} (h : Rl S w Z n t b) (hb : b < 2 ^ 30) : ∃ Z', Rl (s_m2 S n) (m_p2 w n t) Z' n t b ∧ m_p2 w n t 23 = w 23 := by
  obtain ⟨h1, h2⟩ := Rl_t h
  have hn6 := h.2.2.1.2.1
  have hr : S.1 4 - S.1 4 / 60 * 60 = nI (t % 60) := by rw [h1]; exact pk_rem (a := t) (d := 60) (by omega) (by omega) (by omega)
  have hq : nI (t % 1440) - nI (t % 1440) / 60 * 60 = nI (t % 60) := by
    have h3 : t % 1440 % 60 = t % 60 := by omega
    rw [← h3]
    exact pk_rem (a := t % 1440) (d := 60) (by omega) (by omega) (by omega)
  unfold s_m2 m_p2
  rw [hr, hq]
  by_cases e : nI (t % 60) = 0
  · rw [if_pos e, if_pos e]
    refine ⟨_, r_fill h 6 3 rfl (by omega) (by omega) 0 rfl rfl (Nat.zero_le _), ?_⟩
    show itr (o_piB 3 0) n w 23 = w 23
    rw [itr_pi 3 0 (by omega)]
    exact if_neg (by omega)
  · rw [if_neg e, if_neg e]
    exact ⟨Z, h, rfl⟩
theorem p_stopB_e (k : Nat) (g : (Nat → Int32) × Int32) : p_stopB k g = if g.1 k = 1 then (upd g.1 k 0, 1) else g := rfl
theorem stop_1 : ∀ (n : Nat) (g : Nat → Int32) (k : Nat), (itr p_stopB n (g, 0)).1 k = if k < n ∧ g k = 1 then 0 else g k
  | 0, g, k => by rw [if_neg (by omega)]; rfl
  | n + 1, g, k => by
    rw [itr_s]
    have hn : (itr p_stopB n (g, 0)).1 n = g n := by rw [stop_1 n g n]; exact if_neg (by omega)
    have hk := stop_1 n g k
    rw [p_stopB_e, hn]
    by_cases e : g n = 1
    · rw [if_pos e]
      show (if k = n then 0 else (itr p_stopB n (g, 0)).1 k) = _
      by_cases e2 : k = n
      · subst e2; rw [if_pos rfl, if_pos ⟨by omega, e⟩]
      · rw [if_neg e2, hk]
        by_cases e3 : k < n ∧ g k = 1
        · rw [if_pos e3, if_pos ⟨by omega, e3.2⟩]
        · rw [if_neg e3, if_neg (fun q => e3 ⟨by omega, q.2⟩)]
    · rw [if_neg e, hk]
      by_cases e3 : k < n ∧ g k = 1
      · rw [if_pos e3, if_pos ⟨by omega, e3.2⟩]
      · rw [if_neg e3, if_neg (fun q => e3 ⟨by
          rcases Nat.lt_or_ge k n with h9 | h9
          · exact h9
          · have h8 : k = n := by omega
            subst h8
            exact absurd q.2 e, q.2⟩)]
theorem stop_2 : ∀ (n : Nat) (g : Nat → Int32), (itr p_stopB n (g, 0)).2 = 0 ↔ ∀ k, k < n → ¬ g k = 1
  | 0, g => ⟨fun _ k hk => absurd hk (Nat.not_lt_zero k), fun _ => rfl⟩
  | n + 1, g => by
    rw [itr_s]
    have hn : (itr p_stopB n (g, 0)).1 n = g n := by rw [stop_1 n g n]; exact if_neg (by omega)
    have hk := stop_2 n g
    rw [p_stopB_e, hn]
    by_cases e : g n = 1
    · rw [if_pos e]
      exact ⟨fun q => absurd (show (1 : Int32) = 0 from q) (by decide), fun q => absurd e (q n (by omega))⟩
    · rw [if_neg e, hk]
      exact ⟨fun q k h9 => by
        rcases Nat.lt_or_ge k n with h8 | h8
        · exact q k h8
        · have h7 : k = n := by omega
          subst h7
          exact e, fun q k h9 => q k (by omega)⟩
def cnt (Z : Nat → Nat) (n m : Nat) : Nat := itr (fun k r => if Z (48 + 8 * k + 2) = m then r + 1 else r) n 0
theorem cnt_s (Z : Nat → Nat) (n m : Nat) : cnt Z (n + 1) m = if Z (48 + 8 * n + 2) = m then cnt Z n m + 1 else cnt Z n m := rfl
theorem cnt_le (Z : Nat → Nat) (m : Nat) : ∀ n, cnt Z n m ≤ n
  | 0 => Nat.le_refl 0
  | n + 1 => by
    have := cnt_le Z m n
    rw [cnt_s]
    split <;> omega
theorem cnt_0 (Z : Nat → Nat) (m : Nat) : ∀ n, cnt Z n m = 0 ↔ ∀ k, k < n → Z (48 + 8 * k + 2) ≠ m
  | 0 => ⟨fun _ k hk => absurd hk (Nat.not_lt_zero k), fun _ => rfl⟩
  | n + 1 => by
    have h := cnt_0 Z m n
    rw [cnt_s]
    by_cases e : Z (48 + 8 * n + 2) = m
    · rw [if_pos e]
      exact ⟨fun q => absurd q (by omega), fun q => absurd e (q n (by omega))⟩
    · rw [if_neg e, h]
      exact ⟨fun q k h9 => by
        rcases Nat.lt_or_ge k n with h8 | h8
        · exact q k h8
        · have h7 : k = n := by omega
          subst h7
          exact e, fun q k h9 => q k (by omega)⟩
theorem p_countN {S : SS} {Z : Nat → Nat} (hC : zC S Z) {b : Nat} (hb : b < 2 ^ 31) (hz : ∀ k, zd k → Z k ≤ b) (m : Nat) (hm : m < 2 ^ 31) : ∀ n, n ≤ 6 → p_count S n (nI m) = nI (cnt Z n m)
  | 0, _ => rfl
  | n + 1, h => by
    have ih := p_countN hC hb hz m hm n (by omega)
    have h1 := hz _ (zd_p (p := n) (f := 2) (by omega) (by omega))
    show p_cntB S (nI m) n (p_count S n (nI m)) = _
    unfold p_cntB
    rw [ih, cnt_s, zC_p hC 4 2 rfl (p := n) (by omega) (by omega)]
    by_cases e : Z (48 + 8 * n + 2) = m
    · rw [if_pos e, if_pos (by rw [e]), nI_1]
    · rw [if_neg e, if_neg (fun q => e ((nI_eq (by omega) hm).mp q))]
theorem m_manyN {w : Nat → Int64} {Z : Nat → Nat} (hM : zM w Z) {b : Nat} (hb : b < 2 ^ 31) (hz : ∀ k, zd k → Z k ≤ b) (m : Nat) (hm : m < 2 ^ 31) : ∀ n, n ≤ 6 → m_many w n (nI m) = nI (cnt Z n m)
  | 0, _ => rfl
  | n + 1, h => by
    have ih := m_manyN hM hb hz m hm n (by omega)
    have h1 := hz _ (zd_p (p := n) (f := 2) (by omega) (by omega))
    show m_cntB w (nI m) n (m_many w n (nI m)) = _
    unfold m_cntB
    rw [ih, cnt_s, hM _ (zd_p (p := n) (f := 2) (by omega) (by omega)), nI_l hm]
    by_cases e : Z (48 + 8 * n + 2) = m
    · rw [if_pos e, if_pos (by rw [e]), nI_1]
    · rw [if_neg e, if_neg (fun q => e ((lN_eq (by omega) hm).mp q))]
      exact nI_add _ 0
theorem itr_on {S : SS} {c : Int32} (hc : S.1 8 = c) (k : Nat) : ∀ (n : Nat) (f : Nat → Int32), itr (p_onB S) n f k = if k < n then (if f k = 0 then c - 1 else f k - 1) else f k
  | 0, f => by rw [if_neg (Nat.not_lt_zero k)]; rfl
  | n + 1, f => by
    have hn : itr (p_onB S) n f n = f n := by rw [itr_on hc n n f]; exact if_neg (by omega)
    rw [itr_s]
    show (if k = n then (if itr (p_onB S) n f n = 0 then S.1 8 - 1 else itr (p_onB S) n f n - 1) else itr (p_onB S) n f k) = _
    rw [hn, hc]
    by_cases e : k = n
    · subst e; rw [if_pos rfl, if_pos (show k < k + 1 by omega)]
    · rw [if_neg e, itr_on hc k n f]
      by_cases e2 : k < n
      · rw [if_pos e2, if_pos (show k < n + 1 by omega)]
      · rw [if_neg e2, if_neg (show ¬ k < n + 1 by omega)]
theorem itr_off (k : Nat) : ∀ (n : Nat) (f : Nat → Int64), itr m_offB n f k = if (48 ≤ k ∧ k < 48 + 8 * n ∧ (k - 48) % 8 = 2) ∧ f k = 1 then 0 else f k
  | 0, f => by rw [if_neg (by omega)]; rfl
  | n + 1, f => by
    have hn : itr m_offB n f (48 + 8 * n + 2) = f (48 + 8 * n + 2) := by rw [itr_off _ n f]; exact if_neg (by omega)
    rw [itr_s]
    show (if k = 48 + 8 * n + 2 then (if itr m_offB n f (48 + 8 * n + 2) = 1 then 0 else itr m_offB n f (48 + 8 * n + 2)) else itr m_offB n f k) = _
    rw [hn]
    by_cases e : k = 48 + 8 * n + 2
    · subst e
      rw [if_pos rfl]
      by_cases e2 : f (48 + 8 * n + 2) = 1
      · rw [if_pos e2, if_pos ⟨by omega, e2⟩]
      · rw [if_neg e2, if_neg (fun q => e2 q.2)]
    · rw [if_neg e, itr_off k n f]
      by_cases e2 : (48 ≤ k ∧ k < 48 + 8 * n ∧ (k - 48) % 8 = 2) ∧ f k = 1
      · rw [if_pos e2, if_pos ⟨by omega, e2.2⟩]
      · rw [if_neg e2, if_neg (fun q => e2 ⟨by omega, q.2⟩)]
theorem m_rest_mid {w : Nat → Int64} {n k : Nat} (h : ¬ m_many w n 1 = 0) (hk : k < 96) : m_rest w n k = if (48 ≤ k ∧ k < 48 + 8 * n ∧ (k - 48) % 8 = 2) ∧ w k = 1 then 0 else w k := by
  unfold m_rest
  rw [if_neg h]
  refine (pk_uLn (by omega)).trans ?_
  rw [itr_out (f := m_shB) _ _ (fun i g hi => pk_uLn (by omega))]
  exact itr_off k n w
def zS (Z : Nat → Nat) (n : Nat) : Nat → Nat := fun k => if (48 ≤ k ∧ k < 48 + 8 * n ∧ (k - 48) % 8 = 2) ∧ Z k = 1 then 0 else Z k
theorem r_stop {S : SS} {w : Nat → Int64} {Z : Nat → Nat} {n t b : Nat} (h : Rl S w Z n t b) (hb : b < 2 ^ 30) : ∃ Z', Rl (p_stop S n) (m_rest w n) Z' n t b ∧ m_rest w n 23 = w 23 := by
  have h0 := h
  obtain ⟨hC, hM, hB, hO, hL⟩ := h
  have hn6 := hB.2.1
  have hz : ∀ k, zd k → Z k ≤ b := fun k hk => zB_le hB hk
  have hmany : m_many w n 1 = nI (cnt Z n 1) := m_manyN hM (by omega) hz 1 (by omega) n hn6
  have hle := cnt_le Z 1 n
  have h8 : S.1 8 = nI n := by rw [Rl_i h0 8 7 (by omega) rfl, hB.1]
  refine ⟨zS Z n, ?_, m_rest_get hn6 (by omega)⟩
  have hmode : ∀ p, p < 6 → S.2.2.1 4 p = nI (Z (48 + 8 * p + 2)) := fun p hp => zC_p hC 4 2 rfl hp (by omega)
  have hg : ∀ p, p < 6 → (p_stopR S n).1 p = nI (zS Z n (48 + 8 * p + 2)) := fun p hp => by
    unfold p_stopR zS
    rw [stop_1 n _ p, hmode p hp]
    have h3 := hz _ (zd_p (p := p) (f := 2) hp (by omega))
    by_cases e : p < n ∧ Z (48 + 8 * p + 2) = 1
    · rw [if_pos ⟨e.1, by rw [e.2]; rfl⟩, if_pos ⟨by omega, e.2⟩]; rfl
    · rw [if_neg (fun q => e ⟨q.1, (nI_eq (b := 1) (by omega) (by omega)).mp q.2⟩), if_neg (fun q => e ⟨by omega, q.2⟩)]
  have hCs : zC (setA S 4 (p_stopR S n).1) (zS Z n) := zC_row hC 4 2 rfl (by omega) hg (fun k hk hne => if_neg (by omega))
  have hBs : zB (zS Z n) n t b := zB_of hB (fun k hk => if_neg (by omega)) (by show (if _ then _ else _) ≤ 12; rw [if_neg (by omega)]; exact hB.2.2.2.2.2.2.2.2.2.1) (fun j hj => if_neg (by omega)) (fun p hp => if_neg (by omega)) (fun k hk => by
    unfold zS
    split
    · omega
    · exact hz k hk)
  by_cases e : cnt Z n 1 = 0
  · have hr : m_rest w n = w := by unfold m_rest; rw [hmany, e]; exact if_pos rfl
    have hq : (p_stopR S n).2 = 0 := (stop_2 n _).mpr (fun k hk q => (cnt_0 Z 1 n).mp e k hk (by
      rw [hmode k (by omega)] at q
      have h3 := hz _ (zd_p (p := k) (f := 2) (by omega) (by omega))
      exact (nI_eq (b := 1) (by omega) (by omega)).mp q))
    unfold p_stop
    rw [if_pos hq, hr]
    refine ⟨hCs, fun k hk => ?_, hBs, ?_, hL⟩
    · unfold zS
      split
      · next q =>
        have h4 := (cnt_0 Z 1 n).mp e ((k - 48) / 8) (by omega)
        rw [show 48 + 8 * ((k - 48) / 8) + 2 = k by omega] at h4
        exact absurd q.2 h4
      · exact hM k hk
    · exact hO
  · have hm0 : ¬ m_many w n 1 = 0 := by rw [hmany]; exact nI_ne0 (by omega) (by omega)
    have hq : ¬ (p_stopR S n).2 = 0 := fun q => e ((cnt_0 Z 1 n).mpr (fun k hk q2 => (stop_2 n _).mp q k hk (by rw [hmode k (by omega), q2]; rfl)))
    unfold p_stop p_passOn
    rw [if_neg hq]
    have hf : ∀ q k, q < n → S.2.2.1 5 q = nI k → k < n → itr (p_onB (setA S 4 (p_stopR S n).1)) n ((setA S 4 (p_stopR S n).1).2.2.1 5) q = nI (if k = 0 then n - 1 else k - 1) := fun q k hq2 he hk => by
      rw [itr_on (S := setA S 4 (p_stopR S n).1) (c := nI n) h8 q n _, if_pos hq2, show (setA S 4 (p_stopR S n).1).2.2.1 5 = S.2.2.1 5 from rfl, he]
      by_cases e2 : k = 0
      · subst e2
        rw [if_pos rfl]
        exact pk_sub (b := 1) (by omega)
      · rw [if_neg (nI_ne0 (by omega) (by omega)), if_neg e2]
        exact pk_sub (b := 1) (by omega)
    refine ⟨zC_5 hCs _, fun k hk => ?_, hBs, ⟨fun k hk => ?_, fun q hq2 => ?_⟩, ?_⟩
    · unfold zS
      by_cases e2 : k < 96
      · rw [m_rest_mid hm0 e2, hM k hk]
        have h3 := hz k hk
        by_cases e3 : (48 ≤ k ∧ k < 48 + 8 * n ∧ (k - 48) % 8 = 2) ∧ Z k = 1
        · rw [if_pos e3, if_pos ⟨e3.1, by rw [e3.2]; rfl⟩]; rfl
        · rw [if_neg e3, if_neg (fun q => e3 ⟨q.1, (lN_eq (b := 1) (by omega) (by omega)).mp q.2⟩)]
      · have hk2 : 102 ≤ k := by unfold zd at hk; omega
        rw [m_rest_get hn6 (Or.inr hk2), if_neg (by omega)]
        exact hM k hk
    · rw [m_rest_ord hn6 hk, if_neg hm0]
      show ∃ q, q < n ∧ _ = lN q ∧ (setA (setA S 4 _) 5 _).2.2.1 5 q = nI k
      rw [setA_s]
      by_cases e2 : k + 1 < n
      · obtain ⟨q, hq1, hq2, hq3⟩ := hO.1 (k + 1) e2
        refine ⟨q, hq1, by rw [if_pos e2]; exact hq2, ?_⟩
        rw [hf q (k + 1) hq1 hq3 e2, if_neg (by omega)]
        rfl
      · obtain ⟨q, hq1, hq2, hq3⟩ := hO.1 0 (by omega)
        refine ⟨q, hq1, by rw [if_neg e2]; exact hq2, ?_⟩
        rw [hf q 0 hq1 hq3 (by omega), if_pos rfl, show n - 1 = k by omega]
    · show ∃ k, k < n ∧ (setA (setA S 4 _) 5 _).2.2.1 5 q = nI k ∧ _
      rw [setA_s]
      obtain ⟨k, hk1, hk2, hk3⟩ := hO.2 q hq2
      rw [hf q k hq2 hk2 hk1]
      by_cases e2 : k = 0
      · subst e2
        refine ⟨n - 1, by omega, by rw [if_pos rfl], ?_⟩
        rw [m_rest_ord hn6 (by omega), if_neg hm0, if_neg (by omega)]
        exact hk3
      · refine ⟨k - 1, by omega, by rw [if_neg e2], ?_⟩
        rw [m_rest_ord hn6 (by omega), if_neg hm0, if_pos (by omega), show 96 + (k - 1) + 1 = 96 + k by omega]
        exact hk3
    · exact zL_f (S := S) hL (fun k h1 h2 h3 => m_rest_get hn6 (by omega))
