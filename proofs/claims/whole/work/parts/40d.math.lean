/-! MATHEMATICS: the water, and the whole minute -/
def zP (Z : Nat → Nat) (i : Nat) : Nat := itr (fun k r => if Z (48 + 8 * k + 2) = 1 then r + Z (48 + 8 * k + 0) else r) i 0
theorem zP_s (Z : Nat → Nat) (i : Nat) : zP Z (i + 1) = if Z (48 + 8 * i + 2) = 1 then zP Z i + Z (48 + 8 * i + 0) else zP Z i := rfl
theorem zP_le {Z : Nat → Nat} (h : ∀ p, p < 6 → Z (48 + 8 * p + 0) ≤ 500) : ∀ i, i ≤ 6 → zP Z i ≤ 500 * i
  | 0, _ => Nat.le_refl 0
  | i + 1, hi => by
    have h1 := zP_le h i (by omega)
    have h2 := h i (by omega)
    rw [zP_s]
    split <;> omega
theorem p_runB_e (S : SS) (k : Nat) (g : (Nat → Int32) × Int32) : p_runB S k g = if S.2.2.1 4 k = 1 then (upd g.1 k (g.1 k + 1), g.2 + S.2.2.1 2 k) else g := rfl
theorem m_flB_e (k : Nat) (f : Nat → Int64) : m_flB k f = if f (48 + 8 * k + 2) = 1 then vp_updL (vp_updL (vp_updL f 14 (f 14 + f (48 + 8 * k + 0))) 1 (f 1 + f (48 + 8 * k + 0))) (48 + 8 * k + 5) (f (48 + 8 * k + 5) + 1) else f := rfl
theorem run_1 {S : SS} {Z : Nat → Nat} (hC : zC S Z) {b : Nat} (hb : b < 2 ^ 30) (hz : ∀ k, zd k → Z k ≤ b) : ∀ i, i ≤ 6 → (itr (p_runB S) i (S.2.2.1 8, 0)).2 = nI (zP Z i) ∧ ∀ k, k < 6 → (itr (p_runB S) i (S.2.2.1 8, 0)).1 k = if k < i ∧ Z (48 + 8 * k + 2) = 1 then nI (Z (48 + 8 * k + 5) + 1) else nI (Z (48 + 8 * k + 5))
  | 0, _ => ⟨rfl, fun k hk => by rw [if_neg (by omega)]; exact zC_p hC 8 5 rfl hk (by omega)⟩
  | i + 1, hi => by
    obtain ⟨h1, h2⟩ := run_1 hC hb hz i (by omega)
    have b2 := hz _ (zd_p (p := i) (f := 2) (by omega) (by omega))
    have hc : (S.2.2.1 4 i = 1) ↔ Z (48 + 8 * i + 2) = 1 := by
      rw [zC_p hC 4 2 rfl (p := i) (by omega) (by omega)]
      exact nI_eq (b := 1) (by omega) (by omega)
    rw [itr_s, p_runB_e]
    by_cases e : Z (48 + 8 * i + 2) = 1
    · rw [if_pos (hc.mpr e)]
      refine ⟨?_, fun k hk => ?_⟩
      · show (itr (p_runB S) i (S.2.2.1 8, 0)).2 + S.2.2.1 2 i = _
        rw [h1, zP_s, if_pos e, zC_p hC 2 0 rfl (p := i) (by omega) (by omega), nI_add]
      · show upd (itr (p_runB S) i (S.2.2.1 8, 0)).1 i _ k = _
        by_cases e2 : k = i
        · subst e2
          refine pk_us.trans ?_
          rw [h2 k hk, if_neg (by omega), if_pos ⟨by omega, e⟩, nI_1]
        · refine (pk_un e2).trans ?_
          rw [h2 k hk]
          by_cases e3 : k < i ∧ Z (48 + 8 * k + 2) = 1
          · rw [if_pos e3, if_pos ⟨by omega, e3.2⟩]
          · rw [if_neg e3, if_neg (fun q => e3 ⟨by omega, q.2⟩)]
    · rw [if_neg (fun q => e (hc.mp q))]
      refine ⟨by rw [h1, zP_s, if_neg e], fun k hk => ?_⟩
      rw [h2 k hk]
      by_cases e3 : k < i ∧ Z (48 + 8 * k + 2) = 1
      · rw [if_pos e3, if_pos ⟨by omega, e3.2⟩]
      · rw [if_neg e3, if_neg (fun q => e3 ⟨by
          rcases Nat.lt_or_ge k i with h9 | h9
          · exact h9
          · have h8 : k = i := by omega
            subst h8
            exact absurd q.2 e, q.2⟩)]
theorem fl_1 {w : Nat → Int64} {Z : Nat → Nat} (hM : zM w Z) {b : Nat} (hb : b < 2 ^ 30) (hz : ∀ k, zd k → Z k ≤ b) : ∀ i, i ≤ 6 → ∀ k, itr m_flB i w k = if k = 14 then w 14 + lN (zP Z i) else if k = 1 then w 1 + lN (zP Z i) else if 48 ≤ k ∧ k < 48 + 8 * i ∧ (k - 48) % 8 = 5 ∧ Z (k - 3) = 1 then w k + 1 else w k
  | 0, _, k => by
    show w k = _
    by_cases e : k = 14
    · rw [if_pos e, e]; exact (Int64.add_zero _).symm
    · rw [if_neg e]
      by_cases e2 : k = 1
      · rw [if_pos e2, e2]; exact (Int64.add_zero _).symm
      · rw [if_neg e2, if_neg (by omega)]
  | i + 1, hi, k => by
    have ih := fl_1 hM hb hz i (by omega)
    have b2 := hz _ (zd_p (p := i) (f := 2) (by omega) (by omega))
    have f2 : itr m_flB i w (48 + 8 * i + 2) = lN (Z (48 + 8 * i + 2)) := by
      rw [ih, if_neg (by omega), if_neg (by omega), if_neg (by omega)]; exact hM _ (zd_p (by omega) (by omega))
    have f0 : itr m_flB i w (48 + 8 * i + 0) = lN (Z (48 + 8 * i + 0)) := by
      rw [ih, if_neg (by omega), if_neg (by omega), if_neg (by omega)]; exact hM _ (zd_p (by omega) (by omega))
    have f5 : itr m_flB i w (48 + 8 * i + 5) = w (48 + 8 * i + 5) := by
      rw [ih, if_neg (by omega), if_neg (by omega), if_neg (by omega)]
    have f14 : itr m_flB i w 14 = w 14 + lN (zP Z i) := by rw [ih, if_pos rfl]
    have f1 : itr m_flB i w 1 = w 1 + lN (zP Z i) := by rw [ih, if_neg (by omega), if_pos rfl]
    rw [itr_s, m_flB_e, f2, f0, f5, f14, f1]
    by_cases e : Z (48 + 8 * i + 2) = 1
    · rw [if_pos (by rw [e]; rfl), zP_s, if_pos e]
      have h3 : vp_updL (itr m_flB i w) 14 (w 14 + lN (zP Z i) + lN (Z (48 + 8 * i + 0))) 1 = w 1 + lN (zP Z i) := (pk_uLn (by omega)).trans f1
      show vp_updL (vp_updL (vp_updL (itr m_flB i w) 14 _) 1 _) (48 + 8 * i + 5) _ k = _
      by_cases e5 : k = 48 + 8 * i + 5
      · subst e5
        refine pk_uLs.trans ?_
        rw [if_neg (by omega), if_neg (by omega), if_pos ⟨by omega, by omega, by omega, by rw [show 48 + 8 * i + 5 - 3 = 48 + 8 * i + 2 by omega]; exact e⟩]
      · refine (pk_uLn e5).trans ?_
        by_cases e1 : k = 1
        · subst e1
          refine pk_uLs.trans ?_
          rw [if_neg (by omega), if_pos rfl, ← lN_add, Int64.add_assoc]
        · refine (pk_uLn e1).trans ?_
          by_cases e14 : k = 14
          · subst e14
            refine pk_uLs.trans ?_
            rw [if_pos rfl, ← lN_add, Int64.add_assoc]
          · refine (pk_uLn e14).trans ?_
            rw [ih, if_neg e14, if_neg e1, if_neg e14, if_neg e1]
            by_cases e3 : 48 ≤ k ∧ k < 48 + 8 * i ∧ (k - 48) % 8 = 5 ∧ Z (k - 3) = 1
            · rw [if_pos e3, if_pos ⟨e3.1, by omega, e3.2.2⟩]
            · rw [if_neg e3, if_neg (fun q => e3 ⟨q.1, by omega, q.2.2⟩)]
    · have c : ¬ lN (Z (48 + 8 * i + 2)) = 1 := fun q => e ((lN_eq (b := 1) (by omega) (by omega)).mp q)
      have hc : (48 ≤ k ∧ k < 48 + 8 * (i + 1) ∧ (k - 48) % 8 = 5 ∧ Z (k - 3) = 1) ↔ (48 ≤ k ∧ k < 48 + 8 * i ∧ (k - 48) % 8 = 5 ∧ Z (k - 3) = 1) := ⟨fun q => ⟨q.1, by
        rcases Nat.lt_or_ge k (48 + 8 * i) with h9 | h9
        · exact h9
        · exfalso
          have h8 : k - 3 = 48 + 8 * i + 2 := by omega
          rw [h8] at q
          exact e q.2.2.2, q.2.2⟩, fun q => ⟨q.1, by omega, q.2.2⟩⟩
      rw [if_neg c, ih, zP_s, if_neg e]
      simp only [hc]
theorem m_leastN {a b : Nat} (ha : a < 2 ^ 31) (hb : b < 2 ^ 31) : m_least (lN a) (lN b) = lN (if b ≤ a then b else a) := by
  unfold m_least
  by_cases e : b ≤ a
  · rw [if_pos ((lN_le hb ha).mpr e), if_pos e]
  · rw [if_neg (fun q => e ((lN_le hb ha).mp q)), if_neg e]
/-- what fits, what is taken, what leaks -/
def zf1 (Z : Nat → Nat) (n : Nat) : Nat := if Z 0 ≤ Z 1 + zP Z n then Z 0 else Z 1 + zP Z n
def zf2 (Z : Nat → Nat) (n h : Nat) : Nat := if Z (24 + h) ≤ zf1 Z n then Z (24 + h) else zf1 Z n
def zf3 (Z : Nat → Nat) (n h : Nat) : Nat := if Z 5 ≤ zf1 Z n - zf2 Z n h then Z 5 else zf1 Z n - zf2 Z n h
def zW (Z : Nat → Nat) (n h : Nat) : Nat → Nat := fun k => if k = 1 then zf1 Z n - zf2 Z n h - zf3 Z n h else if 48 ≤ k ∧ k < 48 + 8 * n ∧ (k - 48) % 8 = 5 ∧ Z (k - 3) = 1 then Z k + 1 else Z k
theorem r_flow {S : SS} {w : Nat → Int64} {Z : Nat → Nat} {n t b : Nat} (h : Rl S w Z n t b) (hb2 : b < 2 ^ 29) : Rl (s_move S n) (m_flow w n (t % 1440 / 60)) (zW Z n (t % 1440 / 60)) n t (b + 1) := by
  have h0 := h
  obtain ⟨hC, hM, hB, hO, hL⟩ := h
  have hB0 := hB
  obtain ⟨z7, hn6, z8, z0, z1, z2, z4, z5, z6, z13, zdd, zdc, zle⟩ := hB
  have hz : ∀ k, zd k → Z k ≤ b := zle
  obtain ⟨s4, ht⟩ := Rl_t h0
  have s1 : S.1 1 = nI (Z 1) := Rl_i h0 1 1 (by omega) rfl
  have s0 : S.1 0 = nI (Z 0) := Rl_i h0 0 0 (by omega) rfl
  have hP := zP_le zdc n hn6
  obtain ⟨r2, r1⟩ := run_1 hC (by omega) hz n hn6
  obtain ⟨hh, hhe⟩ : ∃ hh, hh = t % 1440 / 60 := ⟨_, rfl⟩
  rw [← hhe]
  have hh24 : hh < 24 := by omega
  have zh := zdd hh hh24
  have hf1 : zf1 Z n = Z 1 + zP Z n - (if Z 0 < Z 1 + zP Z n then Z 1 + zP Z n - Z 0 else 0) := by
    unfold zf1
    split <;> split <;> omega
  have f1le : zf1 Z n ≤ 100000 := by unfold zf1; split <;> omega
  have f2le : zf2 Z n hh ≤ zf1 Z n := by unfold zf2; split <;> omega
  have f3le : zf3 Z n hh ≤ zf1 Z n - zf2 Z n hh := by unfold zf3; split <;> omega
  have f2d : zf2 Z n hh ≤ Z (24 + hh) := by unfold zf2; split <;> omega
  -- the class' numbers
  have hpr : (p_runR S n).2 = nI (zP Z n) := r2
  have hov : s_ov S n = nI (if Z 0 < Z 1 + zP Z n then Z 1 + zP Z n - Z 0 else 0) := by
    unfold s_ov
    rw [hpr, s1, s0, nI_add]
    have c : (0 < nI (Z 1 + zP Z n) - nI (Z 0)) ↔ Z 0 < Z 1 + zP Z n := by
      rw [Int32.lt_iff_toInt_lt, pk_sub_toInt (by omega) (by omega), show (0 : Int32).toInt = 0 from by decide]
      omega
    by_cases e : Z 0 < Z 1 + zP Z n
    · rw [if_pos (c.mpr e), if_pos e]; exact pk_sub (by omega)
    · rw [if_neg (fun q => e (c.mp q)), if_neg e]; rfl
  have hl1 : s_l1 S n = nI (zf1 Z n) := by
    show S.1 1 + ((p_runR S n).2 - s_ov S n) = _
    rw [hov, hpr, s1, pk_sub (by split <;> omega), nI_add, hf1]
    congr 1
    split <;> omega
  have hhr : s_hour S = nI hh := by
    unfold s_hour
    rw [s4, show (60 : Int32) = nI 60 from rfl, show (24 : Int32) = nI 24 from rfl, pk_div (by omega) (by omega) (by omega), pk_rem (by omega) (by omega) (by omega)]
    congr 1
    omega
  have hd : s_d S = nI (Z (24 + hh)) := by
    unfold s_d s_dem
    rw [hhr, if_pos ⟨nI_pos (by omega), nI_ge (b := 24) hh24 (by omega)⟩, nI_clamp (by omega)]
    exact zC_d hC hh24
  have htk : s_tak S n = nI (zf2 Z n hh) := by
    unfold s_tak zf2
    rw [hl1, hd]
    by_cases e : Z (24 + hh) ≤ zf1 Z n
    · rw [if_pos e, if_neg (nI_nlt e (by omega))]
    · rw [if_neg e, if_pos (nI_lt (by omega) (by omega))]
  have hl2 : s_l2 S n = nI (zf1 Z n - zf2 Z n hh) := by
    unfold s_l2
    rw [hl1, htk]
    exact pk_sub f2le
  have hlk : s_lk S n = nI (zf3 Z n hh) := by
    unfold s_lk zf3
    rw [hl2, show S.2.2.1 0 1 = nI (Z 5) from zC_s hC (j := 1) (by omega)]
    by_cases e : Z 5 ≤ zf1 Z n - zf2 Z n hh
    · rw [if_pos e, if_neg (nI_nlt e (by omega))]
    · rw [if_neg e, if_pos (nI_lt (by omega) (by omega))]
  -- the model's numbers
  have hg := fl_1 hM (by omega) hz n hn6
  have g1 : m_fl0 w n 1 = lN (Z 1 + zP Z n) := by
    show itr m_flB n w 1 = _
    rw [hg, if_neg (by omega), if_pos rfl, hM 1 (zd_lo (by omega)), lN_add]
  have gk : ∀ k, k ≠ 14 → k ≠ 1 → k < 48 ∨ 96 ≤ k → m_fl0 w n k = w k := fun k a c d => by
    show itr m_flB n w k = _
    rw [hg, if_neg a, if_neg c, if_neg (by omega)]
  have g0 : m_fl0 w n 0 = lN (Z 0) := (gk 0 (by omega) (by omega) (by omega)).trans (hM 0 (zd_lo (by omega)))
  have gd : m_fl0 w n (24 + hh) = lN (Z (24 + hh)) := (gk _ (by omega) (by omega) (by omega)).trans (hM _ (zd_d hh24))
  have g5 : m_fl0 w n 5 = lN (Z 5) := (gk 5 (by omega) (by omega) (by omega)).trans (hM 5 (zd_lo (by omega)))
  have g14 : m_fl0 w n 14 = w 14 + lN (zP Z n) := by
    show itr m_flB n w 14 = _
    rw [hg, if_pos rfl]
  have e1 : m_least (lN (Z 1 + zP Z n)) (lN (Z 0)) = lN (zf1 Z n) := m_leastN (by omega) (by omega)
  have e2 : m_least (lN (zf1 Z n)) (lN (Z (24 + hh))) = lN (zf2 Z n hh) := m_leastN (by omega) (by omega)
  have e3 : m_least (lN (zf1 Z n) - lN (zf2 Z n hh)) (lN (Z 5)) = lN (zf3 Z n hh) := by
    rw [lN_sub f2le]
    exact m_leastN (by omega) (by omega)
  have hfl : m_flow w n hh = vp_updL (vp_updL (vp_updL (vp_updL (vp_updL (m_fl0 w n) 15 (m_fl0 w n 15 + (lN (Z 1 + zP Z n) - lN (zf1 Z n)))) 16 (m_fl0 w n 16 + lN (zf2 Z n hh))) 17 (m_fl0 w n 17 + (lN (Z (24 + hh)) - lN (zf2 Z n hh)))) 18 (m_fl0 w n 18 + lN (zf3 Z n hh))) 1 (lN (zf1 Z n) - lN (zf2 Z n hh) - lN (zf3 Z n hh)) := by
    unfold m_flow m_fl1
    rw [g1, g0, gd, g5, e1, e2, e3]
  rw [hfl]
  have low : ∀ k, k ≠ 1 → (k < 15 ∨ 18 < k) → m_flow w n hh k = m_fl0 w n k := fun k a c => by
    rw [hfl]
    exact (pk_uLn a).trans ((pk_uLn (by omega)).trans ((pk_uLn (by omega)).trans ((pk_uLn (by omega)).trans (pk_uLn (by omega)))))
  rw [hfl] at low
  refine ⟨?_, fun k hk => ?_, ?_, ?_, ?_⟩
  · have k1 : zC (setA S 8 (p_runR S n).1) (fun k => if k = 1 then Z 1 else zW Z n hh k) := zC_row hC 8 5 rfl (by omega) (fun p hp => by
      show (itr (p_runB S) n (S.2.2.1 8, 0)).1 p = _
      rw [r1 p hp, if_neg (show ¬ 48 + 8 * p + 5 = 1 by omega)]
      unfold zW
      rw [if_neg (show ¬ 48 + 8 * p + 5 = 1 by omega), show 48 + 8 * p + 5 - 3 = 48 + 8 * p + 2 by omega]
      by_cases e : p < n ∧ Z (48 + 8 * p + 2) = 1
      · rw [if_pos e, if_pos ⟨by omega, by omega, by omega, e.2⟩]
      · rw [if_neg e, if_neg (fun q => e ⟨by omega, q.2.2.2⟩)]) (fun k hk hne => by
      by_cases e : k = 1
      · rw [if_pos e, e]
      · rw [if_neg e]
        unfold zW
        rw [if_neg e, if_neg (fun q => hne ⟨q.1, by omega, q.2.2.1⟩)])
    have k2 := zC_I k1 1 (zf1 Z n - zf2 Z n hh - zf3 Z n hh) (by omega) (x := s_l2 S n - s_lk S n) (by rw [hl2, hlk]; exact pk_sub f3le)
    refine zC_V (zC_eq k2 (fun k hk => ?_)) _
    show zW Z n hh k = if k = 1 then _ else if k = 1 then _ else zW Z n hh k
    by_cases e : k = 1
    · rw [if_pos e, e]; unfold zW; rw [if_pos rfl]
    · rw [if_neg e, if_neg e]
  · unfold zW
    by_cases e : k = 1
    · subst e
      rw [if_pos rfl]
      refine pk_uLs.trans ?_
      rw [lN_sub f2le, lN_sub f3le]
    · rw [if_neg e, low k e (by unfold zd at hk; omega)]
      show itr m_flB n w k = _
      rw [hg, if_neg (by unfold zd at hk; omega), if_neg e]
      by_cases e3 : 48 ≤ k ∧ k < 48 + 8 * n ∧ (k - 48) % 8 = 5 ∧ Z (k - 3) = 1
      · rw [if_pos e3, if_pos e3, hM k hk, lN_1]
      · rw [if_neg e3, if_neg e3]
        exact hM k hk
  · have hw : ∀ k, k ≠ 1 → (k < 48 ∨ 96 ≤ k ∨ (k - 48) % 8 ≠ 5) → zW Z n hh k = Z k := fun k a c => by
      unfold zW
      rw [if_neg a, if_neg (by omega)]
    have hw1 : zW Z n hh 1 = zf1 Z n - zf2 Z n hh - zf3 Z n hh := by unfold zW; rw [if_pos rfl]
    have f1s : zf1 Z n ≤ Z 0 := by unfold zf1; split <;> omega
    refine ⟨by rw [hw 7 (by omega) (by omega)]; exact z7, hn6, by rw [hw 8 (by omega) (by omega)]; exact z8, by rw [hw 0 (by omega) (by omega)]; exact z0, by rw [hw1, hw 0 (by omega) (by omega)]; omega, by rw [hw 2 (by omega) (by omega), hw 3 (by omega) (by omega), hw 0 (by omega) (by omega)]; exact z2, by rw [hw 4 (by omega) (by omega)]; exact z4, by rw [hw 5 (by omega) (by omega)]; exact z5, by rw [hw 6 (by omega) (by omega)]; exact z6, by rw [hw 13 (by omega) (by omega)]; exact z13, fun j hj => by rw [hw _ (by omega) (by omega)]; exact zdd j hj, fun p hp => by rw [hw _ (by omega) (by omega)]; exact zdc p hp, fun k hk => ?_⟩
    by_cases e : k = 1
    · rw [e, hw1]
      have := hz 0 (zd_lo (by omega))
      omega
    · have := hz k hk
      unfold zW
      rw [if_neg e]
      split <;> omega
  · exact zO_w (f := S.2.2.1 5) hO (fun k hk => (low _ (by omega) (by omega)).trans (gk _ (by omega) (by omega) (by omega)))
  · refine ⟨(low 12 (by omega) (by omega)).trans ((gk 12 (by omega) (by omega) (by omega)).trans hL.1), fun j hj => ?_, (low 19 (by omega) (by omega)).trans ((gk 19 (by omega) (by omega) (by omega)).trans hL.2.2)⟩
    show _ = s_w4 S n j
    have v := hL.2.1
    unfold s_w4
    rw [hpr, hov, htk, hlk, hd, pk_sub f2d, nI_l (by omega), nI_l (by split <;> omega), nI_l (by omega), nI_l (by omega), nI_l (by omega)]
    have ej : j = 0 ∨ j = 1 ∨ j = 2 ∨ j = 3 ∨ j = 4 := by omega
    rcases ej with ej | ej | ej | ej | ej <;> subst ej
    · refine (low 14 (by omega) (by omega)).trans (g14.trans ?_)
      rw [show w 14 = S.2.2.2 0 from v 0 (by omega)]
      rfl
    · show m_fl0 w n 15 + (lN (Z 1 + zP Z n) - lN (zf1 Z n)) = S.2.2.2 1 + _
      rw [gk 15 (by omega) (by omega) (by omega), show w 15 = S.2.2.2 1 from v 1 (by omega), lN_sub (by rw [hf1]; omega), hf1]
      congr 2
      split <;> omega
    · show m_fl0 w n 16 + _ = S.2.2.2 2 + _
      rw [gk 16 (by omega) (by omega) (by omega), show w 16 = S.2.2.2 2 from v 2 (by omega)]
    · show m_fl0 w n 17 + _ = S.2.2.2 3 + _
      rw [gk 17 (by omega) (by omega) (by omega), show w 17 = S.2.2.2 3 from v 3 (by omega), lN_sub f2d]
    · show m_fl0 w n 18 + _ = S.2.2.2 4 + _
      rw [gk 18 (by omega) (by omega) (by omega), show w 18 = S.2.2.2 4 from v 4 (by omega)]
theorem r_m3 {S : SS} {w : Nat → Int64} {Z : Nat → Nat} {n t b : Nat} (h : Rl S w Z n t b) (hb2 : b < 2 ^ 29) : ∃ Z', Rl (s_m3 S) (m_p5 w) Z' n t (b + 1) := by
  have h0 := h
  obtain ⟨hC, hM, hB, hO, hL⟩ := h
  have hn6 := hB.2.1
  have b1 := zB_le' hB 1 (by omega)
  have b2 := zB_le' hB 2 (by omega)
  have b10 := zB_le' hB 10 (by omega)
  refine ⟨upN Z 10 (if Z 2 ≤ Z 1 then Z 10 else Z 10 + 1), ?_, ?_, ?_, ?_, ?_⟩
  · unfold s_m3
    rw [show S.1 1 = nI (Z 1) from Rl_i h0 1 1 (by omega) rfl, show S.1 2 = nI (Z 2) from Rl_i h0 2 2 (by omega) rfl]
    by_cases e : Z 2 ≤ Z 1
    · rw [if_pos (nI_le e (by omega)), if_pos e]
      exact zC_eq hC (fun k hk => by
        unfold upN
        split
        · next q => rw [q]
        · rfl)
    · rw [if_neg (nI_ge (by omega) (by omega)), if_neg e]
      exact zC_I hC 6 (Z 10 + 1) (by omega) (by rw [show S.1 6 = nI (Z 10) from Rl_i h0 6 10 (by omega) rfl, nI_1])
  · refine zM_up hM 10 _ ?_
    rw [hM 10 (zd_lo (by omega)), hM 2 (zd_lo (by omega)), hM 1 (zd_lo (by omega))]
    by_cases e : Z 2 ≤ Z 1
    · rw [if_pos ((lN_le (by omega) (by omega)).mpr e), if_pos e]
      exact Int64.add_zero _
    · rw [if_neg (fun q => e ((lN_le (by omega) (by omega)).mp q)), if_neg e, lN_1]
  · exact zB_up hB _ _ (by omega) _ (by split <;> omega) (by omega)
  · have e5 : (s_m3 S).2.2.1 5 = S.2.2.1 5 := by unfold s_m3; split <;> rfl
    rw [e5]
    exact zO_w hO (fun k hk => pk_uLn (by omega))
  · have e5 : zL (s_m3 S) w := by unfold s_m3; split <;> exact hL
    exact zL_f e5 (fun k h1 h2 h3 => pk_uLn (by omega))
theorem i64_lk (x d : Int64) : -d - -x = x - d := by grind
theorem zB_t {Z : Nat → Nat} {n t b : Nat} (h : zB Z n t b) (hb : t + 1 ≤ b) : zB (upN Z 8 (t + 1)) n (t + 1) b := by
  obtain ⟨z7, hn6, z8, z0, z1, z2, z4, z5, z6, z13, zdd, zdc, zle⟩ := h
  have hw : ∀ k, k ≠ 8 → upN Z 8 (t + 1) k = Z k := fun k a => upN_n a
  refine ⟨by rw [hw 7 (by omega)]; exact z7, hn6, upN_s, by rw [hw 0 (by omega)]; exact z0, by rw [hw 1 (by omega), hw 0 (by omega)]; exact z1, by rw [hw 2 (by omega), hw 3 (by omega), hw 0 (by omega)]; exact z2, by rw [hw 4 (by omega)]; exact z4, by rw [hw 5 (by omega)]; exact z5, by rw [hw 6 (by omega)]; exact z6, by rw [hw 13 (by omega)]; exact z13, fun j hj => by rw [hw _ (by omega)]; exact zdd j hj, fun p hp => by rw [hw _ (by omega)]; exact zdc p hp, fun k hk => ?_⟩
  unfold upN
  split
  · exact hb
  · exact zle k hk
theorem r_end {S : SS} {w : Nat → Int64} {Z : Nat → Nat} {n t b : Nat} (h : Rl S w Z n t b) (hb2 : b < 2 ^ 29) (h23 : w 23 = if t % 1440 = 1320 then 1 else bg t) : (∃ Z', Rl (setI (s_m4 (nI (t % 1440)) S) 4 ((s_m4 (nI (t % 1440)) S).1 4 + 1)) (m_p6 w t) Z' n (t + 1) (b + 1)) ∧ m_p6 w t 23 = bg (t + 1) := by
  have h0 := h
  obtain ⟨hC, hM, hB, hO, hL⟩ := h
  have hn6 := hB.2.1
  obtain ⟨s4, ht⟩ := Rl_t h0
  have b1 := zB_le' hB 1 (by omega)
  have b11 := zB_le' hB 11 (by omega)
  have w8 : w 8 = lN t := by rw [Rl_w h0 8 (by omega), hB.2.2.1]
  have hdd : (nI (t % 1440) = 359) ↔ t % 1440 = 359 := nI_eq (b := 359) (by omega) (by omega)
  -- the plain end
  have plain : Rl (setI S 4 (S.1 4 + 1)) (m_p8 w) (upN Z 8 (t + 1)) n (t + 1) (b + 1) := by
    refine ⟨zC_I hC 4 (t + 1) (by omega) (by rw [s4, nI_1]), zM_up hM 8 _ (by rw [w8, lN_1]), zB_t (zB_b hB (b + 1) (by omega)) (by omega), zO_w (f := S.2.2.1 5) hO (fun k hk => pk_uLn (by omega)), zL_f (S := S) hL (fun k h1 h2 h3 => pk_uLn (by omega))⟩
  unfold s_m4 m_p6
  by_cases e : t % 1440 = 359
  · rw [if_pos (hdd.mpr e), if_pos (hdd.mpr e)]
    have h23b : w 23 = bg t := by rw [h23, if_neg (by omega)]
    by_cases e2 : t ≤ 1440
    · have hbg : bg t = 0 := by unfold bg; rw [if_neg (by omega)]
      have c1 : S.1 4 ≤ 1440 := by rw [s4]; exact nI_le (b := 1440) e2 (by omega)
      rw [if_pos c1, h23b, hbg, if_neg (by decide)]
      refine ⟨⟨_, plain⟩, ?_⟩
      show vp_updL w 8 _ 23 = _
      rw [pk_uLn (by omega), h23b, hbg]
      unfold bg
      rw [if_neg (by omega)]
    · have hbg : bg t = 1 := by unfold bg; rw [if_pos (by omega)]
      have c1 : ¬ S.1 4 ≤ 1440 := by rw [s4]; exact nI_ge (b := t) (a := 1440) (by omega) (by omega)
      rw [if_neg c1, h23b, hbg, if_pos rfl]
      have q12 : ∀ k, k ≠ 8 → k ≠ 23 → k ≠ 11 → m_p11 w k = w k := fun k a c d => (pk_uLn d).trans ((pk_uLn c).trans (pk_uLn a))
      refine ⟨⟨upN (upN Z 8 (t + 1)) 11 (Z 11 + 1), ?_, ?_, ?_, ?_, ?_⟩, ?_⟩
      · have k1 : zC (setI (setL S 1 (s_bal S - S.2.1 0)) 7 (S.1 7 + 1)) (upN Z 11 (Z 11 + 1)) := zC_I (zC_L hC 1 _) 7 (Z 11 + 1) (by omega) (by rw [show S.1 7 = nI (Z 11) from Rl_i h0 7 11 (by omega) rfl, nI_1])
        have k2 := zC_I k1 4 (t + 1) (by omega) (x := S.1 4 + 1) (by rw [s4, nI_1])
        refine zC_eq k2 (fun k hk => ?_)
        show upN (upN Z 8 (t + 1)) 11 (Z 11 + 1) k = upN (upN Z 11 (Z 11 + 1)) 8 (t + 1) k
        unfold upN
        repeat' split
        all_goals first | rfl | omega
      · refine zM_skip (zM_up (zM_skip (zM_up hM 8 _ (by rw [w8, lN_1])) 23 _ (by unfold zd; omega)) 11 _ ?_) 12 _ (by unfold zd; omega)
        rw [hM 11 (zd_lo (by omega)), lN_1]
      · exact zB_up (zB_t (zB_b hB (b + 1) (by omega)) (by omega)) _ _ (by omega) _ (by omega) (Nat.le_refl _)
      · exact zO_w (f := S.2.2.1 5) hO (fun k hk => (pk_uLn (by omega)).trans (q12 _ (by omega) (by omega) (by omega)))
      · refine ⟨pk_uLs.trans ?_, fun j hj => (pk_uLn (by omega)).trans ((q12 _ (by omega) (by omega) (by omega)).trans (hL.2.1 j hj)), (pk_uLn (by omega)).trans ((q12 _ (by omega) (by omega) (by omega)).trans hL.2.2)⟩
        have hb9 : m_bal (m_p11 w) = m_bal w := by
          unfold m_bal
          rw [q12 1 (by omega) (by omega) (by omega), q12 14 (by omega) (by omega) (by omega), q12 15 (by omega) (by omega) (by omega), q12 16 (by omega) (by omega) (by omega)]
        rw [hb9, bal_eq hC hM (by omega) hL.2.1, hL.2.2]
        show _ = s_bal S - S.2.1 0
        exact i64_lk _ _
      · refine (pk_uLn (by omega)).trans ((pk_uLn (by omega)).trans (pk_uLs.trans ?_))
        unfold bg
        rw [if_neg (by omega)]
  · rw [if_neg (fun q => e (hdd.mp q)), if_neg (fun q => e (hdd.mp q))]
    refine ⟨⟨_, plain⟩, ?_⟩
    show vp_updL w 8 _ 23 = _
    rw [pk_uLn (by omega), h23]
    unfold bg
    by_cases e3 : t % 1440 = 1320
    · rw [if_pos e3, if_pos (by omega)]
    · rw [if_neg e3]
      by_cases e4 : 1320 < t ∧ (1320 < t % 1440 ∨ t % 1440 ≤ 359)
      · rw [if_pos e4, if_pos (by omega)]
      · rw [if_neg e4, if_neg (by omega)]
/-- a station and a row that stand for the same thing -/
def RS (S : SS) (w : Nat → Int64) (n t : Nat) : Prop := (∃ Z, Rl S w Z n t (200000 + 10 * t)) ∧ w 23 = bg t
theorem p3_23 {w : Nat → Int64} {n : Nat} (hn6 : n ≤ 6) (hord : ∀ k, k < n → ∃ j, j < 6 ∧ w (96 + k) = lN j) : m_p3 w n 23 = w 23 := m_p3_get hn6 hord (by omega) (by omega) (by omega)
theorem zO_ord {f : Nat → Int32} {w : Nat → Int64} {n : Nat} (h : zO f w n) (hn6 : n ≤ 6) : ∀ k, k < n → ∃ j, j < 6 ∧ w (96 + k) = lN j := fun k hk => by
  obtain ⟨q, h1, h2, h3⟩ := h.1 k hk
  exact ⟨q, by omega, h2⟩
theorem r_min {S : SS} {w : Nat → Int64} {n t : Nat} (h : RS S w n t) (ht : t ≤ 3000000) : RS (s_min S n) (m_pass w n t) n (t + 1) ∧ (s_minR S n = if m_p12 w n t 1 < m_p12 w n t 3 then m_starter (m_p12 w n t) n else -1) ∧ (¬ s_minR S n = -1 → ∃ q, q < n ∧ s_minR S n = nI q ∧ m_p3 (m_p12 w n t) n = m_start (m_p12 w n t) q) ∧ (s_minR S n = -1 → m_p3 (m_p12 w n t) n = (if m_p12 w n t 1 < m_p12 w n t 3 then m_p12 w n t else m_rest (m_p12 w n t) n)) := by
  obtain ⟨⟨Z, h⟩, h23⟩ := h
  have hn6 := h.2.2.1.2.1
  have hday := s_dayN h (by omega)
  obtain ⟨h1, e1⟩ := r_m1 h (by omega)
  obtain ⟨Z2, h2, e2⟩ := r_m2 h1 (by omega)
  obtain ⟨⟨Z3, h3⟩, g1, g2, g3⟩ := r_sw h2 (by omega) (by omega)
  have e3 := p3_23 hn6 (zO_ord h2.2.2.2.1 hn6)
  have h4 := r_flow h3 (by omega)
  obtain ⟨Z5, h5⟩ := r_m3 h4 (by omega)
  have e5 : m_p5 (m_p4 w n t) 23 = if t % 1440 = 1320 then 1 else bg t := by
    refine (pk_uLn (by omega)).trans ?_
    show m_flow (m_p3 (m_p12 w n t) n) n (t % 1440 / 60) 23 = _
    rw [m_flow_get hn6 (by omega) (by omega) (by omega)]
    exact e3.trans (e2.trans (e1.trans (by rw [h23])))
  obtain ⟨⟨Z6, h6⟩, e6⟩ := r_end h5 (by omega) e5
  refine ⟨⟨⟨Z6, ?_⟩, e6⟩, g1, g2, g3⟩
  obtain ⟨a, b, c, d, e⟩ := h6
  have hs : s_min S n = setI (s_m4 (nI (t % 1440)) (s_m3 (s_move (s_swS (s_m2 (s_m1 S) n) n) n))) 4 ((s_m4 (nI (t % 1440)) (s_m3 (s_move (s_swS (s_m2 (s_m1 S) n) n) n))).1 4 + 1) := by
    unfold s_min s_end s_mid s_pre
    rw [hday]
  rw [hs]
  exact ⟨a, b, zB_b c _ (by omega), d, e⟩
theorem r_pass {S : SS} {w : Nat → Int64} {n t : Nat} (h : RS S w n t) : ∀ k, t + k ≤ 3000000 → RS (s_pass S n k) (itr (m_goB n t) k w) n (t + k)
  | 0, _ => h
  | k + 1, hk => (r_min (r_pass h k (by omega)) (by omega)).1
theorem RS_ok {S : SS} {w : Nat → Int64} {n t : Nat} (h : RS S w n t) : m_ok w n t ∧ n ≤ 6 ∧ S.1 8 = nI n ∧ S.1 4 = nI t ∧ w 7 = lN n := by
  obtain ⟨⟨Z, h⟩, h23⟩ := h
  have hn6 := h.2.2.1.2.1
  have w7 : w 7 = lN n := by rw [Rl_w h 7 (by omega), h.2.2.1.1]
  refine ⟨⟨w7, zO_ord h.2.2.2.1 hn6, by rw [Rl_w h 8 (by omega), h.2.2.1.2.2.1]⟩, hn6, by rw [Rl_i h 8 7 (by omega) rfl, h.2.2.1.1], (Rl_t h).1, w7⟩
