/-! MATHEMATICS: the pump that starts -/
theorem frst_is (p : Nat → Bool) : ∀ n, (∀ j, j < frst p n → p j = false) ∧ (frst p n < n → p (frst p n) = true)
  | 0 => ⟨fun j h => absurd h (Nat.not_lt_zero j), fun h => absurd h (Nat.not_lt_zero _)⟩
  | n + 1 => by
    obtain ⟨h1, h2⟩ := frst_is p n
    have h3 := frst_le p n
    simp only [frst]
    by_cases e : frst p n < n
    · rw [if_pos e]
      exact ⟨h1, fun _ => h2 e⟩
    · rw [if_neg e]
      have e1 : frst p n = n := by omega
      rw [e1] at h1
      by_cases e2 : p n = true
      · rw [if_pos e2]
        exact ⟨h1, fun _ => e2⟩
      · rw [if_neg e2]
        refine ⟨fun j hj => ?_, fun h => absurd h (by omega)⟩
        rcases Nat.lt_or_ge j n with h9 | h9
        · exact h1 j h9
        · have h8 : j = n := by omega
          subst h8
          exact Bool.eq_false_iff.mpr e2
theorem frst_cong {p q : Nat → Bool} : ∀ {n : Nat}, (∀ k, k < n → p k = q k) → frst p n = frst q n
  | 0, _ => rfl
  | n + 1, h => by
    simp only [frst]
    rw [frst_cong (n := n) (fun k hk => h k (by omega)), h n (by omega)]
theorem r_first {S : SS} {w : Nat → Int64} {Z : Nat → Nat} {n t b : Nat} (h : Rl S w Z n t b) (hb : b < 2 ^ 30) (x v : Int32) (hxv : x = 0 ↔ ¬ v = 0) : p_first S n x = m_fo w n v ∧ (¬ m_fo w n v = -1 → ∃ q, q < n ∧ m_fo w n v = nI q) := by
  obtain ⟨hC, hM, hB, hO, hL⟩ := h
  have hn6 := hB.2.1
  have hz : ∀ k, zd k → Z k ≤ b := fun k hk => zB_le hB hk
  obtain ⟨F, hF⟩ : ∃ F : Nat → Bool, F = fun q => decide (S.2.2.1 4 q = 0 ∧ (x = 0 ∨ ¬ S.2.2.1 3 q ≤ S.2.2.1 6 q)) := ⟨_, rfl⟩
  have hq : ∀ k q, q < n → w (96 + k) = lN q → m_q w k = q := fun k q hq he => by
    unfold m_q; rw [he]; exact lN_cl (by omega)
  have hfit : ∀ k, k < n → m_fits w v k = F (m_q w k) := fun k hk => by
    obtain ⟨q, hq1, hq2, hq3⟩ := hO.1 k hk
    have e := hq k q hq1 hq2
    have b2 := hz _ (zd_p (p := q) (f := 2) (by omega) (by omega))
    have b1 := hz _ (zd_p (p := q) (f := 1) (by omega) (by omega))
    have b3 := hz _ (zd_p (p := q) (f := 3) (by omega) (by omega))
    unfold m_fits
    rw [e, hF]
    simp only []
    rw [hM _ (zd_p (p := q) (f := 2) (by omega) (by omega)), hM _ (zd_p (p := q) (f := 1) (by omega) (by omega)), hM _ (zd_p (p := q) (f := 3) (by omega) (by omega)), zC_p hC 4 2 rfl (p := q) (by omega) (by omega), zC_p hC 3 1 rfl (p := q) (by omega) (by omega), zC_p hC 6 3 rfl (p := q) (by omega) (by omega)]
    have c1 : (lN (Z (48 + 8 * q + 2)) = 0) ↔ (nI (Z (48 + 8 * q + 2)) = 0) := (lN_eq (b := 0) (by omega) (by omega)).trans (nI_eq (b := 0) (by omega) (by omega)).symm
    have c2 : (lN (Z (48 + 8 * q + 1)) ≤ lN (Z (48 + 8 * q + 3))) ↔ (nI (Z (48 + 8 * q + 1)) ≤ nI (Z (48 + 8 * q + 3))) := (lN_le (by omega) (by omega)).trans (nI_leI (by omega) (by omega)).symm
    exact decide_eq_decide.mpr (by rw [c1, c2, hxv])
  have hK : m_foAt w n v = frst (fun k => F (m_q w k)) n := frst_cong hfit
  obtain ⟨K, hKe⟩ : ∃ K, K = frst (fun k => F (m_q w k)) n := ⟨_, rfl⟩
  have hKle : K ≤ n := by rw [hKe]; exact frst_le _ n
  obtain ⟨i1, i2⟩ := frst_is (fun k => F (m_q w k)) n
  rw [← hKe] at i1 i2 hK
  have hstep : ∀ i g, p_firstB S x i g = if F i = true ∧ ¬ g.2 ≤ S.2.2.1 5 i then (nI i, S.2.2.1 5 i) else g := fun i g => by
    unfold p_firstB
    rw [hF]
    simp only [decide_eq_true_eq]
    by_cases c1 : S.2.2.1 4 i = 0 ∧ (x = 0 ∨ ¬ S.2.2.1 3 i ≤ S.2.2.1 6 i) ∧ ¬ g.2 ≤ S.2.2.1 5 i
    · rw [if_pos c1, if_pos ⟨⟨c1.1, c1.2.1⟩, c1.2.2⟩]
    · rw [if_neg c1, if_neg (fun q => c1 ⟨q.1.1, q.1.2, q.2⟩)]
  unfold p_first m_fo
  rw [hK]
  rcases Nat.lt_or_ge K n with hlt | hge
  · have hFK := i2 hlt
    obtain ⟨q0, hq1, hq2, hq3⟩ := hO.1 K hlt
    have e0 := hq K q0 hq1 hq2
    rw [if_pos hlt, e0]
    try simp only [] at hFK
    rw [e0] at hFK
    refine ⟨?_, fun _ => ⟨q0, hq1, rfl⟩⟩
    have inv : ∀ i, i ≤ n → (i ≤ q0 → ∃ m, (itr (p_firstB S x) i (-1, 6)).2 = nI m ∧ K < m ∧ m ≤ 6) ∧ (q0 < i → itr (p_firstB S x) i (-1, 6) = (nI q0, nI K)) := by
      intro i
      induction i with
      | zero => intro _; exact ⟨fun _ => ⟨6, rfl, by omega, by omega⟩, fun q => absurd q (Nat.not_lt_zero _)⟩
      | succ i ih =>
        intro hi
        obtain ⟨h1, h2⟩ := ih (by omega)
        obtain ⟨k, hk1, hk2, hk3⟩ := hO.2 i (by omega)
        have hkq := hq k i (by omega) hk3
        rw [itr_s, hstep]
        have hFi : F i = true → K ≤ k := fun hf => by
          rcases Nat.lt_or_ge k K with h9 | h9
          · have := i1 k h9
            try simp only [] at this
            rw [hkq] at this
            rw [this] at hf; cases hf
          · exact h9
        refine ⟨fun hle => ?_, fun hlt2 => ?_⟩
        · obtain ⟨m, hm1, hm2, hm3⟩ := h1 (by omega)
          by_cases c : F i = true ∧ ¬ (itr (p_firstB S x) i (-1, 6)).2 ≤ S.2.2.1 5 i
          · rw [if_pos c]
            refine ⟨k, hk2, ?_, by omega⟩
            have h9 := hFi c.1
            rcases Nat.lt_or_ge K k with h8 | h8
            · exact h8
            · exfalso
              have h7 : k = K := by omega
              rw [h7, e0] at hkq
              omega
          · rw [if_neg c]
            exact ⟨m, hm1, hm2, hm3⟩
        · by_cases e : i = q0
          · subst e
            obtain ⟨m, hm1, hm2, hm3⟩ := h1 (by omega)
            rw [if_pos ⟨hFK, by rw [hm1, hq3]; exact nI_ge hm2 (by omega)⟩, hq3]
          · rw [h2 (by omega), if_neg]
            rintro ⟨c1, c2⟩
            apply c2
            show nI K ≤ S.2.2.1 5 i
            rw [hk2]
            exact nI_le (hFi c1) (by omega)
    rw [(inv n (Nat.le_refl n)).2 hq1]
  · have e : K = n := by omega
    rw [if_neg (by omega)]
    refine ⟨?_, fun q => absurd rfl q⟩
    have hno : ∀ q, q < n → F q = false := fun q hq9 => by
      obtain ⟨k, hk1, hk2, hk3⟩ := hO.2 q hq9
      have := i1 k (by omega)
      try simp only [] at this
      rw [hq k q hq9 hk3] at this
      exact this
    have inv : ∀ i, i ≤ n → itr (p_firstB S x) i (-1, 6) = (-1, 6) := by
      intro i
      induction i with
      | zero => intro _; rfl
      | succ i ih =>
        intro hi
        rw [itr_s, ih (by omega), hstep, if_neg]
        rintro ⟨c1, c2⟩
        rw [hno i (by omega)] at c1
        cases c1
    rw [inv n (Nat.le_refl n)]
theorem lN_sub_toInt {a b : Nat} (ha : a < 2 ^ 62) (hb : b < 2 ^ 62) : (lN a - lN b).toInt = (a : Int) - b := by
  rw [Int64.toInt_sub, pk_lT (by omega), pk_lT (by omega)]
  exact Int.bmod_eq_of_le (by omega) (by omega)
theorem r_want {S : SS} {w : Nat → Int64} {Z : Nat → Nat} {n t b : Nat} (h : Rl S w Z n t b) (hb : b < 2 ^ 30) : s_want S n = nI (m_want w n) := by
  have h0 := h
  obtain ⟨hC, hM, hB, hO, hL⟩ := h
  obtain ⟨-, hn6, -, z0, z1, z2, z4, -⟩ := hB
  obtain ⟨P, hP⟩ : ∃ P : Nat → Bool, P = fun k => decide (Z 2 ≤ Z 1 + k * Z 4) := ⟨_, rfl⟩
  have hP1 : ∀ k, P k = true ↔ Z 2 ≤ Z 1 + k * Z 4 := fun k => by rw [hP]; simp
  have hk4 : ∀ k, k < 6 → k * Z 4 ≤ 30000 := fun k hk => Nat.le_trans (Nat.mul_le_mul (by omega : k ≤ 6) z4) (by omega)
  have hmP : ∀ k, k < n → m_wantP w k = P k := fun k hk => by
    have := hk4 k (by omega)
    unfold m_wantP
    rw [hP, hM 2 (zd_lo (by omega)), hM 4 (zd_lo (by omega)), hM 1 (zd_lo (by omega)), nI_l (by omega), lN_mul]
    simp only []
    congr 1
    rw [Int64.le_iff_toInt_le, lN_sub_toInt (by omega) (by omega), pk_lT (by omega)]
    apply propext
    omega
  have hsP : ∀ k r, k < n → s_wantB S k r = if P k = true then r else r + 1 := fun k r hk => by
    have := hk4 k (by omega)
    unfold s_wantB
    rw [hP, show S.1 2 = nI (Z 2) from Rl_i h0 2 2 (by omega) rfl, show S.2.2.1 0 0 = nI (Z 4) from zC_s hC (j := 0) (by omega), show S.1 1 = nI (Z 1) from Rl_i h0 1 1 (by omega) rfl, pk_mul]
    simp only [decide_eq_true_eq]
    have c : (nI (Z 2) - nI (k * Z 4) ≤ nI (Z 1)) ↔ (Z 2 ≤ Z 1 + k * Z 4) := by
      rw [Int32.le_iff_toInt_le, pk_sub_toInt (by omega) (by omega), nI_toInt (by omega)]
      omega
    by_cases e : Z 2 ≤ Z 1 + k * Z 4
    · rw [if_pos e, if_pos (c.mpr e)]
    · rw [if_neg e, if_neg (fun q => e (c.mp q))]
  have hmw : m_want w n = frst P n := frst_cong hmP
  rw [hmw]
  have inv : ∀ i, i ≤ n → itr (s_wantB S) i 0 = nI (frst P i) := by
    intro i
    induction i with
    | zero => intro _; rfl
    | succ i ih =>
      intro hi
      rw [itr_s, ih (by omega), hsP i _ (by omega)]
      obtain ⟨i1, i2⟩ := frst_is P i
      have i3 := frst_le P i
      simp only [frst]
      by_cases e : P i = true
      · rw [if_pos e]
        by_cases e2 : frst P i < i
        · rw [if_pos e2]
        · rw [if_neg e2, if_pos e, show frst P i = i by omega]
      · rw [if_neg e, if_neg, if_neg e, show frst P i = i from ?_, nI_1]
        · rcases Nat.lt_or_ge (frst P i) i with h9 | h9
          · exfalso
            have h8 := (hP1 _).mp (i2 h9)
            rw [hP1] at e
            have h7 := Nat.mul_le_mul_right (Z 4) (Nat.le_of_lt h9)
            omega
          · omega
        · intro h9
          have h8 := (hP1 _).mp (i2 h9)
          rw [hP1] at e
          have h7 := Nat.mul_le_mul_right (Z 4) (Nat.le_of_lt h9)
          omega
  exact inv n (Nat.le_refl n)
theorem r_cand {S : SS} {w : Nat → Int64} {Z : Nat → Nat} {n t b : Nat} (h : Rl S w Z n t b) (hb : b < 2 ^ 30) : s_cand S n = (if m_fo w n 0 = -1 ∧ w 6 = 1 then m_fo w n 1 else m_fo w n 0) ∧ (¬ s_cand S n = -1 → ∃ q, q < n ∧ s_cand S n = nI q) := by
  obtain ⟨f1, g1⟩ := r_first h hb 1 0 (by decide)
  obtain ⟨f2, g2⟩ := r_first h hb 0 1 (by decide)
  have h6 : S.2.2.1 0 2 = nI (Z 6) := zC_s h.1 (j := 2) (by omega)
  have w6 : w 6 = lN (Z 6) := Rl_w h 6 (by omega)
  have z6 := h.2.2.1.2.2.2.2.2.2.2.2.1
  have hf : (¬ s_force S = 0) ↔ w 6 = 1 := by
    unfold s_force
    rw [h6, w6]
    have e1 : nI (Z 6) = 1 ↔ Z 6 = 1 := nI_eq (a := Z 6) (b := 1) (by omega) (by omega)
    have e2 : lN (Z 6) = 1 ↔ Z 6 = 1 := lN_eq (a := Z 6) (b := 1) (by omega) (by omega)
    by_cases e : Z 6 = 1
    · rw [if_pos (e1.mpr e)]
      exact ⟨fun _ => e2.mpr e, fun _ => by decide⟩
    · rw [if_neg (fun q => e (e1.mp q))]
      exact ⟨fun q => absurd rfl q, fun q => absurd (e2.mp q) e⟩
  unfold s_cand p_next
  rw [f1, f2, show (if m_fo w n 0 = -1 ∧ ¬ s_force S = 0 then m_fo w n 1 else m_fo w n 0) = (if m_fo w n 0 = -1 ∧ w 6 = 1 then m_fo w n 1 else m_fo w n 0) from by simp only [hf]]
  refine ⟨rfl, fun hne => ?_⟩
  split at hne
  · next e => rw [if_pos e]; exact g2 hne
  · next e => rw [if_neg e]; exact g1 hne
def zT (Z : Nat → Nat) (q : Nat) : Nat → Nat := upN (upN (upN Z (48 + 8 * q + 2) 1) (48 + 8 * q + 3) (Z (48 + 8 * q + 3) + 1)) (48 + 8 * q + 4) (Z (48 + 8 * q + 4) + 1)
theorem r_start1 {S : SS} {w : Nat → Int64} {Z : Nat → Nat} {n t b : Nat} (h : Rl S w Z n t b) {q : Nat} (hq : q < n) (hb : 1 ≤ b) : Rl (p_start1 S q) (m_st1 w q) (zT Z q) n t (b + 1) := by
  obtain ⟨hC, hM, hB, hO, hL⟩ := h
  have hn6 := hB.2.1
  have b3 := zB_le hB (zd_p (p := q) (f := 3) (by omega) (by omega))
  have b4 := zB_le hB (zd_p (p := q) (f := 4) (by omega) (by omega))
  refine ⟨?_, ?_, ?_, ?_, ?_⟩
  · have h1 : zC (setA S 4 (upd (S.2.2.1 4) q 1)) (upN Z (48 + 8 * q + 2) 1) := zC_P hC 4 2 q 1 rfl (by omega) (by omega) rfl
    have h2 := zC_P h1 6 3 q (Z (48 + 8 * q + 3) + 1) rfl (by omega) (by omega) (x := S.2.2.1 6 q + 1) (by rw [zC_p hC 6 3 rfl (by omega) (by omega), nI_1])
    exact zC_P h2 7 4 q (Z (48 + 8 * q + 4) + 1) rfl (by omega) (by omega) (x := S.2.2.1 7 q + 1) (by rw [zC_p hC 7 4 rfl (by omega) (by omega), nI_1])
  · refine zM_up (zM_up (zM_up hM _ 1 rfl) _ _ ?_) _ _ ?_
    · rw [hM _ (zd_p (p := q) (f := 3) (by omega) (by omega)), lN_1]
    · rw [hM _ (zd_p (p := q) (f := 4) (by omega) (by omega)), lN_1]
  · exact zB_up (zB_up (zB_up hB _ _ (by omega) (b + 1) (by omega) (by omega)) _ _ (by omega) (b + 1) (by omega) (by omega)) _ _ (by omega) (b + 1) (by omega) (by omega)
  · exact zO_w (f := S.2.2.1 5) hO (fun k hk => (pk_uLn (by omega)).trans ((pk_uLn (by omega)).trans (pk_uLn (by omega))))
  · exact zL_f (S := S) hL (fun k h1 h2 h3 => (pk_uLn (by omega)).trans ((pk_uLn (by omega)).trans (pk_uLn (by omega))))
theorem m_st1_get {w : Nat → Int64} {q k : Nat} (h : k < 48 ∨ 96 ≤ k) (hq : q < 6) : m_st1 w q k = w k := (pk_uLn (by omega)).trans ((pk_uLn (by omega)).trans (pk_uLn (by omega)))
theorem logF_get (w : Nat → Int64) (k : Nat) : ∀ i, i ≤ 33 → itr m_logB i w k = if 138 - i ≤ k ∧ k < 138 then w (k - 3) else w k
  | 0, _ => by rw [if_neg (by omega)]; rfl
  | i + 1, h => by
    have h1 : itr m_logB i w (134 - i) = w (134 - i) := by rw [logF_get w (134 - i) i (by omega)]; exact if_neg (by omega)
    rw [itr_s]
    show (if k = 137 - i then itr m_logB i w (134 - i) else itr m_logB i w k) = _
    rw [h1]
    by_cases e : k = 137 - i
    · subst e
      rw [if_pos rfl, if_pos (by omega), show 137 - i - 3 = 134 - i by omega]
    · rw [if_neg e, logF_get w k i (by omega)]
      by_cases e2 : 138 - i ≤ k ∧ k < 138
      · rw [if_pos e2, if_pos (by omega)]
      · rw [if_neg e2, if_neg (by omega)]
def zG (Z : Nat → Nat) (q : Nat) : Nat → Nat := fun k => if k = 13 then (if 12 ≤ Z 13 then Z 13 else Z 13 + 1) else if k = 102 then q else if k = 103 then Z 8 else if k = 104 then Z (48 + 8 * q + 3) else if 105 ≤ k then Z (k - 3) else Z k
theorem r_log {S : SS} {w : Nat → Int64} {Z : Nat → Nat} {n t b : Nat} (h : Rl S w Z n t b) {q : Nat} (hq : q < n) (hb : 13 ≤ b) (hb2 : b < 2 ^ 30) : Rl (b_put S (nI q) (S.1 4) (S.2.2.1 6 q)) (m_logs w q) (zG Z q) n t b := by
  have h0 := h
  obtain ⟨hC, hM, hB, hO, hL⟩ := h
  have hn6 := hB.2.1
  have z13 := hB.2.2.2.2.2.2.2.2.2.1
  have b3 := zB_le hB (zd_p (p := q) (f := 3) (by omega) (by omega))
  have b8 := zB_le' hB 8 (by omega)
  have s9 : S.1 9 = nI (Z 13) := Rl_i h0 9 13 (by omega) rfl
  have s4 : S.1 4 = nI (Z 8) := Rl_i h0 4 8 (by omega) rfl
  have s6 : S.2.2.1 6 q = nI (Z (48 + 8 * q + 3)) := zC_p hC 6 3 rfl (by omega) (by omega)
  have hF : ∀ k, m_logF w k = if 105 ≤ k ∧ k < 138 then w (k - 3) else w k := fun k => logF_get w k 33 (Nat.le_refl _)
  have hF13 : m_logF w 13 = lN (Z 13) := by rw [hF, if_neg (by omega)]; exact hM 13 zd_13
  have hlow : ∀ k, k < 102 → k ≠ 13 → m_logs w q k = w k := fun k h1 h2 => m_logs_get h1 h2
  have hrow : ∀ j, j < 36 → b_row S (nI q) (S.1 4) (S.2.2.1 6 q) j = nI (zG Z q (102 + j)) := fun j hj => by
    unfold b_row zG
    rw [if_neg (by omega)]
    by_cases e2 : j = 2
    · subst e2
      exact pk_us.trans s6
    · refine (pk_un e2).trans ?_
      by_cases e1 : j = 1
      · subst e1
        exact pk_us.trans s4
      · refine (pk_un e1).trans ?_
        by_cases e0 : j = 0
        · subst e0
          exact pk_us
        · refine (pk_un e0).trans ?_
          show va_cpy (S.2.2.1 10) (S.2.2.1 10) 0 3 33 j = _
          rw [pk_cpy_in (by omega) (by omega), if_neg (by omega), if_neg (by omega), if_neg (by omega), if_pos (by omega), zC_l hC (by omega)]
          congr 2
          omega
  have hC1 : zC (setA S 10 (b_row S (nI q) (S.1 4) (S.2.2.1 6 q))) (fun k => if k = 13 then Z 13 else zG Z q k) := zC_G hC (fun j hj => by rw [if_neg (by omega)]; exact hrow j hj) (fun k hk h1 => by
    by_cases e : k = 13
    · rw [if_pos e, e]
    · rw [if_neg e]
      unfold zG
      rw [if_neg e, if_neg (by omega), if_neg (by omega), if_neg (by omega), if_neg (by omega)])
  refine ⟨?_, fun k hk => ?_, zB_of hB (fun k hk => ?_) ?_ (fun j hj => ?_) (fun p hp => ?_) (fun k hk => ?_), ?_, ?_⟩
  · unfold b_put
    rw [s9]
    by_cases e : 12 ≤ Z 13
    · have c : (12 : Int32) ≤ nI (Z 13) := nI_le e (by omega)
      rw [if_pos c]
      refine zC_eq hC1 (fun k hk => ?_)
      by_cases e2 : k = 13
      · rw [if_pos e2, e2]; unfold zG; rw [if_pos rfl, if_pos e]
      · rw [if_neg e2]
    · have c : ¬ (12 : Int32) ≤ nI (Z 13) := fun q9 => e ((nI_leI (a := 12) (by omega) (by omega)).mp q9)
      rw [if_neg c]
      refine zC_eq (zC_I hC1 9 (Z 13 + 1) (by omega) (nI_1 _)) (fun k hk => ?_)
      show zG Z q k = if k = 13 then Z 13 + 1 else if k = 13 then Z 13 else zG Z q k
      by_cases e2 : k = 13
      · rw [if_pos e2, e2]; unfold zG; rw [if_pos rfl, if_neg e]
      · rw [if_neg e2, if_neg e2]
  · unfold m_logs m_log3 zG
    by_cases e13 : k = 13
    · subst e13
      rw [if_pos rfl]
      refine pk_uLs.trans ?_
      rw [hF13]
      by_cases e : 12 ≤ Z 13
      · have c : (12 : Int64) ≤ lN (Z 13) := (lN_le (a := 12) (by omega) (by omega)).mpr e
        rw [if_pos c, if_pos e]
        exact lN_add _ 0
      · have c : ¬ (12 : Int64) ≤ lN (Z 13) := fun q9 => e ((lN_le (a := 12) (by omega) (by omega)).mp q9)
        rw [if_neg c, if_neg e]
        exact lN_1 _
    · rw [if_neg e13]
      refine (pk_uLn e13).trans ?_
      by_cases e2 : k = 104
      · subst e2
        refine pk_uLs.trans ?_
        show m_logF w (48 + 8 * q + 3) = _
        rw [hF, if_neg (by omega)]
        exact hM _ (zd_p (by omega) (by omega))
      · refine (pk_uLn e2).trans ?_
        by_cases e1 : k = 103
        · subst e1
          refine pk_uLs.trans ?_
          show m_logF w 8 = _
          rw [hF, if_neg (by omega)]
          exact hM _ (zd_lo (by omega))
        · refine (pk_uLn e1).trans ?_
          by_cases e0 : k = 102
          · subst e0
            refine pk_uLs.trans ?_
            exact nI_l (by omega)
          · refine (pk_uLn e0).trans ?_
            rw [if_neg e0, if_neg e1, if_neg e2, hF]
            unfold zd at hk
            by_cases e5 : 105 ≤ k
            · rw [if_pos (by omega), if_pos e5]
              exact hM _ (by unfold zd; omega)
            · rw [if_neg (by omega), if_neg e5]
              exact hM _ hk
  · unfold zG; rw [if_neg (by omega), if_neg (by omega), if_neg (by omega), if_neg (by omega), if_neg (by omega)]
  · unfold zG; rw [if_pos rfl]; split <;> omega
  · unfold zG; rw [if_neg (by omega), if_neg (by omega), if_neg (by omega), if_neg (by omega), if_neg (by omega)]
  · unfold zG; rw [if_neg (by omega), if_neg (by omega), if_neg (by omega), if_neg (by omega), if_neg (by omega)]
  · unfold zG
    unfold zd at hk
    split
    · split <;> omega
    · split
      · omega
      · split
        · exact b8
        · split
          · exact b3
          · split
            · exact zB_le hB (by unfold zd; omega)
            · exact zB_le hB hk
  · have e5 : (b_put S (nI q) (S.1 4) (S.2.2.1 6 q)).2.2.1 5 = S.2.2.1 5 := by unfold b_put; split <;> rfl
    rw [e5]
    exact zO_w hO (fun k hk => hlow _ (by omega) (by omega))
  · have e5 : zL (b_put S (nI q) (S.1 4) (S.2.2.1 6 q)) w := by unfold b_put; split <;> exact hL
    exact zL_f e5 (fun k h1 h2 h3 => hlow _ (by omega) h3)
theorem r_start {S : SS} {w : Nat → Int64} {Z : Nat → Nat} {n t b : Nat} (h : Rl S w Z n t b) {q : Nat} (hq : q < n) (hb : 13 ≤ b) (hb2 : b < 2 ^ 29) : ∃ Z', Rl (s_swP S (nI q)) (m_start w q) Z' n t (b + 1) := by
  have h0 := h
  obtain ⟨hC, hM, hB, hO, hL⟩ := h
  have hn6 := hB.2.1
  have b1 := zB_le hB (zd_p (p := q) (f := 1) (by omega) (by omega))
  have b3 := zB_le hB (zd_p (p := q) (f := 3) (by omega) (by omega))
  have b6 := zB_le hB (zd_p (p := q) (f := 6) (by omega) (by omega))
  have b9 := zB_le' hB 9 (by omega)
  have s3 : S.2.2.1 3 q = nI (Z (48 + 8 * q + 1)) := zC_p hC 3 1 rfl (by omega) (by omega)
  have s6 : S.2.2.1 6 q = nI (Z (48 + 8 * q + 3)) := zC_p hC 6 3 rfl (by omega) (by omega)
  have s9 : S.2.2.1 9 q = nI (Z (48 + 8 * q + 6)) := zC_p hC 9 6 rfl (by omega) (by omega)
  have s5 : S.1 5 = nI (Z 9) := Rl_i h0 5 9 (by omega) rfl
  have h8 : S.1 8 = nI n := by rw [Rl_i h0 8 7 (by omega) rfl, hB.1]
  have hcl : (nI q).toNatClampNeg = q := nI_clamp (by omega)
  have hh : p_has S (nI q) = true := by
    unfold p_has
    rw [h8]
    exact decide_eq_true ⟨nI_pos (by omega), nI_ge hq (by omega)⟩
  have hw3 : w (48 + 8 * q + 3) = lN (Z (48 + 8 * q + 3)) := hM _ (zd_p (by omega) (by omega))
  have hw1 : w (48 + 8 * q + 1) = lN (Z (48 + 8 * q + 1)) := hM _ (zd_p (by omega) (by omega))
  have hR := r_start1 h0 hq (by omega)
  unfold s_swP m_start p_breaks p_start
  rw [hh, hcl, s3, s6, hw3, hw1]
  simp only [if_true, Bool.true_and]
  by_cases e : Z (48 + 8 * q + 3) < Z (48 + 8 * q + 1)
  · have e1 : nI (Z (48 + 8 * q + 3)) < nI (Z (48 + 8 * q + 1)) := nI_lt e (by omega)
    rw [if_pos e1, if_pos ((lN_lt (by omega) (by omega)).mpr e), if_neg (by simp [e1])]
    exact ⟨_, hR⟩
  · have e1 : ¬ nI (Z (48 + 8 * q + 3)) < nI (Z (48 + 8 * q + 1)) := fun q9 => e ((nI_ltI (by omega) (by omega)).mp q9)
    rw [if_neg e1, if_neg (fun q9 => e ((lN_lt (by omega) (by omega)).mp q9)), if_pos (by simp [e1])]
    obtain ⟨kC, kM, kB, kO, kL⟩ := hR
    have t6 : zT Z q (48 + 8 * q + 6) = Z (48 + 8 * q + 6) := by unfold zT; rw [upN_n (by omega), upN_n (by omega), upN_n (by omega)]
    have t9 : zT Z q 9 = Z 9 := by unfold zT; rw [upN_n (by omega), upN_n (by omega), upN_n (by omega)]
    have R2 : Rl (setI (setA (p_start1 S q) 9 (upd (S.2.2.1 9) q (S.2.2.1 9 q + 1))) 5 (S.1 5 + 1)) (vp_updL (vp_updL (m_st1 w q) (48 + 8 * q + 6) (w (48 + 8 * q + 6) + 1)) 9 (w 9 + 1)) (upN (upN (zT Z q) (48 + 8 * q + 6) (Z (48 + 8 * q + 6) + 1)) 9 (Z 9 + 1)) n t (b + 1) := by
      refine ⟨?_, ?_, ?_, ?_, ?_⟩
      · have k1 := zC_P kC 9 6 q (Z (48 + 8 * q + 6) + 1) rfl (by omega) (by omega) (x := S.2.2.1 9 q + 1) (by rw [s9, nI_1])
        exact zC_I k1 5 (Z 9 + 1) (by omega) (by rw [s5, nI_1])
      · refine zM_up (zM_up kM _ _ ?_) _ _ ?_
        · rw [hM _ (zd_p (p := q) (f := 6) (by omega) (by omega)), lN_1]
        · rw [hM 9 (zd_lo (by omega)), lN_1]
      · exact zB_up (zB_up kB _ _ (by omega) (b + 1) (by omega) (by omega)) _ _ (by omega) (b + 1) (by omega) (by omega)
      · exact zO_w (f := S.2.2.1 5) kO (fun k hk => (pk_uLn (by omega)).trans (pk_uLn (by omega)))
      · exact zL_f (S := S) kL (fun k h1 h2 h3 => (pk_uLn (by omega)).trans (pk_uLn (by omega)))
    exact ⟨_, r_log R2 hq (by omega) (by omega)⟩
theorem r_sw {S : SS} {w : Nat → Int64} {Z : Nat → Nat} {n t b : Nat} (h : Rl S w Z n t b) (hb : 13 ≤ b) (hb2 : b < 2 ^ 29) : (∃ Z', Rl (s_swS S n) (m_p3 w n) Z' n t (b + 1)) ∧ s_sw S n = (if w 1 < w 3 then m_starter w n else -1) ∧ (¬ s_sw S n = -1 → ∃ q, q < n ∧ s_sw S n = nI q ∧ m_p3 w n = m_start w q) ∧ (s_sw S n = -1 → m_p3 w n = (if w 1 < w 3 then w else m_rest w n)) := by
  have h0 := h
  obtain ⟨hC, hM, hB, hO, hL⟩ := h
  have hn6 := hB.2.1
  have hz : ∀ k, zd k → Z k ≤ b := fun k hk => zB_le hB hk
  have z1 := zB_le' hB 1 (by omega)
  have z3 := zB_le' hB 3 (by omega)
  have up : ∀ {S' w' Z'}, Rl S' w' Z' n t b → Rl S' w' Z' n t (b + 1) := fun ⟨a, b, c, d, e⟩ => ⟨a, b, zB_b c _ (by omega), d, e⟩
  have s1 : S.1 1 = nI (Z 1) := Rl_i h0 1 1 (by omega) rfl
  have s3 : S.1 3 = nI (Z 3) := Rl_i h0 3 3 (by omega) rfl
  have w1 : w 1 = lN (Z 1) := Rl_w h0 1 (by omega)
  have w3 : w 3 = lN (Z 3) := Rl_w h0 3 (by omega)
  have hle := cnt_le Z 1 n
  have hwl : m_want w n ≤ n := frst_le _ n
  have hpc : p_count S n 1 = nI (cnt Z n 1) := p_countN hC (by omega) hz 1 (by omega) n hn6
  have hmc : m_many w n 1 = nI (cnt Z n 1) := m_manyN hM (by omega) hz 1 (by omega) n hn6
  have hwa := r_want h0 (by omega)
  obtain ⟨hc1, hc2⟩ := r_cand h0 (by omega)
  have h8 : S.1 8 = nI n := by rw [Rl_i h0 8 7 (by omega) rfl, hB.1]
  unfold s_swS m_p3 s_sw
  have hst : m_starter w n = if cnt Z n 1 < m_want w n then s_cand S n else -1 := by
    unfold m_starter
    rw [hmc, ← hc1]
    by_cases e : cnt Z n 1 < m_want w n
    · rw [if_pos e, if_pos (nI_lt e (by omega))]
    · rw [if_neg e, if_neg (fun q => e ((nI_ltI (by omega) (by omega)).mp q))]
  rw [s1, s3, w1, w3, hpc, hwa, hst]
  by_cases e : Z 1 < Z 3
  · rw [if_pos (nI_lt e (by omega)), if_pos (nI_lt e (by omega)), if_pos ((lN_lt (by omega) (by omega)).mpr e)]
    simp only [if_pos ((lN_lt (a := Z 1) (b := Z 3) (by omega) (by omega)).mpr e)]
    by_cases e2 : cnt Z n 1 < m_want w n
    · rw [if_pos (nI_lt e2 (by omega)), if_pos (nI_lt e2 (by omega)), if_pos e2]
      by_cases e3 : s_cand S n = -1
      · have e4 : ¬ p_has S (s_cand S n) = true := by
          rw [e3]
          unfold p_has
          simp
        rw [if_neg e4, if_neg e4, if_pos e3, e3]
        exact ⟨⟨Z, up h0⟩, rfl, fun q => absurd rfl q, fun _ => rfl⟩
      · obtain ⟨q, hq1, hq2⟩ := hc2 e3
        have e4 : p_has S (s_cand S n) = true := by
          rw [hq2]
          unfold p_has
          rw [h8]
          exact decide_eq_true ⟨nI_pos (by omega), nI_ge hq1 (by omega)⟩
        rw [if_pos e4, if_pos e4, if_neg e3]
        refine ⟨?_, rfl, fun _ => ⟨q, hq1, hq2, ?_⟩, fun q9 => absurd q9 e3⟩
        · rw [hq2, nI_clamp (by omega)]
          exact r_start h0 hq1 hb hb2
        · rw [hq2, nI_clamp (by omega)]
    · have e3 : ¬ nI (cnt Z n 1) < nI (m_want w n) := fun q => e2 ((nI_ltI (by omega) (by omega)).mp q)
      rw [if_neg e3, if_neg e3, if_neg e2, if_pos rfl]
      exact ⟨⟨Z, up h0⟩, rfl, fun q => absurd rfl q, fun _ => rfl⟩
  · have e3 : ¬ nI (Z 1) < nI (Z 3) := fun q => e ((nI_ltI (by omega) (by omega)).mp q)
    have e4 : ¬ lN (Z 1) < lN (Z 3) := fun q => e ((lN_lt (by omega) (by omega)).mp q)
    rw [if_neg e3, if_neg e3, if_neg e4]
    simp only [if_neg e4]
    obtain ⟨Z', hr, -⟩ := r_stop h0 (by omega)
    exact ⟨⟨Z', up hr⟩, trivial, fun q => absurd trivial q, fun _ => trivial⟩
