/-! MATHEMATICS: the pump that starts, the switch -/
theorem jL_up {Z : Nat → Nat} {n tt : Nat} (h : jL Z n tt) : jL Z n (tt + 1) := fun k hk => by
  obtain ⟨a, ⟨b, c⟩, d⟩ := h k hk
  refine ⟨a, ⟨b, by omega⟩, ?_⟩
  cases k with
  | zero => exact Nat.lt_succ_of_lt d
  | succ k => exact d
theorem J_up {S : SS} {Z W : Nat → Nat} {n t tt u v : Nat} {B : Int} (h : J S Z W n t tt u v B) : J S Z W n t (tt + 1) u v B := by
  obtain ⟨hC, hW, hO, hA, hD, hP, hS, hL⟩ := h
  exact ⟨hC, hW, hO, hA, hD, hP, ⟨hS.1, Nat.le_succ_of_le hS.2.1, hS.2.2⟩, jL_up hL⟩
theorem j_start {S : SS} {Z W : Nat → Nat} {n t u v : Nat} {B : Int} (h : J S Z W n t t u v B) (ht : t ≤ 1000000) {q : Nat} (hq : q < n) (hbr : Z (48 + 8 * q + 3) < Z (48 + 8 * q + 1) ∨ Z 6 = 1) : ∃ Z', J (s_swP S (nI q)) Z' W n t (t + 1) u v B ∧ sm Z Z' := by
  have h0 := h
  obtain ⟨h8, hn3, h4⟩ := J_n h
  obtain ⟨hC, hW, hO, hA, hD, hP, hS, hL⟩ := h
  have hst := j_st hn3 hP hS (p := q) (by omega)
  obtain ⟨⟨a0, a1, a2⟩, ⟨b1, b2, b3⟩, c1, c2⟩ := hP q (by omega)
  have s3 : S.2.2.1 3 q = nI (Z (48 + 8 * q + 1)) := zC_p hC 3 1 rfl (by omega) (by omega)
  have s6 : S.2.2.1 6 q = nI (Z (48 + 8 * q + 3)) := zC_p hC 6 3 rfl (by omega) (by omega)
  have s7 : S.2.2.1 7 q = nI (Z (48 + 8 * q + 4)) := zC_p hC 7 4 rfl (by omega) (by omega)
  have s9 : S.2.2.1 9 q = nI (Z (48 + 8 * q + 6)) := zC_p hC 9 6 rfl (by omega) (by omega)
  have s5 : S.1 5 = nI (Z 9) := zC_i hC (i := 5) (by omega)
  have hcl : (nI q).toNatClampNeg = q := nI_clamp (by omega)
  have hh : p_has S (nI q) = true := by
    unfold p_has
    rw [h8]
    exact decide_eq_true ⟨nI_pos (by omega), nI_ge hq (by omega)⟩
  have e3 : q = 0 ∨ q = 1 ∨ q = 2 := by omega
  have tz : ∀ k, (k ≠ 48 + 8 * q + 2 ∧ k ≠ 48 + 8 * q + 3 ∧ k ≠ 48 + 8 * q + 4) → zT Z q k = Z k := fun k hk => by unfold zT; rw [upN_n (by omega), upN_n (by omega), upN_n (by omega)]
  have t2 : zT Z q (48 + 8 * q + 2) = 1 := by unfold zT; rw [upN_n (by omega), upN_n (by omega), upN_s]
  have t3 : zT Z q (48 + 8 * q + 3) = Z (48 + 8 * q + 3) + 1 := by unfold zT; rw [upN_n (by omega), upN_s]
  have t4 : zT Z q (48 + 8 * q + 4) = Z (48 + 8 * q + 4) + 1 := by unfold zT; rw [upN_s]
  have kC : zC (p_start1 S q) (zT Z q) := by
    have h1 : zC (setA S 4 (upd (S.2.2.1 4) q 1)) (upN Z (48 + 8 * q + 2) 1) := zC_P hC 4 2 q 1 rfl (by omega) (by omega) rfl
    have h2 := zC_P h1 6 3 q (Z (48 + 8 * q + 3) + 1) rfl (by omega) (by omega) (x := S.2.2.1 6 q + 1) (by rw [s6, nI_1])
    exact zC_P h2 7 4 q (Z (48 + 8 * q + 4) + 1) rfl (by omega) (by omega) (x := S.2.2.1 7 q + 1) (by rw [s7, nI_1])
  have tst : zT Z q 52 + zT Z q 60 + zT Z q 68 = Z 52 + Z 60 + Z 68 + 1 := by
    rcases e3 with e | e | e
    · subst e
      rw [show zT Z 0 52 = Z 52 + 1 from t4, tz 60 (by omega), tz 68 (by omega)]; omega
    · subst e
      rw [show zT Z 1 60 = Z 60 + 1 from t4, tz 52 (by omega), tz 68 (by omega)]; omega
    · subst e
      rw [show zT Z 2 68 = Z 68 + 1 from t4, tz 52 (by omega), tz 60 (by omega)]; omega
  unfold s_swP p_breaks p_start
  rw [hh, hcl, s3, s6]
  simp only [if_true, Bool.true_and]
  by_cases e : Z (48 + 8 * q + 3) < Z (48 + 8 * q + 1)
  · have e1 : nI (Z (48 + 8 * q + 3)) < nI (Z (48 + 8 * q + 1)) := nI_lt e (by omega)
    rw [if_pos e1, if_neg (by simp [e1])]
    refine ⟨zT Z q, ⟨kC, hW, hO, jA_of hA (fun k hk => tz k (by omega)), jD_of hD (fun j hj => tz _ (by omega)), fun p hp => ?_, ?_, jL_up (jL_of hL (fun k hk => tz k (by omega)))⟩, sm_lo (fun k hk _ => tz k (by omega))⟩
    · by_cases e9 : p = q
      · subst e9
        unfold jQ
        rw [t2, t3, t4, tz (48 + 8 * p + 0) (by omega), tz (48 + 8 * p + 1) (by omega), tz (48 + 8 * p + 5) (by omega), tz (48 + 8 * p + 6) (by omega)]
        exact ⟨⟨a0, a1, by omega⟩, ⟨by omega, by omega, b3⟩, c1, fun q9 => absurd q9 (by omega)⟩
      · exact jQ_of (hP p hp) (fun f hf => tz _ (by omega))
    · unfold jS at *
      rw [tz 9 (by omega), tz 54 (by omega), tz 62 (by omega), tz 70 (by omega), tst, tz 48 (by omega), tz 53 (by omega), tz 56 (by omega), tz 61 (by omega), tz 64 (by omega), tz 69 (by omega), tz 1 (by omega)]
      exact ⟨hS.1, Nat.succ_le_succ hS.2.1, hS.2.2⟩
  · have e1 : ¬ nI (Z (48 + 8 * q + 3)) < nI (Z (48 + 8 * q + 1)) := fun q9 => e ((nI_ltI (by omega) (by omega)).mp q9)
    have z6 : Z 6 = 1 := hbr.resolve_left e
    rw [if_neg e1, if_pos (by simp [e1])]
    obtain ⟨Y, hY⟩ : ∃ Y, Y = upN (upN (zT Z q) (48 + 8 * q + 6) (Z (48 + 8 * q + 6) + 1)) 9 (Z 9 + 1) := ⟨_, rfl⟩
    have y9 : Y 9 = Z 9 + 1 := by rw [hY]; exact upN_s
    have y6 : Y (48 + 8 * q + 6) = Z (48 + 8 * q + 6) + 1 := by rw [hY, upN_n (by omega)]; exact upN_s
    have yz : ∀ k, k ≠ 9 → k ≠ 48 + 8 * q + 6 → Y k = zT Z q k := fun k h1 h2 => by rw [hY, upN_n h1, upN_n h2]
    have kC2 : zC (setI (setA (p_start1 S q) 9 (upd (S.2.2.1 9) q (S.2.2.1 9 q + 1))) 5 (S.1 5 + 1)) Y := by
      rw [hY]
      have k1 := zC_P kC 9 6 q (Z (48 + 8 * q + 6) + 1) rfl (by omega) (by omega) (x := S.2.2.1 9 q + 1) (by rw [s9, nI_1])
      exact zC_I k1 5 (Z 9 + 1) (by omega) (by rw [s5, nI_1])
    have y13 : Y 13 = Z 13 := (yz 13 (by omega) (by omega)).trans (tz 13 (by omega))
    have z13 : Z 13 ≤ 12 := hA.2.2.2.2.2.2.2.2.2.2.2.2.1
    obtain ⟨G, hG⟩ : ∃ G, G = zG Y q := ⟨_, rfl⟩
    have g13 : G 13 = if 12 ≤ Z 13 then Z 13 else Z 13 + 1 := by rw [hG]; unfold zG; rw [if_pos rfl, y13]
    have gz : ∀ k, k < 102 → k ≠ 13 → G k = Y k := fun k h1 h2 => by rw [hG]; unfold zG; rw [if_neg h2, if_neg (by omega), if_neg (by omega), if_neg (by omega), if_neg (by omega)]
    have gk : ∀ k, k < 102 → k ≠ 13 → k ≠ 9 → k ≠ 48 + 8 * q + 6 → (k ≠ 48 + 8 * q + 2 ∧ k ≠ 48 + 8 * q + 3 ∧ k ≠ 48 + 8 * q + 4) → G k = Z k := fun k h1 h2 h3 h4 h5 => by rw [gz k h1 h2, yz k h3 h4, tz k h5]
    have g9 : G 9 = Z 9 + 1 := by rw [gz 9 (by omega) (by omega), y9]
    have gb : G 54 + G 62 + G 70 = Z 54 + Z 62 + Z 70 + 1 := by
      rcases e3 with e | e | e
      · subst e
        rw [show G 54 = Z 54 + 1 from (gz 54 (by omega) (by omega)).trans y6, gk 62 (by omega) (by omega) (by omega) (by omega) (by omega), gk 70 (by omega) (by omega) (by omega) (by omega) (by omega)]; omega
      · subst e
        rw [show G 62 = Z 62 + 1 from (gz 62 (by omega) (by omega)).trans y6, gk 54 (by omega) (by omega) (by omega) (by omega) (by omega), gk 70 (by omega) (by omega) (by omega) (by omega) (by omega)]; omega
      · subst e
        rw [show G 70 = Z 70 + 1 from (gz 70 (by omega) (by omega)).trans y6, gk 54 (by omega) (by omega) (by omega) (by omega) (by omega), gk 62 (by omega) (by omega) (by omega) (by omega) (by omega)]; omega
    have gs : G 52 + G 60 + G 68 = Z 52 + Z 60 + Z 68 + 1 := by
      rw [gz 52 (by omega) (by omega), gz 60 (by omega) (by omega), gz 68 (by omega) (by omega), yz 52 (by omega) (by omega), yz 60 (by omega) (by omega), yz 68 (by omega) (by omega)]
      exact tst
    have g102 : G 102 = q := by rw [hG]; rfl
    have g103 : G 103 = t := by rw [hG]; exact ((yz 8 (by omega) (by omega)).trans (tz 8 (by omega))).trans hA.2.2.1
    have g104 : G 104 = Z (48 + 8 * q + 3) + 1 := by rw [hG]; exact (yz _ (by omega) (by omega)).trans t3
    have g3 : ∀ j, 105 ≤ j → G j = Z (j - 3) := fun j hj => by
      rw [hG]; unfold zG
      rw [if_neg (by omega), if_neg (by omega), if_neg (by omega), if_neg (by omega), if_pos hj, yz _ (by omega) (by omega), tz _ (by omega)]
    refine ⟨G, ⟨by rw [hG]; exact j_logC kC2 (by omega) (by omega), ?_, ?_, ?_, jD_of hD (fun j hj => gk _ (by omega) (by omega) (by omega) (by omega) (by omega)), fun p hp => ?_, ?_, fun k hk => ?_⟩, ?_⟩
    · intro j hj
      rw [show (b_put (setI (setA (p_start1 S q) 9 (upd (S.2.2.1 9) q (S.2.2.1 9 q + 1))) 5 ((setA (p_start1 S q) 9 (upd (S.2.2.1 9) q (S.2.2.1 9 q + 1))).1 5 + 1)) (nI q) ((setA (p_start1 S q) 9 (upd (S.2.2.1 9) q (S.2.2.1 9 q + 1))).1 4) ((setA (p_start1 S q) 9 (upd (S.2.2.1 9) q (S.2.2.1 9 q + 1))).2.2.1 6 q)).2.2.2 = S.2.2.2 from by unfold b_put; split <;> rfl]
      exact hW j hj
    · rw [show (b_put (setI (setA (p_start1 S q) 9 (upd (S.2.2.1 9) q (S.2.2.1 9 q + 1))) 5 ((setA (p_start1 S q) 9 (upd (S.2.2.1 9) q (S.2.2.1 9 q + 1))).1 5 + 1)) (nI q) ((setA (p_start1 S q) 9 (upd (S.2.2.1 9) q (S.2.2.1 9 q + 1))).1 4) ((setA (p_start1 S q) 9 (upd (S.2.2.1 9) q (S.2.2.1 9 q + 1))).2.2.1 6 q)).2.2.1 5 = S.2.2.1 5 from by unfold b_put; split <;> rfl]
      exact hO
    · unfold jA at *
      rw [gk 7 (by omega) (by omega) (by omega) (by omega) (by omega), gk 8 (by omega) (by omega) (by omega) (by omega) (by omega), gk 0 (by omega) (by omega) (by omega) (by omega) (by omega), gk 1 (by omega) (by omega) (by omega) (by omega) (by omega), gk 2 (by omega) (by omega) (by omega) (by omega) (by omega), gk 3 (by omega) (by omega) (by omega) (by omega) (by omega), gk 4 (by omega) (by omega) (by omega) (by omega) (by omega), gk 5 (by omega) (by omega) (by omega) (by omega) (by omega), gk 6 (by omega) (by omega) (by omega) (by omega) (by omega), gk 10 (by omega) (by omega) (by omega) (by omega) (by omega), g9, g13]
      split <;> omega
    · by_cases e9 : p = q
      · subst e9
        unfold jQ
        rw [gk (48 + 8 * p + 0) (by omega) (by omega) (by omega) (by omega) (by omega), gk (48 + 8 * p + 1) (by omega) (by omega) (by omega) (by omega) (by omega), gz (48 + 8 * p + 2) (by omega) (by omega), gz (48 + 8 * p + 3) (by omega) (by omega), gz (48 + 8 * p + 4) (by omega) (by omega), gk (48 + 8 * p + 5) (by omega) (by omega) (by omega) (by omega) (by omega), gz (48 + 8 * p + 6) (by omega) (by omega), y6, yz (48 + 8 * p + 2) (by omega) (by omega), yz (48 + 8 * p + 3) (by omega) (by omega), yz (48 + 8 * p + 4) (by omega) (by omega), t2, t3, t4]
        exact ⟨⟨a0, a1, by omega⟩, ⟨by omega, by omega, b3⟩, c1, fun q9 => absurd q9 (by omega)⟩
      · exact jQ_of (hP p hp) (fun f hf => gk _ (by omega) (by omega) (by omega) (by omega) (by omega))
    · unfold jS at *
      rw [g9, gb, gs, gk 48 (by omega) (by omega) (by omega) (by omega) (by omega), gk 53 (by omega) (by omega) (by omega) (by omega) (by omega), gk 56 (by omega) (by omega) (by omega) (by omega) (by omega), gk 61 (by omega) (by omega) (by omega) (by omega) (by omega), gk 64 (by omega) (by omega) (by omega) (by omega) (by omega), gk 69 (by omega) (by omega) (by omega) (by omega) (by omega), gk 1 (by omega) (by omega) (by omega) (by omega) (by omega)]
      exact ⟨by rw [hS.1], Nat.succ_le_succ hS.2.1, hS.2.2⟩
    · cases k with
      | zero =>
        show G 102 < n ∧ (2 ≤ G 104 ∧ G 104 ≤ t + 1) ∧ G 103 < t + 1
        rw [g102, g103, g104]
        have := c1 hq
        omega
      | succ k =>
        have hk2 : k < Z 13 := by
          rw [g13] at hk
          split at hk <;> omega
        obtain ⟨f1, ⟨f2, f3⟩, f4⟩ := hL k hk2
        rw [g3 (102 + 3 * (k + 1)) (by omega), g3 (104 + 3 * (k + 1)) (by omega), g3 (103 + 3 * (k + 1)) (by omega), show 102 + 3 * (k + 1) - 3 = 102 + 3 * k by omega, show 104 + 3 * (k + 1) - 3 = 104 + 3 * k by omega, show 103 + 3 * (k + 1) - 3 = 103 + 3 * k by omega]
        refine ⟨f1, ⟨f2, by omega⟩, ?_⟩
        show Z (103 + 3 * k) < G (103 + 3 * k)
        cases k with
        | zero =>
          show Z 103 < G 103
          rw [g103]
          exact f4
        | succ j =>
          rw [g3 (103 + 3 * (j + 1)) (by omega), show 103 + 3 * (j + 1) - 3 = 103 + 3 * j by omega]
          exact f4
    · refine ⟨gk 5 (by omega) (by omega) (by omega) (by omega) (by omega), gk 6 (by omega) (by omega) (by omega) (by omega) (by omega), fun j hj => gk _ (by omega) (by omega) (by omega) (by omega) (by omega), by rw [g9]; omega, fun q9 => absurd q9 (by omega)⟩
theorem j_sw {S : SS} {Z W : Nat → Nat} {n t u v : Nat} {B : Int} (h : J S Z W n t t u v B) (ht : t ≤ 1000000) : ∃ Z', J (s_swS S n) Z' W n t (t + 1) u v B ∧ sm Z Z' := by
  obtain ⟨h8, hn3, h4⟩ := J_n h
  unfold s_swS
  split
  · split
    · split
      · next hp =>
        obtain ⟨k, hk, e⟩ := p_hasN hp h8 (by omega)
        rw [e]
        refine j_start h ht hk ?_
        obtain ⟨hC, hW, hO, hA, hD, hP, hS, hL⟩ := h
        have hst := j_st hn3 hP hS (p := k) (by omega)
        obtain ⟨⟨a0, a1, a2⟩, ⟨b1, b2, b3⟩, c1, c2⟩ := hP k (by omega)
        have hsp : ∀ w, p_first S n w = nI k → (w = 0 ∨ ¬ S.2.2.1 3 k ≤ S.2.2.1 6 k) := fun w hw => by
          rcases first_sp S w n with h1 | ⟨q, h1, h2, h3⟩
          · exfalso
            have h9 := nI_pos (n := k) (by omega)
            rw [show nI k = -1 from hw.symm.trans h1] at h9
            exact h9 (by decide)
          · have e9 : q = k := (nI_eq (by omega) (by omega)).mp (h2.symm.trans hw)
            subst e9
            exact h3
        unfold s_cand p_next at e
        split at e
        · next c =>
          right
          have h6 : S.2.2.1 0 2 = nI (Z 6) := zC_s hC (j := 2) (by omega)
          have z6 := hA.2.2.2.2.2.2.2.2.2.2.1
          have c2 := c.2
          unfold s_force at c2
          split at c2
          · next c3 =>
            rw [h6] at c3
            exact (nI_eq (b := 1) (by omega) (by omega)).mp c3
          · exact absurd rfl c2
        · left
          have h9 := (hsp 1 e).resolve_left (by decide)
          rw [zC_p hC 3 1 rfl (p := k) (by omega) (by omega), zC_p hC 6 3 rfl (p := k) (by omega) (by omega)] at h9
          have h7 := mt (nI_leI (by omega) (by omega)).mpr h9
          omega
      · exact ⟨Z, J_up h, sm_rf Z⟩
    · exact ⟨Z, J_up h, sm_rf Z⟩
  · obtain ⟨Z', a, b⟩ := j_stop h
    exact ⟨Z', J_up a, b⟩
