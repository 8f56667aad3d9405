/-! MATHEMATICS: addPump, pass, undo, the text, the questions about what is -/
set_option maxHeartbeats 1000000 in
theorem q_addPump {S1 S2 S3 S4 S5 S6 : SS} {T : TS} {sv : Int32} {M : MS} {st n t le : Nat} (h : RO S2 S3 S4 S5 S6 T sv M st n t le) (x y : Int32) : Q3 iae ise (A_X4_addPump_t S1 S2 S3 S4 S5 S6 T sv n x y) ((A_X5_addPump_s0 M st n x y).1 2) (A_X4_addPump_r S1 S2 S3 S4 S5 S6 T sv n x y = A_X5_addPump_r M st n x y) (ROE (A_X4_addPump_s2 S1 S2 S3 S4 S5 S6 T sv n x y) (A_X4_addPump_s3 S1 S2 S3 S4 S5 S6 T sv n x y) (A_X4_addPump_s4 S1 S2 S3 S4 S5 S6 T sv n x y) (A_X4_addPump_s5 S1 S2 S3 S4 S5 S6 T sv n x y) (A_X4_addPump_s6 S1 S2 S3 S4 S5 S6 T sv n x y) T (A_X4_addPump_s0 S1 S2 S3 S4 S5 S6 T sv n x y) (A_X5_addPump_s0 M st n x y)) (ROE S2 S3 S4 S5 S6 T sv (A_X5_addPump_s0 M st n x y)) := by
  obtain ⟨Z, hR, h23, ht, hn6⟩ := RO_w h
  obtain ⟨hC, hM, hB, -, -⟩ := id hR
  obtain ⟨z7, -, z8, z0, z1, z2, z4, z5, z6, z13, zdd, zdc, zle⟩ := id hB
  have hww := fun i k hi hk => Rl_ww hR (by omega) i k hi hk
  have w0 := hww 0 0 (by omega) rfl
  have w1 := hww 1 1 (by omega) rfl
  have w3 := hww 3 3 (by omega) rfl
  have s0 : S2.1 0 = nI (Z 0) := Rl_i hR 0 0 (by omega) rfl
  have s1 : S2.1 1 = nI (Z 1) := Rl_i hR 1 1 (by omega) rfl
  have s2 : S2.1 2 = nI (Z 2) := Rl_i hR 2 2 (by omega) rfl
  have s3 : S2.1 3 = nI (Z 3) := Rl_i hR 3 3 (by omega) rfl
  have w7 : M.2.1 0 7 = lN n := by rw [Rl_w hR 7 (by omega), z7]
  have s8 : S2.1 8 = nI n := by rw [Rl_i hR 8 7 (by omega) rfl, z7]
  have hisP : ∀ x, m_isP (M.2.1 0) x = p_has S2 x := fun x => isP_eq s8 w7 hn6 x
  have c1 : m_in x.toInt64 1 500 = c_in x 1 500 := m_c_in x 1 500 rfl rfl
  have c2 : m_in y.toInt64 1 12 = c_in y 1 12 := m_c_in y 1 12 rfl rfl
  have c3 : (lN n = 6) ↔ ¬ n < 6 := (lN_eq (b := 6) (by omega) (by omega)).trans (by omega)
  have c4 : (nI n < 6) ↔ n < 6 := nI_ltI (b := 6) (by omega) (by omega)
  simp only [A_X4_addPump_t, A_X4_addPump_r, A_X4_addPump_s0, A_X4_addPump_s2, A_X4_addPump_s3, A_X4_addPump_s4, A_X4_addPump_s5, A_X4_addPump_s6, A_X5_addPump_r, A_X5_addPump_s0, c1, c2, w7, s8, c3, c4]
  by_cases e1 : c_in x 1 500 = true
  · by_cases e2 : c_in y 1 12 = true
    · by_cases e3 : n < 6
      · simp only [if_pos e1, if_pos e2, if_pos e3, if_neg (not_not_intro e3)]
        obtain ⟨a, -, ha, rfl⟩ := c_in_t (a := 1) (b := 500) e1 rfl rfl (by omega) (by omega)
        obtain ⟨v, -, hv, rfl⟩ := c_in_t (a := 1) (b := 12) e2 rfl rfl (by omega) (by omega)
        have c5 : S2.1 8 < 6 := by rw [s8]; exact c4.mpr e3
        have hcl : (nI n).toNatClampNeg = n := nI_clamp (by omega)
        unfold p_join p_joinR
        rw [if_pos c5, if_pos c5, s8, hcl]
        have k1 : zC (setA S2 2 (upd (S2.2.2.1 2) n (nI a))) (upN Z (48 + 8 * n + 0) a) := zC_P hC 2 0 n a rfl e3 (by omega) rfl
        have k2 : zC (setA (setA S2 2 (upd (S2.2.2.1 2) n (nI a))) 3 (upd (S2.2.2.1 3) n (nI v))) (upN (upN Z (48 + 8 * n + 0) a) (48 + 8 * n + 1) v) := zC_P k1 3 1 n v rfl e3 (by omega) rfl
        have k3 := zC_I (zC_5 k2 (upd (S2.2.2.1 5) n (nI n))) 8 (n + 1) (by omega) (nI_1 n)
        obtain ⟨w', hw'⟩ : ∃ w' : Nat → Int64, w' = vp_updL (vp_updL (vp_updL (vp_updL (M.2.1 0) 7 (nI (n + 1)).toInt64) (48 + 8 * n + 0) (nI a).toInt64) (48 + 8 * n + 1) (nI v).toInt64) (96 + n) (nI n).toInt64 := ⟨_, rfl⟩
        have kM : zM w' (upN (upN (upN Z 7 (n + 1)) (48 + 8 * n + 0) a) (48 + 8 * n + 1) v) := by
          rw [hw']
          exact zM_skip (zM_up (zM_up (zM_up hM 7 (n + 1) (nI_l (by omega))) _ a (nI_l (by omega))) _ v (nI_l (by omega))) _ _ (by unfold zd; omega)
        have hlow : ∀ k, k ≠ 7 → k < 48 ∨ 96 ≤ k → k ≠ 96 + n → w' k = M.2.1 0 k := fun k a1 a2 a3 => by
          rw [hw']
          exact (pk_uLn a3).trans ((pk_uLn (by omega)).trans ((pk_uLn (by omega)).trans (pk_uLn a1)))
        have hR' : RS (setI (setA (setA (setA S2 2 (upd (S2.2.2.1 2) n (nI a))) 3 (upd (S2.2.2.1 3) n (nI v))) 5 (upd (S2.2.2.1 5) n (nI n))) 8 (nI n + 1)) w' (n + 1) t := by
          obtain ⟨-, -, -, hO, hL⟩ := id hR
          refine ⟨⟨upN (upN (upN Z 7 (n + 1)) (48 + 8 * n + 0) a) (48 + 8 * n + 1) v, zC_eq k3 (fun k hk => ?_), kM, ?_, ?_, ?_⟩, ?_⟩
          · show _ = upN (upN (upN Z (48 + 8 * n + 0) a) (48 + 8 * n + 1) v) 7 (n + 1) k
            unfold upN
            repeat' split
            all_goals first | rfl | omega
          · have hz : ∀ k, k ≠ 7 → k < 48 → upN (upN (upN Z 7 (n + 1)) (48 + 8 * n + 0) a) (48 + 8 * n + 1) v k = Z k := fun k a1 a2 => (upN_n (by omega)).trans ((upN_n (by omega)).trans (upN_n a1))
            refine ⟨(upN_n (by omega)).trans ((upN_n (by omega)).trans upN_s), by omega, by rw [hz 8 (by omega) (by omega)]; exact z8, by rw [hz 0 (by omega) (by omega)]; exact z0, by rw [hz 1 (by omega) (by omega), hz 0 (by omega) (by omega)]; exact z1, by rw [hz 2 (by omega) (by omega), hz 3 (by omega) (by omega), hz 0 (by omega) (by omega)]; exact z2, by rw [hz 4 (by omega) (by omega)]; exact z4, by rw [hz 5 (by omega) (by omega)]; exact z5, by rw [hz 6 (by omega) (by omega)]; exact z6, by rw [hz 13 (by omega) (by omega)]; exact z13, fun j hj => by rw [hz _ (by omega) (by omega)]; exact zdd j hj, fun p hp => ?_, fun k hk => ?_⟩
            · unfold upN
              repeat' split
              all_goals first | omega | exact zdc p hp
            · unfold upN
              repeat' split
              all_goals first | omega | exact zle k hk
          · show zO (setA _ 5 (upd (S2.2.2.1 5) n (nI n)) |>.2.2.1 5) w' (n + 1)
            rw [setA_s]
            refine ⟨fun k hk => ?_, fun q hq => ?_⟩
            · by_cases e : k = n
              · subst e
                exact ⟨k, by omega, by rw [hw']; exact pk_uLs.trans (nI_l (by omega)), pk_us⟩
              · obtain ⟨q, h1, h2, h3⟩ := hO.1 k (by omega)
                exact ⟨q, by omega, (hlow _ (by omega) (by omega) (by omega)).trans h2, (pk_un (by omega)).trans h3⟩
            · by_cases e : q = n
              · subst e
                exact ⟨q, by omega, pk_us, by rw [hw']; exact pk_uLs.trans (nI_l (by omega))⟩
              · obtain ⟨k, h1, h2, h3⟩ := hO.2 q (by omega)
                exact ⟨k, by omega, (pk_un e).trans h2, (hlow _ (by omega) (by omega) (by omega)).trans h3⟩
          · exact zL_f (S := S2) hL (fun k h1 h2 h3 => hlow k (by omega) (by omega) (by omega))
          · exact (hlow 23 (by omega) (by omega) (by omega)).trans h23
        refine Or.inl ⟨rfl, o_puts_2 M st 7 ((lN n).toInt32 + 1), rfl, RO_put h hR' ht _ rfl ((o_save_I (o_setI M 2 0) st 1 (by omega)).trans rfl) (fun j hj => ?_) rfl ?_⟩
        · show vp_updL (vp_updL (vp_updL (vp_updL ((o_save (o_setI M 2 0) st).2.1 0) 7 ((lN n).toInt32 + 1).toInt64) _ _) _ _) _ _ j = _
          rw [o_save_V _ _ _ (by omega), hw', lN_i, nI_1]; rfl
        · show (o_save (o_setI M 2 0) st).2.2 0 = _
          rw [o_save_A]; rfl
      · simp only [if_pos e1, if_pos e2, if_neg e3, if_pos e3]
        exact Or.inr (Or.inr ⟨rfl, rfl, RO_thr h 2⟩)
    · simp only [if_pos e1, if_neg e2, ite_self]
      exact Or.inr (Or.inl ⟨rfl, rfl, RO_thr h 1⟩)
  · simp only [if_neg e1, ite_self]
    exact Or.inr (Or.inl ⟨rfl, rfl, RO_thr h 1⟩)

/-- what is read after many minutes -/
theorem RS_rd {S : SS} {w : Nat → Int64} {n t : Nat} (h : RS S w n t) (ht : t ≤ 3000000) : ∃ Z, Rl S w Z n t (200000 + 10 * t) ∧ (∀ k, zd k → Z k < 2 ^ 30) := by
  obtain ⟨⟨Z, hR⟩, -⟩ := h
  exact ⟨Z, hR, fun k hk => by have := zB_le hR.2.2.1 hk; omega⟩
theorem RS_i {S : SS} {w : Nat → Int64} {n t : Nat} (h : RS S w n t) (ht : t ≤ 3000000) (i k : Nat) (hi : i < 10) (hk : im i = k) : ∃ a, a < 2 ^ 30 ∧ S.1 i = nI a ∧ w k = lN a := by
  obtain ⟨Z, hR, hz⟩ := RS_rd h ht
  have hzd : zd k := by subst hk; unfold zd im; split; omega; split; omega; split <;> omega
  exact ⟨Z k, hz k hzd, Rl_i hR i k hi hk, hR.2.1 k hzd⟩
theorem RS_pv {S : SS} {w : Nat → Int64} {n t : Nat} (h : RS S w n t) (ht : t ≤ 3000000) (a f p : Nat) (ha : pj f = a) (hp : p < 6) (hf : f < 7) : ∃ v, v < 2 ^ 30 ∧ S.2.2.1 a p = nI v ∧ w (48 + 8 * p + f) = lN v := by
  obtain ⟨Z, hR, hz⟩ := RS_rd h ht
  exact ⟨Z (48 + 8 * p + f), hz _ (zd_p hp hf), zC_p hR.1 a f ha hp hf, hR.2.1 _ (zd_p hp hf)⟩
theorem l_sub_i (a b : Int64) : (a - b).toInt32 = a.toInt32 - b.toInt32 := by simp
theorem c_timeN {S : SS} {t k : Nat} (h4 : S.1 4 = nI t) (ht : t ≤ 1000000) (hk : k ≤ 1440) : c_time S (nI k) = decide (t + k ≤ 1000000) := by
  unfold c_time
  rw [h4, nI_add]
  have := nI_ltI (a := 1000000) (b := t + k) (by omega) (by omega)
  refine decide_eq_decide.mpr ?_
  show ¬ nI 1000000 < nI (t + k) ↔ _
  rw [this]
  omega

set_option maxHeartbeats 1000000 in
theorem q_pass {S1 S2 S3 S4 S5 S6 : SS} {T : TS} {sv : Int32} {M : MS} {st n t le : Nat} (h : RO S2 S3 S4 S5 S6 T sv M st n t le) (x : Int32) : Q3 iae ise (A_X4_pass_t S1 S2 S3 S4 S5 S6 T sv n x) ((A_X5_pass_s0 M st n t x).1 2) (A_X4_pass_r S1 S2 S3 S4 S5 S6 T sv n x = A_X5_pass_r M st n t x) (ROE (A_X4_pass_s2 S1 S2 S3 S4 S5 S6 T sv n x) (A_X4_pass_s3 S1 S2 S3 S4 S5 S6 T sv n x) (A_X4_pass_s4 S1 S2 S3 S4 S5 S6 T sv n x) (A_X4_pass_s5 S1 S2 S3 S4 S5 S6 T sv n x) (A_X4_pass_s6 S1 S2 S3 S4 S5 S6 T sv n x) T (A_X4_pass_s0 S1 S2 S3 S4 S5 S6 T sv n x) (A_X5_pass_s0 M st n t x)) (ROE S2 S3 S4 S5 S6 T sv (A_X5_pass_s0 M st n t x)) := by
  obtain ⟨Z, hR, h23, ht, hn6⟩ := RO_w h
  obtain ⟨hC, hM, hB, -, -⟩ := id hR
  obtain ⟨z7, -, z8, z0, z1, z2, z4, z5, z6, z13, zdd, zdc, zle⟩ := id hB
  have hww := fun i k hi hk => Rl_ww hR (by omega) i k hi hk
  have w0 := hww 0 0 (by omega) rfl
  have w1 := hww 1 1 (by omega) rfl
  have w3 := hww 3 3 (by omega) rfl
  have s0 : S2.1 0 = nI (Z 0) := Rl_i hR 0 0 (by omega) rfl
  have s1 : S2.1 1 = nI (Z 1) := Rl_i hR 1 1 (by omega) rfl
  have s2 : S2.1 2 = nI (Z 2) := Rl_i hR 2 2 (by omega) rfl
  have s3 : S2.1 3 = nI (Z 3) := Rl_i hR 3 3 (by omega) rfl
  have c1 : m_in x.toInt64 1 1440 = c_in x 1 1440 := m_c_in x 1 1440 rfl rfl
  have w8 : M.2.1 0 8 = lN t := by rw [Rl_w hR 8 (by omega), z8]
  have s4 : S2.1 4 = nI t := (Rl_t hR).1
  simp only [A_X4_pass_t, A_X4_pass_r, A_X4_pass_s0, A_X4_pass_s2, A_X4_pass_s3, A_X4_pass_s4, A_X4_pass_s5, A_X4_pass_s6, A_X5_pass_r, A_X5_pass_s0, c1, w8]
  by_cases e1 : c_in x 1 1440 = true
  · obtain ⟨k, hk1, hk, rfl⟩ := c_in_t (a := 1) (b := 1440) e1 rfl rfl (by omega) (by omega)
    have c2 : (lN t + (nI k).toInt64 ≤ 1000000) ↔ t + k ≤ 1000000 := by
      rw [nI_l (by omega), lN_add]
      exact lN_le (b := 1000000) (by omega) (by omega)
    have hcl : (nI k).toNatClampNeg = k := nI_clamp (by omega)
    simp only [if_pos e1, c_timeN s4 ht hk, c2, decide_eq_true_eq, hcl]
    by_cases e2 : t + k ≤ 1000000
    · simp only [if_pos e2]
      have hRS : RS S2 (M.2.1 0) n t := ⟨⟨Z, hR⟩, h23⟩
      have hp := r_pass hRS k (by omega)
      obtain ⟨a, ha, a1, a2⟩ := RS_i hp (by omega) 5 9 (by omega) rfl
      obtain ⟨b, hb, b1, b2⟩ := RS_i hRS (by omega) 5 9 (by omega) rfl
      have hv0 : (o_save (o_setI M 2 0) st).2.1 0 = M.2.1 0 := (o_save_V _ _ _ (by omega)).trans rfl
      refine Or.inl ⟨rfl, (o_save_I (o_setI M 2 0) st 2 (by omega)).trans rfl, ?_, RO_put h hp e2 _ rfl ((o_save_I (o_setI M 2 0) st 1 (by omega)).trans rfl) (fun j hj => ?_) rfl ?_⟩
      · rw [hv0, a1, b1, a2, b2, l_sub_i, lN_i, lN_i]
      · show itr (m_goB n t) k ((o_save (o_setI M 2 0) st).2.1 0) j = _
        rw [hv0]
      · show (o_save (o_setI M 2 0) st).2.2 0 = _
        rw [o_save_A]; rfl
    · simp only [if_neg e2]
      exact Or.inr (Or.inr ⟨rfl, rfl, RO_thr h 2⟩)
  · simp only [if_neg e1, ite_self]
    exact Or.inr (Or.inl ⟨rfl, rfl, RO_thr h 1⟩)

set_option maxHeartbeats 1000000 in
theorem q_demand {S1 S2 S3 S4 S5 S6 : SS} {T : TS} {sv : Int32} {M : MS} {st n t le : Nat} (h : RO S2 S3 S4 S5 S6 T sv M st n t le) (x : Int32) : Q2 iob (A_X4_demand_t S1 S2 S3 S4 S5 S6 T sv x) ((A_X5_demand_s0 M x).1 2) (A_X4_demand_r S1 S2 S3 S4 S5 S6 T sv x = A_X5_demand_r M x) (ROE S2 S3 S4 S5 S6 T sv (A_X5_demand_s0 M x)) (ROE S2 S3 S4 S5 S6 T sv (A_X5_demand_s0 M x)) := by
  obtain ⟨Z, hR, h23, ht, hn6⟩ := RO_w h
  obtain ⟨hC, hM, hB, -, -⟩ := id hR
  obtain ⟨z7, -, z8, z0, z1, z2, z4, z5, z6, z13, zdd, zdc, zle⟩ := id hB
  have hww := fun i k hi hk => Rl_ww hR (by omega) i k hi hk
  have w0 := hww 0 0 (by omega) rfl
  have w1 := hww 1 1 (by omega) rfl
  have w3 := hww 3 3 (by omega) rfl
  have s0 : S2.1 0 = nI (Z 0) := Rl_i hR 0 0 (by omega) rfl
  have s1 : S2.1 1 = nI (Z 1) := Rl_i hR 1 1 (by omega) rfl
  have s2 : S2.1 2 = nI (Z 2) := Rl_i hR 2 2 (by omega) rfl
  have s3 : S2.1 3 = nI (Z 3) := Rl_i hR 3 3 (by omega) rfl
  have c1 : m_in x.toInt64 0 23 = c_in x 0 23 := m_c_in x 0 23 rfl rfl
  simp only [A_X4_demand_t, A_X4_demand_r, A_X5_demand_r, A_X5_demand_s0, c1]
  by_cases e1 : c_in x 0 23 = true
  · simp only [if_pos e1]
    obtain ⟨j, -, hj, rfl⟩ := c_in_t (a := 0) (b := 23) e1 rfl rfl (by omega) (by omega)
    have hin : ¬ nI j < 0 ∧ ¬ (24 : Int32) ≤ nI j := ⟨nI_pos (by omega), nI_ge (b := 24) (by omega) (by omega)⟩
    have hcl : (nI j).toNatClampNeg = j := nI_clamp (by omega)
    unfold s_dem
    rw [if_pos hin, hcl]
    exact Or.inl ⟨rfl, rfl, by rw [hM _ (zd_d (by omega)), zC_d hC (by omega), lN_i], RO_thr h 0⟩
  · simp only [if_neg e1]
    exact Or.inr ⟨rfl, rfl, RO_thr h 1⟩

set_option maxHeartbeats 1000000 in
theorem q_setting {S1 S2 S3 S4 S5 S6 : SS} {T : TS} {sv : Int32} {M : MS} {st n t le : Nat} (h : RO S2 S3 S4 S5 S6 T sv M st n t le) (x : Int32) : Q2 iae (A_X4_setting_t S1 S2 S3 S4 S5 S6 T sv x) ((A_X5_setting_s0 M x).1 2) (A_X4_setting_r S1 S2 S3 S4 S5 S6 T sv x = A_X5_setting_r M x) (ROE S2 S3 S4 S5 S6 T sv (A_X5_setting_s0 M x)) (ROE S2 S3 S4 S5 S6 T sv (A_X5_setting_s0 M x)) := by
  obtain ⟨Z, hR, h23, ht, hn6⟩ := RO_w h
  obtain ⟨hC, hM, hB, -, -⟩ := id hR
  obtain ⟨z7, -, z8, z0, z1, z2, z4, z5, z6, z13, zdd, zdc, zle⟩ := id hB
  have hww := fun i k hi hk => Rl_ww hR (by omega) i k hi hk
  have w0 := hww 0 0 (by omega) rfl
  have w1 := hww 1 1 (by omega) rfl
  have w3 := hww 3 3 (by omega) rfl
  have s0 : S2.1 0 = nI (Z 0) := Rl_i hR 0 0 (by omega) rfl
  have s1 : S2.1 1 = nI (Z 1) := Rl_i hR 1 1 (by omega) rfl
  have s2 : S2.1 2 = nI (Z 2) := Rl_i hR 2 2 (by omega) rfl
  have s3 : S2.1 3 = nI (Z 3) := Rl_i hR 3 3 (by omega) rfl
  have c1 : m_in x.toInt64 0 2 = c_in x 0 2 := m_c_in x 0 2 rfl rfl
  simp only [A_X4_setting_t, A_X4_setting_r, A_X5_setting_r, A_X5_setting_s0, c1]
  by_cases e1 : c_in x 0 2 = true
  · simp only [if_pos e1]
    obtain ⟨j, -, hj, rfl⟩ := c_in_t (a := 0) (b := 2) e1 rfl rfl (by omega) (by omega)
    have hin : ¬ nI j < 0 ∧ ¬ (3 : Int32) ≤ nI j := ⟨nI_pos (by omega), nI_ge (b := 3) (by omega) (by omega)⟩
    have hcl : (nI j).toNatClampNeg = j := nI_clamp (by omega)
    unfold s_set
    rw [if_pos hin, hcl]
    exact Or.inl ⟨rfl, rfl, by rw [hM _ (zd_lo (by omega)), zC_s hC (by omega), lN_i], RO_thr h 0⟩
  · simp only [if_neg e1]
    exact Or.inr ⟨rfl, rfl, RO_thr h 1⟩

set_option maxHeartbeats 1000000 in
theorem q_water {S1 S2 S3 S4 S5 S6 : SS} {T : TS} {sv : Int32} {M : MS} {st n t le : Nat} (h : RO S2 S3 S4 S5 S6 T sv M st n t le) (x : Int32) : Q2 iae (A_X4_water_t S1 S2 S3 S4 S5 S6 T sv x) ((A_X5_water_s0 M x).1 2) (A_X4_water_r S1 S2 S3 S4 S5 S6 T sv x = A_X5_water_r M x) (ROE S2 S3 S4 S5 S6 T sv (A_X5_water_s0 M x)) (ROE S2 S3 S4 S5 S6 T sv (A_X5_water_s0 M x)) := by
  obtain ⟨Z, hR, h23, ht, hn6⟩ := RO_w h
  obtain ⟨hC, hM, hB, -, -⟩ := id hR
  obtain ⟨z7, -, z8, z0, z1, z2, z4, z5, z6, z13, zdd, zdc, zle⟩ := id hB
  have hww := fun i k hi hk => Rl_ww hR (by omega) i k hi hk
  have w0 := hww 0 0 (by omega) rfl
  have w1 := hww 1 1 (by omega) rfl
  have w3 := hww 3 3 (by omega) rfl
  have s0 : S2.1 0 = nI (Z 0) := Rl_i hR 0 0 (by omega) rfl
  have s1 : S2.1 1 = nI (Z 1) := Rl_i hR 1 1 (by omega) rfl
  have s2 : S2.1 2 = nI (Z 2) := Rl_i hR 2 2 (by omega) rfl
  have s3 : S2.1 3 = nI (Z 3) := Rl_i hR 3 3 (by omega) rfl
  have c1 : m_in x.toInt64 0 4 = c_in x 0 4 := m_c_in x 0 4 rfl rfl
  simp only [A_X4_water_t, A_X4_water_r, A_X5_water_r, A_X5_water_s0, c1]
  by_cases e1 : c_in x 0 4 = true
  · simp only [if_pos e1]
    obtain ⟨j, -, hj, rfl⟩ := c_in_t (a := 0) (b := 4) e1 rfl rfl (by omega) (by omega)
    have hin : ¬ nI j < 0 ∧ ¬ (5 : Int32) ≤ nI j := ⟨nI_pos (by omega), nI_ge (b := 5) (by omega) (by omega)⟩
    have hcl : (nI j).toNatClampNeg = j := nI_clamp (by omega)
    unfold s_wat
    rw [if_pos hin, hcl]
    exact Or.inl ⟨rfl, rfl, (hR.2.2.2.2.2.1 j (by omega)).symm, RO_thr h 0⟩
  · simp only [if_neg e1]
    exact Or.inr ⟨rfl, rfl, RO_thr h 1⟩

set_option maxHeartbeats 1000000 in
theorem q_nightLeak {S1 S2 S3 S4 S5 S6 : SS} {T : TS} {sv : Int32} {M : MS} {st n t le : Nat} (h : RO S2 S3 S4 S5 S6 T sv M st n t le)  : Q2 ise (A_X4_nightLeak_t S1 S2 S3 S4 S5 S6 T sv) ((A_X5_nightLeak_s0 M).1 2) (A_X4_nightLeak_r S1 S2 S3 S4 S5 S6 T sv = A_X5_nightLeak_r M) (ROE S2 S3 S4 S5 S6 T sv (A_X5_nightLeak_s0 M)) (ROE S2 S3 S4 S5 S6 T sv (A_X5_nightLeak_s0 M)) := by
  obtain ⟨Z, hR, h23, ht, hn6⟩ := RO_w h
  obtain ⟨hC, hM, hB, -, -⟩ := id hR
  obtain ⟨z7, -, z8, z0, z1, z2, z4, z5, z6, z13, zdd, zdc, zle⟩ := id hB
  have hww := fun i k hi hk => Rl_ww hR (by omega) i k hi hk
  have w0 := hww 0 0 (by omega) rfl
  have w1 := hww 1 1 (by omega) rfl
  have w3 := hww 3 3 (by omega) rfl
  have s0 : S2.1 0 = nI (Z 0) := Rl_i hR 0 0 (by omega) rfl
  have s1 : S2.1 1 = nI (Z 1) := Rl_i hR 1 1 (by omega) rfl
  have s2 : S2.1 2 = nI (Z 2) := Rl_i hR 2 2 (by omega) rfl
  have s3 : S2.1 3 = nI (Z 3) := Rl_i hR 3 3 (by omega) rfl
  have z11 := zle 11 (zd_lo (by omega))
  have c1 : (S2.1 7 = 0) ↔ Z 11 = 0 := by
    rw [Rl_i hR 7 11 (by omega) rfl]
    exact nI_eq (b := 0) (by omega) (by omega)
  have c2 : (M.2.1 0 11 = 0) ↔ Z 11 = 0 := by
    rw [Rl_w hR 11 (by omega)]
    exact lN_eq (b := 0) (by omega) (by omega)
  simp only [A_X4_nightLeak_t, A_X4_nightLeak_r, A_X5_nightLeak_r, A_X5_nightLeak_s0, c1, c2]
  by_cases e1 : Z 11 = 0
  · simp only [if_pos e1]
    exact Or.inr ⟨rfl, rfl, RO_thr h 1⟩
  · simp only [if_neg e1]
    exact Or.inl ⟨rfl, rfl, hR.2.2.2.2.1.symm, RO_thr h 0⟩

theorem m_log_in {m : Nat} (hm : m ≤ 12) (x : Int32) : m_in x.toInt64 0 (lN m - 1) = c_in x 0 (nI m - 1) := by
  unfold m_in c_in
  refine decide_eq_decide.mpr ?_
  have h1 : (lN m - 1).toInt = (m : Int) - 1 := lN_sub_toInt (a := m) (b := 1) (by omega) (by omega)
  have h2 : (nI m - 1).toInt = (m : Int) - 1 := pk_sub_toInt (a := m) (b := 1) (by omega) (by omega)
  rw [Int64.lt_iff_toInt_lt, Int64.lt_iff_toInt_lt, Int32.lt_iff_toInt_lt, Int32.lt_iff_toInt_lt, Int32.toInt_toInt64, h1, h2]
  exact Iff.rfl
theorem c_log_in {m : Nat} (hm : m ≤ 12) {x : Int32} (h : c_in x 0 (nI m - 1) = true) : ∃ i, i < m ∧ x = nI i := by
  unfold c_in at h
  rw [decide_eq_true_eq] at h
  obtain ⟨i, hi, rfl⟩ := nI_of h.1
  have h2 : (nI m - 1).toInt = (m : Int) - 1 := pk_sub_toInt (a := m) (b := 1) (by omega) (by omega)
  have h3 := h.2
  rw [Int32.lt_iff_toInt_lt, h2, nI_toInt hi] at h3
  exact ⟨i, by omega, rfl⟩

set_option maxHeartbeats 1000000 in
theorem q_entry {S1 S2 S3 S4 S5 S6 : SS} {T : TS} {sv : Int32} {M : MS} {st n t le : Nat} (h : RO S2 S3 S4 S5 S6 T sv M st n t le) (x y : Int32) : Q3 iob iae (A_X4_entry_t S1 S2 S3 S4 S5 S6 T sv x y) ((A_X5_entry_s0 M x y).1 2) (A_X4_entry_r S1 S2 S3 S4 S5 S6 T sv x y = A_X5_entry_r M x y) (ROE S2 S3 S4 S5 S6 T sv (A_X5_entry_s0 M x y)) (ROE S2 S3 S4 S5 S6 T sv (A_X5_entry_s0 M x y)) := by
  obtain ⟨Z, hR, h23, ht, hn6⟩ := RO_w h
  obtain ⟨hC, hM, hB, -, -⟩ := id hR
  obtain ⟨z7, -, z8, z0, z1, z2, z4, z5, z6, z13, zdd, zdc, zle⟩ := id hB
  have hww := fun i k hi hk => Rl_ww hR (by omega) i k hi hk
  have w0 := hww 0 0 (by omega) rfl
  have w1 := hww 1 1 (by omega) rfl
  have w3 := hww 3 3 (by omega) rfl
  have s0 : S2.1 0 = nI (Z 0) := Rl_i hR 0 0 (by omega) rfl
  have s1 : S2.1 1 = nI (Z 1) := Rl_i hR 1 1 (by omega) rfl
  have s2 : S2.1 2 = nI (Z 2) := Rl_i hR 2 2 (by omega) rfl
  have s3 : S2.1 3 = nI (Z 3) := Rl_i hR 3 3 (by omega) rfl
  have c2 : m_in y.toInt64 0 2 = c_in y 0 2 := m_c_in y 0 2 rfl rfl
  have s9 : S2.1 9 = nI (Z 13) := Rl_i hR 9 13 (by omega) rfl
  have w13 : M.2.1 0 13 = lN (Z 13) := hM 13 zd_13
  simp only [A_X4_entry_t, A_X4_entry_r, A_X5_entry_r, A_X5_entry_s0, c2, s9, w13, m_log_in z13]
  by_cases e1 : c_in x 0 (nI (Z 13) - 1) = true
  · by_cases e2 : c_in y 0 2 = true
    · simp only [if_pos e1, if_pos e2]
      obtain ⟨i, hi, rfl⟩ := c_log_in z13 e1
      obtain ⟨j, -, hj, rfl⟩ := c_in_t (a := 0) (b := 2) e2 rfl rfl (by omega) (by omega)
      have hcl : (nI i).toNatClampNeg = i := nI_clamp (by omega)
      have hcl2 : (nI j).toNatClampNeg = j := nI_clamp (by omega)
      have hcl3 : (nI (3 * i + j)).toNatClampNeg = 3 * i + j := nI_clamp (by omega)
      unfold b_part
      rw [k_t3, if_pos ⟨nI_pos (by omega), nI_ge (b := 36) (by omega) (by omega)⟩, hcl3, hcl, hcl2]
      exact Or.inl ⟨rfl, rfl, by rw [show 102 + 3 * i + j = 102 + (3 * i + j) by omega, hM _ (zd_l (by omega)), zC_l hC (by omega), lN_i], RO_thr h 0⟩
    · simp only [if_pos e1, if_neg e2]
      exact Or.inr (Or.inr ⟨rfl, rfl, RO_thr h 2⟩)
  · simp only [if_neg e1, ite_self]
    exact Or.inr (Or.inl ⟨rfl, rfl, RO_thr h 1⟩)

set_option maxHeartbeats 1000000 in
theorem q_levelIn {S1 S2 S3 S4 S5 S6 : SS} {T : TS} {sv : Int32} {M : MS} {st n t le : Nat} (h : RO S2 S3 S4 S5 S6 T sv M st n t le) (x : Int32) : Q2 iae (A_X4_levelIn_t S1 S2 S3 S4 S5 S6 T sv n x) ((A_X5_levelIn_s0 M n t x).1 2) (A_X4_levelIn_r S1 S2 S3 S4 S5 S6 T sv n x = A_X5_levelIn_r M n t x) (ROE S2 S3 S4 S5 S6 T sv (A_X5_levelIn_s0 M n t x)) (ROE S2 S3 S4 S5 S6 T sv (A_X5_levelIn_s0 M n t x)) := by
  obtain ⟨Z, hR, h23, ht, hn6⟩ := RO_w h
  obtain ⟨hC, hM, hB, -, -⟩ := id hR
  obtain ⟨z7, -, z8, z0, z1, z2, z4, z5, z6, z13, zdd, zdc, zle⟩ := id hB
  have hww := fun i k hi hk => Rl_ww hR (by omega) i k hi hk
  have w0 := hww 0 0 (by omega) rfl
  have w1 := hww 1 1 (by omega) rfl
  have w3 := hww 3 3 (by omega) rfl
  have s0 : S2.1 0 = nI (Z 0) := Rl_i hR 0 0 (by omega) rfl
  have s1 : S2.1 1 = nI (Z 1) := Rl_i hR 1 1 (by omega) rfl
  have s2 : S2.1 2 = nI (Z 2) := Rl_i hR 2 2 (by omega) rfl
  have s3 : S2.1 3 = nI (Z 3) := Rl_i hR 3 3 (by omega) rfl
  have c1 : m_in x.toInt64 0 1440 = c_in x 0 1440 := m_c_in x 0 1440 rfl rfl
  simp only [A_X4_levelIn_t, A_X4_levelIn_r, A_X5_levelIn_r, A_X5_levelIn_s0, c1]
  by_cases e1 : c_in x 0 1440 = true
  · simp only [if_pos e1]
    obtain ⟨k, -, hk, rfl⟩ := c_in_t (a := 0) (b := 1440) e1 rfl rfl (by omega) (by omega)
    have hcl : (nI k).toNatClampNeg = k := nI_clamp (by omega)
    rw [hcl]
    have hp := r_pass (⟨⟨Z, hR⟩, h23⟩ : RS S2 (M.2.1 0) n t) k (by omega)
    obtain ⟨a, ha, a1, a2⟩ := RS_i hp (by omega) 1 1 (by omega) rfl
    refine Or.inl ⟨rfl, rfl, ?_, ⟨st, n, t, le, h⟩⟩
    show _ = (itr (m_goB n t) k (M.2.1 0) 1).toInt32
    rw [a1, a2, lN_i]
  · simp only [if_neg e1]
    exact Or.inr ⟨rfl, rfl, RO_thr h 1⟩

set_option maxHeartbeats 1000000 in
theorem q_startsIn {S1 S2 S3 S4 S5 S6 : SS} {T : TS} {sv : Int32} {M : MS} {st n t le : Nat} (h : RO S2 S3 S4 S5 S6 T sv M st n t le) (x y : Int32) : Q3 iob iae (A_X4_startsIn_t S1 S2 S3 S4 S5 S6 T sv n x y) ((A_X5_startsIn_s0 M n t x y).1 2) (A_X4_startsIn_r S1 S2 S3 S4 S5 S6 T sv n x y = A_X5_startsIn_r M n t x y) (ROE S2 S3 S4 S5 S6 T sv (A_X5_startsIn_s0 M n t x y)) (ROE S2 S3 S4 S5 S6 T sv (A_X5_startsIn_s0 M n t x y)) := by
  obtain ⟨Z, hR, h23, ht, hn6⟩ := RO_w h
  obtain ⟨hC, hM, hB, -, -⟩ := id hR
  obtain ⟨z7, -, z8, z0, z1, z2, z4, z5, z6, z13, zdd, zdc, zle⟩ := id hB
  have hww := fun i k hi hk => Rl_ww hR (by omega) i k hi hk
  have w0 := hww 0 0 (by omega) rfl
  have w1 := hww 1 1 (by omega) rfl
  have w3 := hww 3 3 (by omega) rfl
  have s0 : S2.1 0 = nI (Z 0) := Rl_i hR 0 0 (by omega) rfl
  have s1 : S2.1 1 = nI (Z 1) := Rl_i hR 1 1 (by omega) rfl
  have s2 : S2.1 2 = nI (Z 2) := Rl_i hR 2 2 (by omega) rfl
  have s3 : S2.1 3 = nI (Z 3) := Rl_i hR 3 3 (by omega) rfl
  have w7 : M.2.1 0 7 = lN n := by rw [Rl_w hR 7 (by omega), z7]
  have s8 : S2.1 8 = nI n := by rw [Rl_i hR 8 7 (by omega) rfl, z7]
  have hisP : ∀ x, m_isP (M.2.1 0) x = p_has S2 x := fun x => isP_eq s8 w7 hn6 x
  have c1 : m_in y.toInt64 0 1440 = c_in y 0 1440 := m_c_in y 0 1440 rfl rfl
  simp only [A_X4_startsIn_t, A_X4_startsIn_r, A_X5_startsIn_r, A_X5_startsIn_s0, c1, hisP]
  by_cases e1 : p_has S2 x = true
  · by_cases e2 : c_in y 0 1440 = true
    · simp only [if_pos e1, if_pos e2]
      obtain ⟨p, hp9, rfl⟩ := p_hasN e1 s8 hn6
      obtain ⟨k, -, hk, rfl⟩ := c_in_t (a := 0) (b := 1440) e2 rfl rfl (by omega) (by omega)
      have hcl : (nI k).toNatClampNeg = k := nI_clamp (by omega)
      have hcl2 : (nI p).toNatClampNeg = p := nI_clamp (by omega)
      rw [hcl, hcl2]
      have hRS : RS S2 (M.2.1 0) n t := ⟨⟨Z, hR⟩, h23⟩
      have hp := r_pass hRS k (by omega)
      obtain ⟨a, ha, a1, a2⟩ := RS_pv hp (by omega) 7 4 p rfl (by omega) (by omega)
      obtain ⟨b, hb, b1, b2⟩ := RS_pv hRS (by omega) 7 4 p rfl (by omega) (by omega)
      refine Or.inl ⟨rfl, rfl, ?_, ⟨st, n, t, le, h⟩⟩
      show _ = (itr (m_goB n t) k (M.2.1 0) (48 + 8 * p + 4) - M.2.1 0 (48 + 8 * p + 4)).toInt32
      rw [a1, a2, b1, b2, l_sub_i, lN_i, lN_i]
    · simp only [if_pos e1, if_neg e2]
      exact Or.inr (Or.inr ⟨rfl, rfl, RO_thr h 2⟩)
  · simp only [if_neg e1, ite_self]
    exact Or.inr (Or.inl ⟨rfl, rfl, RO_thr h 1⟩)

theorem place_eq {S : SS} {w : Nat → Int64} {Z : Nat → Nat} {n t b : Nat} (hR : Rl S w Z n t b) {p : Nat} (hp : p < n) : S.2.2.1 5 p = nI (m_place w (nI p)) := by
  obtain ⟨-, -, hB, hO, -⟩ := hR
  have hn6 := hB.2.1
  obtain ⟨k, hk1, hk2, hk3⟩ := hO.2 p hp
  have hf : m_place w (nI p) = k := by
    unfold m_place
    refine frst_some (p := m_placeP w (nI p)) ?_ (fun j hj => ?_) (by omega)
    · unfold m_placeP; rw [hk3, nI_l (by omega)]; exact decide_eq_true rfl
    · unfold m_placeP
      refine decide_eq_false (fun q => ?_)
      obtain ⟨q', h1, h2, h3⟩ := hO.1 j (by omega)
      rw [h2, nI_l (by omega)] at q
      have e := (lN_eq (by omega) (by omega)).mp q
      subst e
      rw [hk2] at h3
      have := (nI_eq (by omega) (by omega)).mp h3
      omega
  rw [hf, hk2]
theorem fact_eq {S : SS} {w : Nat → Int64} {Z : Nat → Nat} {n t b : Nat} (hR : Rl S w Z n t b) {p v : Nat} (hp : p < n) (hv : v ≤ 7) (M : MS) (hM9 : M.2.1 0 = w) : p_fact S (nI p) (nI v) = A_X5_pumpValue_r M (nI p) v := by
  obtain ⟨hC, hM, hB, hO, -⟩ := id hR
  have hn6 := hB.2.1
  have h8 : S.1 8 = nI n := by rw [Rl_i hR 8 7 (by omega) rfl, hB.1]
  have hh : p_has S (nI p) = true := by
    unfold p_has
    rw [h8]
    exact decide_eq_true ⟨nI_pos (by omega), nI_ge hp (by omega)⟩
  have hcl : (nI p).toNatClampNeg = p := nI_clamp (by omega)
  unfold p_fact A_X5_pumpValue_r
  rw [if_pos hh, hcl, hM9]
  have hr : ∀ a f, pj f = a → f < 7 → S.2.2.1 a p = (w (48 + 8 * p + f)).toInt32 := fun a f ha hf => by
    rw [zC_p hC a f ha (by omega) hf, hM _ (zd_p (by omega) hf), lN_i]
  have hv9 : v = 0 ∨ v = 1 ∨ v = 2 ∨ v = 3 ∨ v = 4 ∨ v = 5 ∨ v = 6 ∨ v = 7 := by omega
  rcases hv9 with e | e | e | e | e | e | e | e <;> subst e
  · exact hr 2 0 rfl (by omega)
  · exact hr 3 1 rfl (by omega)
  · exact hr 4 2 rfl (by omega)
  · exact place_eq hR hp
  · exact hr 6 3 rfl (by omega)
  · exact hr 7 4 rfl (by omega)
  · exact hr 8 5 rfl (by omega)
  · exact hr 9 6 rfl (by omega)

set_option maxHeartbeats 1000000 in
theorem q_pump {S1 S2 S3 S4 S5 S6 : SS} {T : TS} {sv : Int32} {M : MS} {st n t le : Nat} (h : RO S2 S3 S4 S5 S6 T sv M st n t le) (x y : Int32) : Q3 iob iae (A_X4_pump_t S1 S2 S3 S4 S5 S6 T sv n x y) ((A_X5_pump_s0 M x y).1 2) (A_X4_pump_r S1 S2 S3 S4 S5 S6 T sv n x y = A_X5_pump_r M x y) (ROE S2 S3 S4 S5 S6 T sv (A_X5_pump_s0 M x y)) (ROE S2 S3 S4 S5 S6 T sv (A_X5_pump_s0 M x y)) := by
  obtain ⟨Z, hR, h23, ht, hn6⟩ := RO_w h
  obtain ⟨hC, hM, hB, -, -⟩ := id hR
  obtain ⟨z7, -, z8, z0, z1, z2, z4, z5, z6, z13, zdd, zdc, zle⟩ := id hB
  have hww := fun i k hi hk => Rl_ww hR (by omega) i k hi hk
  have w0 := hww 0 0 (by omega) rfl
  have w1 := hww 1 1 (by omega) rfl
  have w3 := hww 3 3 (by omega) rfl
  have s0 : S2.1 0 = nI (Z 0) := Rl_i hR 0 0 (by omega) rfl
  have s1 : S2.1 1 = nI (Z 1) := Rl_i hR 1 1 (by omega) rfl
  have s2 : S2.1 2 = nI (Z 2) := Rl_i hR 2 2 (by omega) rfl
  have s3 : S2.1 3 = nI (Z 3) := Rl_i hR 3 3 (by omega) rfl
  have w7 : M.2.1 0 7 = lN n := by rw [Rl_w hR 7 (by omega), z7]
  have s8 : S2.1 8 = nI n := by rw [Rl_i hR 8 7 (by omega) rfl, z7]
  have hisP : ∀ x, m_isP (M.2.1 0) x = p_has S2 x := fun x => isP_eq s8 w7 hn6 x
  have c2 : m_in y.toInt64 0 7 = c_in y 0 7 := m_c_in y 0 7 rfl rfl
  simp only [A_X4_pump_t, A_X4_pump_r, A_X5_pump_r, A_X5_pump_s0, c2, hisP]
  by_cases e1 : p_has S2 x = true
  · by_cases e2 : c_in y 0 7 = true
    · simp only [if_pos e1, if_pos e2]
      obtain ⟨p, hp, rfl⟩ := p_hasN e1 s8 hn6
      obtain ⟨v, -, hv, rfl⟩ := c_in_t (a := 0) (b := 7) e2 rfl rfl (by omega) (by omega)
      have hcl : (nI v).toNatClampNeg = v := nI_clamp (by omega)
      exact Or.inl ⟨rfl, rfl, by rw [hcl]; exact fact_eq hR hp hv _ rfl, RO_thr h 0⟩
    · simp only [if_pos e1, if_neg e2]
      exact Or.inr (Or.inr ⟨rfl, rfl, RO_thr h 2⟩)
  · simp only [if_neg e1, ite_self]
    exact Or.inr (Or.inl ⟨rfl, rfl, RO_thr h 1⟩)

theorem lead_eq {S : SS} {w : Nat → Int64} {Z : Nat → Nat} {n t b : Nat} (hR : Rl S w Z n t b) : (p_lead S n).toInt64 = if w 7 = 0 then -1 else w 96 := by
  obtain ⟨-, -, hB, hO, -⟩ := id hR
  have hn6 := hB.2.1
  have w7 : w 7 = lN n := by rw [Rl_w hR 7 (by omega), hB.1]
  have c : (lN n = 0) ↔ n = 0 := lN_eq (b := 0) (by omega) (by omega)
  rw [w7]
  unfold p_lead p_leadAt
  by_cases e : n = 0
  · subst e
    rw [if_pos (c.mpr rfl), if_neg (Nat.not_lt_zero _)]
    decide
  · rw [if_neg (fun q => e (c.mp q))]
    obtain ⟨q, h1, h2, h3⟩ := hO.1 0 (by omega)
    have hf : frst (fun k => decide (S.2.2.1 5 k = 0)) n = q := by
      refine frst_some (p := fun k => decide (S.2.2.1 5 k = 0)) (decide_eq_true h3) (fun j hj => decide_eq_false (fun q9 => ?_)) h1
      obtain ⟨k, g1, g2, g3⟩ := hO.2 j (by omega)
      rw [q9] at g2
      have ek : k = 0 := ((nI_eq (a := 0) (by omega) (by omega)).mp g2).symm
      subst ek
      rw [h2] at g3
      have := (lN_eq (by omega) (by omega)).mp g3
      omega
    rw [hf, if_pos h1, show (96 : Nat) = 96 + 0 from rfl, h2, nI_l (by omega)]
theorem one_eq {S : SS} {w : Nat → Int64} {Z : Nat → Nat} {n t b : Nat} (hR : Rl S w Z n t b) (hb : b < 2 ^ 30) {v : Nat} (hv : v ≤ 13) (M : MS) (hM9 : M.2.1 0 = w) : A_X5_one_r M n (nI v) = (s_num S n (nI v)).toInt64 := by
  obtain ⟨hC, hM, hB, hO, -⟩ := id hR
  have hn6 := hB.2.1
  have hz : ∀ k, zd k → Z k ≤ b := fun k hk => zB_le hB hk
  have ht := (Rl_t hR).2
  have hww := fun i k hi hk => Rl_ww hR hb i k hi hk
  unfold A_X5_one_r s_num
  rw [hM9]
  have hv9 : v = 0 ∨ v = 1 ∨ v = 2 ∨ v = 3 ∨ v = 4 ∨ v = 5 ∨ v = 6 ∨ v = 7 ∨ v = 8 ∨ v = 9 ∨ v = 10 ∨ v = 11 ∨ v = 12 ∨ v = 13 := by omega
  rcases hv9 with e | e | e | e | e | e | e | e | e | e | e | e | e | e <;> subst e
  · exact hww 0 0 (by omega) rfl
  · exact hww 1 1 (by omega) rfl
  · exact hww 2 2 (by omega) rfl
  · exact hww 3 3 (by omega) rfl
  · exact hww 8 7 (by omega) rfl
  · show (m_many w n (nI 1)).toInt64 = (p_count S n (nI 1)).toInt64
    rw [m_manyN hM (by omega) hz 1 (by omega) n hn6, p_countN hC (by omega) hz 1 (by omega) n hn6]
  · show (m_many w n (nI 2)).toInt64 = (p_count S n (nI 2)).toInt64
    rw [m_manyN hM (by omega) hz 2 (by omega) n hn6, p_countN hC (by omega) hz 2 (by omega) n hn6]
  · exact hww 4 8 (by omega) rfl
  · show w 8 / 60 - w 8 / 60 / 24 * 24 = (s_hour S).toInt64
    unfold s_hour
    rw [(Rl_t hR).1, Rl_w hR 8 (by omega), hB.2.2.1, show (60 : Int32) = nI 60 from rfl, show (24 : Int32) = nI 24 from rfl, show (60 : Int64) = lN 60 from rfl, show (24 : Int64) = lN 24 from rfl, pk_div (by omega) (by omega) (by omega), pk_rem (by omega) (by omega) (by omega), pk_lDiv (by omega) (by omega) (by omega), pk_lRem (by omega) (by omega) (by omega), nI_l (by omega)]
  · exact hww 5 9 (by omega) rfl
  · exact hww 6 10 (by omega) rfl
  · exact (lead_eq hR).symm
  · exact hww 7 11 (by omega) rfl
  · exact hww 9 13 (by omega) rfl

set_option maxHeartbeats 1000000 in
theorem q_value {S1 S2 S3 S4 S5 S6 : SS} {T : TS} {sv : Int32} {M : MS} {st n t le : Nat} (h : RO S2 S3 S4 S5 S6 T sv M st n t le) (x : Int32) : Q2 iae (A_X4_value_t S1 S2 S3 S4 S5 S6 T sv n x) ((A_X5_value_s0 M n x).1 2) (A_X4_value_r S1 S2 S3 S4 S5 S6 T sv n x = A_X5_value_r M n x) (ROE S2 S3 S4 S5 S6 T sv (A_X5_value_s0 M n x)) (ROE S2 S3 S4 S5 S6 T sv (A_X5_value_s0 M n x)) := by
  obtain ⟨Z, hR, h23, ht, hn6⟩ := RO_w h
  obtain ⟨hC, hM, hB, -, -⟩ := id hR
  obtain ⟨z7, -, z8, z0, z1, z2, z4, z5, z6, z13, zdd, zdc, zle⟩ := id hB
  have hww := fun i k hi hk => Rl_ww hR (by omega) i k hi hk
  have w0 := hww 0 0 (by omega) rfl
  have w1 := hww 1 1 (by omega) rfl
  have w3 := hww 3 3 (by omega) rfl
  have s0 : S2.1 0 = nI (Z 0) := Rl_i hR 0 0 (by omega) rfl
  have s1 : S2.1 1 = nI (Z 1) := Rl_i hR 1 1 (by omega) rfl
  have s2 : S2.1 2 = nI (Z 2) := Rl_i hR 2 2 (by omega) rfl
  have s3 : S2.1 3 = nI (Z 3) := Rl_i hR 3 3 (by omega) rfl
  have c1 : m_in x.toInt64 0 13 = c_in x 0 13 := m_c_in x 0 13 rfl rfl
  simp only [A_X4_value_t, A_X4_value_r, A_X5_value_r, A_X5_value_s0, c1]
  by_cases e1 : c_in x 0 13 = true
  · simp only [if_pos e1]
    obtain ⟨j, -, hj, rfl⟩ := c_in_t (a := 0) (b := 13) e1 rfl rfl (by omega) (by omega)
    exact Or.inl ⟨rfl, rfl, by rw [one_eq hR (by omega) hj (o_setI M 2 0) rfl, w_i], RO_thr h 0⟩
  · simp only [if_neg e1]
    exact Or.inr ⟨rfl, rfl, RO_thr h 1⟩

set_option maxHeartbeats 1000000 in
theorem q_append {S1 S2 S3 S4 S5 S6 : SS} {T : TS} {sv : Int32} {M : MS} {st n t le : Nat} (h : RO S2 S3 S4 S5 S6 T sv M st n t le) (x : Int32) : Q3 iae ise (A_X4_append_t S1 S2 S3 S4 S5 S6 T sv x) ((A_X5_append_s0 M le x).1 2) (A_X4_append_r S1 S2 S3 S4 S5 S6 T sv x = A_X5_append_r M le x) (ROE S2 S3 S4 S5 S6 (A_X4_append_s7 S1 S2 S3 S4 S5 S6 T sv x) sv (A_X5_append_s0 M le x)) (ROE S2 S3 S4 S5 S6 T sv (A_X5_append_s0 M le x)) := by
  obtain ⟨a, b, c, d1, d2, d3, d4⟩ := id h
  have c1 : m_in x.toInt64 0 127 = c_in x 0 127 := m_c_in x 0 127 rfl rfl
  have c2 : (nI le = 100) ↔ ¬ le < 100 := (nI_eq (b := 100) (by omega) (by omega)).trans (by omega)
  have c3 : (nI le < 100) ↔ le < 100 := nI_ltI (b := 100) (by omega) (by omega)
  simp only [A_X4_append_t, A_X4_append_r, A_X4_append_s7, A_X5_append_r, A_X5_append_s0, c1, d1, d2, c2, c3]
  by_cases e1 : c_in x 0 127 = true
  · by_cases e2 : le < 100
    · simp only [if_pos e1, if_pos e2, if_neg (not_not_intro e2)]
      have hin : ¬ T.1 0 < 0 ∧ ¬ (100 : Int32) ≤ T.1 0 := by
        rw [d1]
        exact ⟨nI_pos (by omega), nI_ge (b := 100) e2 (by omega)⟩
      have hcl : (nI le).toNatClampNeg = le := nI_clamp (by omega)
      unfold t_add
      rw [if_pos hin, d1, hcl]
      refine Or.inl ⟨rfl, rfl, rfl, ⟨st, n, t, le + 1, a, b, c, nI_1 le, nI_1 le, by omega, fun i hi => ?_⟩⟩
      show upd (T.2 0) le x i = upd (M.2.2 0) le x i
      unfold upd
      split
      · rfl
      · exact d4 i hi
    · simp only [if_pos e1, if_neg e2, if_pos e2]
      exact Or.inr (Or.inr ⟨rfl, rfl, RO_thr h 2⟩)
  · simp only [if_neg e1, ite_self]
    exact Or.inr (Or.inl ⟨rfl, rfl, RO_thr h 1⟩)

theorem q_clearText {S2 S3 S4 S5 S6 : SS} {T : TS} {sv : Int32} {M : MS} {st n t le : Nat} (h : RO S2 S3 S4 S5 S6 T sv M st n t le) : T.1 0 = A_X5_clearText_r M ∧ ROE S2 S3 S4 S5 S6 (t_setI T 0 0) sv (A_X5_clearText_s0 M) := by
  obtain ⟨a, b, c, d1, d2, d3, d4⟩ := id h
  exact ⟨d1.trans d2.symm, st, n, t, 0, a, b, c, rfl, rfl, by omega, d4⟩
theorem q_undo {S1 S2 S3 S4 S5 S6 : SS} {T : TS} {sv : Int32} {M : MS} {st n t le : Nat} (h : RO S2 S3 S4 S5 S6 T sv M st n t le) : Q2 ise (A_X4_undo_t S1 S2 S3 S4 S5 S6 T sv) ((o_undo M st).1 2) (A_X4_undo_r S1 S2 S3 S4 S5 S6 T sv = if M.1 0 = 0 then 0 else M.1 0 - 1) (ROE (A_X4_undo_s2 S1 S2 S3 S4 S5 S6 T sv) (A_X4_undo_s3 S1 S2 S3 S4 S5 S6 T sv) (A_X4_undo_s4 S1 S2 S3 S4 S5 S6 T sv) (A_X4_undo_s5 S1 S2 S3 S4 S5 S6 T sv) S6 T (A_X4_undo_s0 S1 S2 S3 S4 S5 S6 T sv) (o_undo M st)) (ROE S2 S3 S4 S5 S6 T sv (o_undo M st)) := by
  obtain ⟨⟨a1, a2, a3⟩, b, c, d⟩ := id h
  subst a1
  simp only [A_X4_undo_t, A_X4_undo_r, A_X4_undo_s0, A_X4_undo_s2, A_X4_undo_s3, A_X4_undo_s4, A_X4_undo_s5, o_undo, a2]
  by_cases e : st = 0
  · subst e
    have e1 : nI 0 = 0 := rfl
    simp only [if_pos e1]
    exact Or.inr ⟨rfl, rfl, RO_thr h 1⟩
  · have e1 : ¬ nI st = 0 := fun q => e ((nI_eq (b := 0) (by omega) (by omega)).mp q)
    simp only [if_neg e1]
    have e2 : nI st - 1 = nI (st - 1) := pk_sub (b := 1) (by omega)
    obtain ⟨n', t', ht', hr⟩ := c 0 (by omega)
    refine Or.inl ⟨rfl, rfl, by first | rfl | trivial, ⟨st - 1, n', t', le, ⟨e2, e2, by omega⟩, ⟨RS_w hr (fun k hk => ?_), ht'⟩, fun j hj => ?_, d⟩⟩
    · show M.2.1 2 (138 * (st - 1) + k) = M.2.1 2 (138 * (st - 1 - 0) + k)
      rw [Nat.sub_zero]
    · obtain ⟨n2, t2, ht2, hr2⟩ := c (j + 1) (by omega)
      have hF : sj S4 S5 S6 S6 j = sj S3 S4 S5 S6 (j + 1) := by
        have : j = 0 ∨ j = 1 ∨ j = 2 := by omega
        rcases this with e | e | e <;> subst e <;> rfl
      rw [hF]
      refine ⟨n2, t2, ht2, RS_w hr2 (fun k hk => ?_)⟩
      show M.2.1 2 (138 * (st - 1 - 1 - j) + k) = M.2.1 2 (138 * (st - 1 - (j + 1)) + k)
      rw [show st - 1 - 1 - j = st - 1 - (j + 1) by omega]
