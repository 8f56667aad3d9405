/-! MATHEMATICS: the calls that change the station -/
def Q2 (e1 : String) (th : Option String) (tm : Int32) (eqr RN R0 : Prop) : Prop := (th = none ∧ tm = 0 ∧ eqr ∧ RN) ∨ (th = some e1 ∧ tm = 1 ∧ R0)
theorem RS_of {S S' : SS} {w w' : Nat → Int64} {Z Z' : Nat → Nat} {n t : Nat} (h : Rl S w Z n t (200000 + 10 * t)) (h23 : w 23 = bg t) (hC : zC S' Z') (hM : zM w' Z') (hB : zB Z' n t (200000 + 10 * t)) (e5 : S'.2.2.1 5 = S.2.2.1 5) (eL : S'.2.1 = S.2.1) (eV : S'.2.2.2 = S.2.2.2) (ew : ∀ k, (12 ≤ k ∧ k < 24 ∧ k ≠ 13) ∨ (96 ≤ k ∧ k < 102) → w' k = w k) : RS S' w' n t := by
  obtain ⟨gC, gM, gB, gO, gL⟩ := h
  have hn6 := gB.2.1
  refine ⟨⟨Z', hC, hM, hB, by rw [e5]; exact zO_w gO (fun k hk => ew _ (by omega)), ?_⟩, (ew 23 (by omega)).trans h23⟩
  refine ⟨?_, fun j hj => ?_, ?_⟩
  · rw [eL, ew 12 (by omega)]; exact gL.1
  · rw [eV, ew _ (by omega)]; exact gL.2.1 j hj
  · rw [eL, ew 19 (by omega)]; exact gL.2.2
theorem zB_k {Z : Nat → Nat} {n t b : Nat} (h : zB Z n t b) (Z' : Nat → Nat) (c0 : Z' 0 ≤ 100000) (c1 : Z' 1 ≤ Z' 0) (c2 : Z' 2 < Z' 3) (c3 : Z' 3 ≤ Z' 0) (c4 : Z' 4 ≤ 5000) (c5 : Z' 5 ≤ 100) (c6 : Z' 6 ≤ 1) (cd : ∀ j, j < 24 → Z' (24 + j) ≤ 1000) (hb : 200000 ≤ b) (e : ∀ k, 7 ≤ k → (k < 24 ∨ 48 ≤ k) → Z' k = Z k) : zB Z' n t b := by
  obtain ⟨z7, hn6, z8, z0, z1, z2, z4, z5, z6, z13, zdd, zdc, zle⟩ := h
  refine ⟨by rw [e 7 (by omega) (by omega)]; exact z7, hn6, by rw [e 8 (by omega) (by omega)]; exact z8, c0, c1, ⟨c2, c3⟩, c4, c5, c6, by rw [e 13 (by omega) (by omega)]; exact z13, cd, fun p hp => by rw [e _ (by omega) (by omega)]; exact zdc p hp, fun k hk => ?_⟩
  by_cases e1 : k < 7
  · have : k = 0 ∨ k = 1 ∨ k = 2 ∨ k = 3 ∨ k = 4 ∨ k = 5 ∨ k = 6 := by omega
    rcases this with q | q | q | q | q | q | q <;> subst q <;> omega
  · by_cases e2 : 24 ≤ k ∧ k < 48
    · have := cd (k - 24) (by omega)
      rw [show 24 + (k - 24) = k by omega] at this
      omega
    · rw [e k (by omega) (by omega)]; exact zle k hk
theorem up_d {Z : Nat → Nat} {k v : Nat} (hk : k < 24) (zdd : ∀ j, j < 24 → Z (24 + j) ≤ 1000) : ∀ j, j < 24 → upN Z k v (24 + j) ≤ 1000 := fun j hj => by
  rw [upN_n (by omega)]; exact zdd j hj
theorem Rl_ww {S : SS} {w : Nat → Int64} {Z : Nat → Nat} {n t b : Nat} (h : Rl S w Z n t b) (hb : b < 2 ^ 30) (i k : Nat) (hi : i < 10) (hk : im i = k) : w k = (S.1 i).toInt64 := by
  have hz : zd k := by subst hk; unfold zd im; split; omega; split; omega; split <;> omega
  rw [h.2.1 k hz, Rl_i h i k hi hk, nI_l (by have := zB_le h.2.2.1 hz; omega)]

set_option maxHeartbeats 1000000 in
theorem q_setLevel {S1 S2 S3 S4 S5 S6 : SS} {T : TS} {sv : Int32} {M : MS} {st n t le : Nat} (h : RO S2 S3 S4 S5 S6 T sv M st n t le) (x : Int32) : Q3 iae ise (A_X4_setLevel_t S1 S2 S3 S4 S5 S6 T sv x) ((A_X5_setLevel_s0 M st x).1 2) (A_X4_setLevel_r S1 S2 S3 S4 S5 S6 T sv x = A_X5_setLevel_r M st x) (ROE (A_X4_setLevel_s2 S1 S2 S3 S4 S5 S6 T sv x) (A_X4_setLevel_s3 S1 S2 S3 S4 S5 S6 T sv x) (A_X4_setLevel_s4 S1 S2 S3 S4 S5 S6 T sv x) (A_X4_setLevel_s5 S1 S2 S3 S4 S5 S6 T sv x) (A_X4_setLevel_s6 S1 S2 S3 S4 S5 S6 T sv x) T (A_X4_setLevel_s0 S1 S2 S3 S4 S5 S6 T sv x) (A_X5_setLevel_s0 M st x)) (ROE S2 S3 S4 S5 S6 T sv (A_X5_setLevel_s0 M st x)) := by
  obtain ⟨Z, hR, h23, ht, hn6⟩ := RO_w h
  obtain ⟨hC, hM, hB, -, -⟩ := id hR
  obtain ⟨z7, -, z8, z0, z1, z2, z4, z5, z6, z13, zdd, zdc, zle⟩ := id hB
  have hww := fun i k hi hk => Rl_ww hR (by omega) i k hi hk
  have w0 := hww 0 0 (by omega) rfl
  have w1 := hww 1 1 (by omega) rfl
  have w3 := hww 3 3 (by omega) rfl
  have s0 : S2.1 0 = nI (Z 0) := Rl_i hR 0 0 (by omega) rfl
  have s1 : S2.1 1 = nI (Z 1) := Rl_i hR 1 1 (by omega) rfl
  have s2 : S2.1 2 = nI (Z 2) := Rl_i hR 2 2 (by omega) rfl
  have s3 : S2.1 3 = nI (Z 3) := Rl_i hR 3 3 (by omega) rfl
  simp only [A_X4_setLevel_t, A_X4_setLevel_r, A_X4_setLevel_s0, A_X4_setLevel_s2, A_X4_setLevel_s3, A_X4_setLevel_s4, A_X4_setLevel_s5, A_X4_setLevel_s6, A_X5_setLevel_r, A_X5_setLevel_s0, w0, w_le]
  by_cases e1 : 0 ≤ x
  · by_cases e2 : x ≤ S2.1 0
    · simp only [if_pos e1, if_pos e2]
      obtain ⟨v, hv, rfl⟩ := nI_of (Int32.not_lt.mpr e1)
      rw [s0] at e2
      have hv2 := (nI_leI hv (by omega)).mp e2
      refine Or.inl ⟨rfl, o_puts_2 _ _ _ _, by rw [o_putsR_e, w1, w_i], RO_puts h 1 _ (RS_of hR h23 (zC_I hC 1 v (by omega) rfl) (zM_up hM 1 v (nI_l hv)) (zB_k hB _ z0 hv2 z2.1 z2.2 z4 z5 z6 (up_d (by decide) zdd) (by omega) (fun k h1 h2 => upN_n (show k ≠ 1 by omega))) rfl rfl rfl (fun k hk => pk_uLn (by omega))) ht⟩
    · simp only [if_pos e1, if_neg e2]
      exact Or.inr (Or.inr ⟨rfl, rfl, RO_thr h 2⟩)
  · simp only [if_neg e1, ite_self]
    exact Or.inr (Or.inl ⟨rfl, rfl, RO_thr h 1⟩)

set_option maxHeartbeats 1000000 in
theorem q_setSize {S1 S2 S3 S4 S5 S6 : SS} {T : TS} {sv : Int32} {M : MS} {st n t le : Nat} (h : RO S2 S3 S4 S5 S6 T sv M st n t le) (x : Int32) : Q3 iae ise (A_X4_setSize_t S1 S2 S3 S4 S5 S6 T sv x) ((A_X5_setSize_s0 M st x).1 2) (A_X4_setSize_r S1 S2 S3 S4 S5 S6 T sv x = A_X5_setSize_r M st x) (ROE (A_X4_setSize_s2 S1 S2 S3 S4 S5 S6 T sv x) (A_X4_setSize_s3 S1 S2 S3 S4 S5 S6 T sv x) (A_X4_setSize_s4 S1 S2 S3 S4 S5 S6 T sv x) (A_X4_setSize_s5 S1 S2 S3 S4 S5 S6 T sv x) (A_X4_setSize_s6 S1 S2 S3 S4 S5 S6 T sv x) T (A_X4_setSize_s0 S1 S2 S3 S4 S5 S6 T sv x) (A_X5_setSize_s0 M st x)) (ROE S2 S3 S4 S5 S6 T sv (A_X5_setSize_s0 M st x)) := by
  obtain ⟨Z, hR, h23, ht, hn6⟩ := RO_w h
  obtain ⟨hC, hM, hB, -, -⟩ := id hR
  obtain ⟨z7, -, z8, z0, z1, z2, z4, z5, z6, z13, zdd, zdc, zle⟩ := id hB
  have hww := fun i k hi hk => Rl_ww hR (by omega) i k hi hk
  have w0 := hww 0 0 (by omega) rfl
  have w1 := hww 1 1 (by omega) rfl
  have w3 := hww 3 3 (by omega) rfl
  have s0 : S2.1 0 = nI (Z 0) := Rl_i hR 0 0 (by omega) rfl
  have s1 : S2.1 1 = nI (Z 1) := Rl_i hR 1 1 (by omega) rfl
  have s2 : S2.1 2 = nI (Z 2) := Rl_i hR 2 2 (by omega) rfl
  have s3 : S2.1 3 = nI (Z 3) := Rl_i hR 3 3 (by omega) rfl
  have cin : m_in x.toInt64 100 100000 = c_in x 100 100000 := m_c_in x 100 100000 rfl rfl
  simp only [A_X4_setSize_t, A_X4_setSize_r, A_X4_setSize_s0, A_X4_setSize_s2, A_X4_setSize_s3, A_X4_setSize_s4, A_X4_setSize_s5, A_X4_setSize_s6, A_X5_setSize_r, A_X5_setSize_s0, cin, w1, w3, w_lt, w_le]
  by_cases e1 : c_in x 100 100000 = true
  · simp only [if_pos e1]
    by_cases e2 : x < S2.1 1
    · simp only [if_pos e2]
      exact Or.inr (Or.inr ⟨rfl, rfl, RO_thr h 2⟩)
    · by_cases e3 : S2.1 3 ≤ x
      · simp only [if_neg e2, if_pos e3]
        obtain ⟨v, hv, hv9, rfl⟩ := c_in_t (a := 100) (b := 100000) e1 rfl rfl (by omega) (by omega)
        rw [s1] at e2
        rw [s3] at e3
        have hv2 := mt (nI_ltI (a := v) (b := Z 1) (by omega) (by omega)).mpr e2
        have hv3 := (nI_leI (a := Z 3) (b := v) (by omega) (by omega)).mp e3
        refine Or.inl ⟨rfl, o_puts_2 _ _ _ _, by rw [o_putsR_e, w0, w_i], RO_puts h 0 _ (RS_of hR h23 (zC_I hC 0 v (by omega) rfl) (zM_up hM 0 v (nI_l (by omega))) (zB_k hB _ hv9 (Nat.not_lt.mp hv2) z2.1 hv3 z4 z5 z6 (up_d (by decide) zdd) (by omega) (fun k h1 h2 => upN_n (show k ≠ 0 by omega))) rfl rfl rfl (fun k hk => pk_uLn (by omega))) ht⟩
      · simp only [if_neg e2, if_neg e3]
        exact Or.inr (Or.inr ⟨rfl, rfl, RO_thr h 2⟩)
  · simp only [if_neg e1, ite_self]
    exact Or.inr (Or.inl ⟨rfl, rfl, RO_thr h 1⟩)

set_option maxHeartbeats 1000000 in
theorem q_setBand {S1 S2 S3 S4 S5 S6 : SS} {T : TS} {sv : Int32} {M : MS} {st n t le : Nat} (h : RO S2 S3 S4 S5 S6 T sv M st n t le) (x y : Int32) : Q3 iae ise (A_X4_setBand_t S1 S2 S3 S4 S5 S6 T sv x y) ((A_X5_setBand_s0 M st x y).1 2) (A_X4_setBand_r S1 S2 S3 S4 S5 S6 T sv x y = A_X5_setBand_r M st x y) (ROE (A_X4_setBand_s2 S1 S2 S3 S4 S5 S6 T sv x y) (A_X4_setBand_s3 S1 S2 S3 S4 S5 S6 T sv x y) (A_X4_setBand_s4 S1 S2 S3 S4 S5 S6 T sv x y) (A_X4_setBand_s5 S1 S2 S3 S4 S5 S6 T sv x y) (A_X4_setBand_s6 S1 S2 S3 S4 S5 S6 T sv x y) T (A_X4_setBand_s0 S1 S2 S3 S4 S5 S6 T sv x y) (A_X5_setBand_s0 M st x y)) (ROE S2 S3 S4 S5 S6 T sv (A_X5_setBand_s0 M st x y)) := by
  obtain ⟨Z, hR, h23, ht, hn6⟩ := RO_w h
  obtain ⟨hC, hM, hB, -, -⟩ := id hR
  obtain ⟨z7, -, z8, z0, z1, z2, z4, z5, z6, z13, zdd, zdc, zle⟩ := id hB
  have hww := fun i k hi hk => Rl_ww hR (by omega) i k hi hk
  have w0 := hww 0 0 (by omega) rfl
  have w1 := hww 1 1 (by omega) rfl
  have w3 := hww 3 3 (by omega) rfl
  have s0 : S2.1 0 = nI (Z 0) := Rl_i hR 0 0 (by omega) rfl
  have s1 : S2.1 1 = nI (Z 1) := Rl_i hR 1 1 (by omega) rfl
  have s2 : S2.1 2 = nI (Z 2) := Rl_i hR 2 2 (by omega) rfl
  have s3 : S2.1 3 = nI (Z 3) := Rl_i hR 3 3 (by omega) rfl
  have w2 := hww 2 2 (by omega) rfl
  simp only [A_X4_setBand_t, A_X4_setBand_r, A_X4_setBand_s0, A_X4_setBand_s2, A_X4_setBand_s3, A_X4_setBand_s4, A_X4_setBand_s5, A_X4_setBand_s6, A_X5_setBand_r, A_X5_setBand_s0, w0, w_le]
  by_cases e1 : x < 1
  · simp only [if_pos e1, ite_self]
    exact Or.inr (Or.inl ⟨rfl, rfl, RO_thr h 1⟩)
  · by_cases e2 : x < y
    · by_cases e3 : y ≤ S2.1 0
      · simp only [if_neg e1, if_pos e2, if_pos e3]
        obtain ⟨v, hv, rfl⟩ := nI_of (x := x) (fun q => e1 (Int32.lt_of_lt_of_le q (by decide)))
        obtain ⟨u, hu, rfl⟩ := nI_of (x := y) (fun q => nI_pos hv (Int32.lt_trans e2 q))
        rw [s0] at e3
        have hu2 := (nI_leI hu (by omega)).mp e3
        have hvu := (nI_ltI hv hu).mp e2
        refine Or.inl ⟨rfl, o_puts_2 M st 2 (nI v), ?_, RO_put (w' := vp_updL (vp_updL (M.2.1 0) 2 (lN v)) 3 (lN u)) h (RS_of hR h23 (zC_I (zC_I hC 2 v (by omega) rfl) 3 u (by omega) rfl) (zM_up (zM_up hM 2 v rfl) 3 u rfl) (zB_k hB _ z0 z1 hvu hu2 z4 z5 z6 (up_d (by decide) (up_d (by decide) zdd)) (by omega) (fun k h1 h2 => (upN_n (by show k ≠ 3; omega)).trans (upN_n (by show k ≠ 2; omega)))) rfl rfl rfl (fun k hk => (pk_uLn (by omega)).trans (pk_uLn (by omega)))) ht _ rfl ((o_save_I (o_setI M 2 0) st 1 (by omega)).trans rfl) (fun j hj => ?_) rfl ?_⟩
        · rw [w3, w2, s3, s2, nI_l (by omega), nI_l (by omega), lN_sub (by omega), lN_i, pk_sub (by omega)]
        · show vp_updL (vp_updL ((o_save (o_setI M 2 0) st).2.1 0) 2 (nI v).toInt64) 3 (nI u).toInt64 j = _
          rw [o_save_V _ _ _ (by omega), nI_l hv, nI_l hu]; rfl
        · show (o_save (o_setI M 2 0) st).2.2 0 = _
          rw [o_save_A]; rfl
      · simp only [if_neg e1, if_pos e2, if_neg e3]
        exact Or.inr (Or.inr ⟨rfl, rfl, RO_thr h 2⟩)
    · simp only [if_neg e1, if_neg e2, ite_self]
      exact Or.inr (Or.inl ⟨rfl, rfl, RO_thr h 1⟩)

theorem isSet_eq (x y : Int32) : m_isSet x y = c_isSet x y := by
  unfold m_isSet c_isSet
  have k0 : ∀ z : Int32, z.toInt = (if z = 0 then 0 else if z = 1 then 1 else if z = 2 then 2 else z.toInt) := fun z => by
    split
    · next e => rw [e]; rfl
    · split
      · next e => rw [e]; rfl
      · split
        · next e => rw [e]; rfl
        · rfl
  by_cases e0 : x = 0
  · subst e0
    rw [if_pos rfl]
    exact (m_c_in y 1 5000 rfl rfl).trans (decide_eq_decide.mpr ⟨fun q => ⟨by decide, by decide, q.1, q.2⟩, fun q => ⟨q.2.2.1, q.2.2.2⟩⟩)
  · rw [if_neg e0]
    by_cases e1 : x = 1
    · subst e1
      rw [if_pos rfl]
      exact (m_c_in y 0 100 rfl rfl).trans (decide_eq_decide.mpr ⟨fun q => ⟨by decide, by decide, q.1, q.2⟩, fun q => ⟨q.2.2.1, q.2.2.2⟩⟩)
    · rw [if_neg e1]
      by_cases e2 : x = 2
      · subst e2
        rw [if_pos rfl]
        exact (m_c_in y 0 1 rfl rfl).trans (decide_eq_decide.mpr ⟨fun q => ⟨by decide, by decide, q.1, q.2⟩, fun q => ⟨q.2.2.1, q.2.2.2⟩⟩)
      · rw [if_neg e2]
        symm
        refine decide_eq_false (fun q => ?_)
        have n0 := k_ne e0 (n := 0) rfl
        have n1 := k_ne e1 (n := 1) rfl
        have n2 := k_ne e2 (n := 2) rfl
        have a := q.1
        have b := q.2.1
        rw [Int32.lt_iff_toInt_lt, show (0 : Int32).toInt = 0 from by decide] at a
        rw [Int32.le_iff_toInt_le, show (3 : Int32).toInt = 3 from by decide] at b
        omega
theorem isSet_v {x y : Int32} (h : c_isSet x y = true) : ∃ j v, j < 3 ∧ x = nI j ∧ y = nI v ∧ (j = 0 → v ≤ 5000) ∧ (j = 1 → v ≤ 100) ∧ (j = 2 → v ≤ 1) := by
  unfold c_isSet at h
  rw [decide_eq_true_eq] at h
  obtain ⟨h0, h3, hy, hz⟩ := h
  obtain ⟨j, hj, rfl⟩ := nI_of h0
  have hj3 : j < 3 := by
    rcases Nat.lt_or_ge j 3 with q | q
    · exact q
    · exact absurd (nI_le (a := 3) q hj) h3
  rw [nI_clamp hj] at hy hz
  have hy0 : ¬ y < 0 := fun q => hy (by
    refine Int32.lt_of_lt_of_le q ?_
    unfold c_least
    split <;> decide)
  obtain ⟨v, hv, rfl⟩ := nI_of hy0
  refine ⟨j, v, hj3, rfl, rfl, fun e => ?_, fun e => ?_, fun e => ?_⟩ <;> subst e
  · exact Nat.not_lt.mp (fun q => hz (nI_lt (a := 5000) q hv))
  · exact Nat.not_lt.mp (fun q => hz (nI_lt (a := 100) q hv))
  · exact Nat.not_lt.mp (fun q => hz (nI_lt (a := 1) q hv))

set_option maxHeartbeats 1000000 in
theorem q_set {S1 S2 S3 S4 S5 S6 : SS} {T : TS} {sv : Int32} {M : MS} {st n t le : Nat} (h : RO S2 S3 S4 S5 S6 T sv M st n t le) (x y : Int32) : Q2 iae (A_X4_set_t S1 S2 S3 S4 S5 S6 T sv x y) ((A_X5_set_s0 M st x y).1 2) (A_X4_set_r S1 S2 S3 S4 S5 S6 T sv x y = A_X5_set_r M st x y) (ROE (A_X4_set_s2 S1 S2 S3 S4 S5 S6 T sv x y) (A_X4_set_s3 S1 S2 S3 S4 S5 S6 T sv x y) (A_X4_set_s4 S1 S2 S3 S4 S5 S6 T sv x y) (A_X4_set_s5 S1 S2 S3 S4 S5 S6 T sv x y) (A_X4_set_s6 S1 S2 S3 S4 S5 S6 T sv x y) T (A_X4_set_s0 S1 S2 S3 S4 S5 S6 T sv x y) (A_X5_set_s0 M st x y)) (ROE S2 S3 S4 S5 S6 T sv (A_X5_set_s0 M st x y)) := by
  obtain ⟨Z, hR, h23, ht, hn6⟩ := RO_w h
  obtain ⟨hC, hM, hB, -, -⟩ := id hR
  obtain ⟨z7, -, z8, z0, z1, z2, z4, z5, z6, z13, zdd, zdc, zle⟩ := id hB
  have hww := fun i k hi hk => Rl_ww hR (by omega) i k hi hk
  have w0 := hww 0 0 (by omega) rfl
  have w1 := hww 1 1 (by omega) rfl
  have w3 := hww 3 3 (by omega) rfl
  have s0 : S2.1 0 = nI (Z 0) := Rl_i hR 0 0 (by omega) rfl
  have s1 : S2.1 1 = nI (Z 1) := Rl_i hR 1 1 (by omega) rfl
  have s2 : S2.1 2 = nI (Z 2) := Rl_i hR 2 2 (by omega) rfl
  have s3 : S2.1 3 = nI (Z 3) := Rl_i hR 3 3 (by omega) rfl
  simp only [A_X4_set_t, A_X4_set_r, A_X4_set_s0, A_X4_set_s2, A_X4_set_s3, A_X4_set_s4, A_X4_set_s5, A_X4_set_s6, A_X5_set_r, A_X5_set_s0, isSet_eq]
  by_cases e1 : c_isSet x y = true
  · simp only [if_pos e1]
    obtain ⟨j, v, hj, rfl, rfl, v0, v1, v2⟩ := isSet_v e1
    have hv : v ≤ 5000 := by
      have : j = 0 ∨ j = 1 ∨ j = 2 := by omega
      rcases this with q | q | q
      · exact v0 q
      · have := v1 q; omega
      · have := v2 q; omega
    have hin : ¬ nI j < 0 ∧ ¬ (3 : Int32) ≤ nI j := ⟨nI_pos (by omega), nI_ge (b := 3) hj (by omega)⟩
    have hcl : (nI j).toNatClampNeg = j := nI_clamp (by omega)
    have hj5 := zle (4 + j) (zd_lo (by omega))
    unfold s_set s_chS
    rw [if_pos hin, if_pos hin, hcl]
    refine Or.inl ⟨rfl, o_puts_2 _ _ _ _, by rw [o_putsR_e, hM _ (zd_lo (by omega)), zC_s hC hj, lN_i], RO_puts h (4 + j) _ (RS_of hR h23 (zC_S hC j v hj rfl) (zM_up hM (4 + j) v (nI_l (by omega))) (zB_k hB _ ?_ ?_ ?_ ?_ ?_ ?_ ?_ ?_ (by omega) (fun k h1 h2 => upN_n (by omega))) rfl rfl rfl (fun k hk => pk_uLn (by omega))) ht⟩
    · rw [upN_n (by omega)]; exact z0
    · rw [upN_n (by omega), upN_n (by omega)]; exact z1
    · rw [upN_n (by omega), upN_n (by omega)]; exact z2.1
    · rw [upN_n (by omega), upN_n (by omega)]; exact z2.2
    · unfold upN; split
      · next q => exact v0 (by omega)
      · exact z4
    · unfold upN; split
      · next q => exact v1 (by omega)
      · exact z5
    · unfold upN; split
      · next q => exact v2 (by omega)
      · exact z6
    · intro i hi
      rw [upN_n (by omega)]; exact zdd i hi
  · simp only [if_neg e1]
    exact Or.inr ⟨rfl, rfl, RO_thr h 1⟩

set_option maxHeartbeats 1000000 in
theorem q_setDemand {S1 S2 S3 S4 S5 S6 : SS} {T : TS} {sv : Int32} {M : MS} {st n t le : Nat} (h : RO S2 S3 S4 S5 S6 T sv M st n t le) (x y : Int32) : Q3 iob iae (A_X4_setDemand_t S1 S2 S3 S4 S5 S6 T sv x y) ((A_X5_setDemand_s0 M st x y).1 2) (A_X4_setDemand_r S1 S2 S3 S4 S5 S6 T sv x y = A_X5_setDemand_r M st x y) (ROE (A_X4_setDemand_s2 S1 S2 S3 S4 S5 S6 T sv x y) (A_X4_setDemand_s3 S1 S2 S3 S4 S5 S6 T sv x y) (A_X4_setDemand_s4 S1 S2 S3 S4 S5 S6 T sv x y) (A_X4_setDemand_s5 S1 S2 S3 S4 S5 S6 T sv x y) (A_X4_setDemand_s6 S1 S2 S3 S4 S5 S6 T sv x y) T (A_X4_setDemand_s0 S1 S2 S3 S4 S5 S6 T sv x y) (A_X5_setDemand_s0 M st x y)) (ROE S2 S3 S4 S5 S6 T sv (A_X5_setDemand_s0 M st x y)) := by
  obtain ⟨Z, hR, h23, ht, hn6⟩ := RO_w h
  obtain ⟨hC, hM, hB, -, -⟩ := id hR
  obtain ⟨z7, -, z8, z0, z1, z2, z4, z5, z6, z13, zdd, zdc, zle⟩ := id hB
  have hww := fun i k hi hk => Rl_ww hR (by omega) i k hi hk
  have w0 := hww 0 0 (by omega) rfl
  have w1 := hww 1 1 (by omega) rfl
  have w3 := hww 3 3 (by omega) rfl
  have s0 : S2.1 0 = nI (Z 0) := Rl_i hR 0 0 (by omega) rfl
  have s1 : S2.1 1 = nI (Z 1) := Rl_i hR 1 1 (by omega) rfl
  have s2 : S2.1 2 = nI (Z 2) := Rl_i hR 2 2 (by omega) rfl
  have s3 : S2.1 3 = nI (Z 3) := Rl_i hR 3 3 (by omega) rfl
  have c1 : m_in x.toInt64 0 23 = c_in x 0 23 := m_c_in x 0 23 rfl rfl
  have c2 : m_in y.toInt64 0 1000 = c_in y 0 1000 := m_c_in y 0 1000 rfl rfl
  simp only [A_X4_setDemand_t, A_X4_setDemand_r, A_X4_setDemand_s0, A_X4_setDemand_s2, A_X4_setDemand_s3, A_X4_setDemand_s4, A_X4_setDemand_s5, A_X4_setDemand_s6, A_X5_setDemand_r, A_X5_setDemand_s0, c1, c2]
  by_cases e1 : c_in x 0 23 = true
  · by_cases e2 : c_in y 0 1000 = true
    · simp only [if_pos e1, if_pos e2]
      obtain ⟨j, -, hj, rfl⟩ := c_in_t (a := 0) (b := 23) e1 rfl rfl (by omega) (by omega)
      obtain ⟨v, -, hv, rfl⟩ := c_in_t (a := 0) (b := 1000) e2 rfl rfl (by omega) (by omega)
      have hin : ¬ nI j < 0 ∧ ¬ (24 : Int32) ≤ nI j := ⟨nI_pos (by omega), nI_ge (b := 24) (by omega) (by omega)⟩
      have hcl : (nI j).toNatClampNeg = j := nI_clamp (by omega)
      unfold s_dem s_chD
      rw [if_pos hin, if_pos hin, hcl]
      refine Or.inl ⟨rfl, o_puts_2 _ _ _ _, by rw [o_putsR_e, hM _ (zd_d (by omega)), zC_d hC (by omega), lN_i], RO_puts h (24 + j) _ (RS_of hR h23 (zC_D hC j v (by omega) rfl) (zM_up hM (24 + j) v (nI_l (by omega))) (zB_k hB _ ?_ ?_ ?_ ?_ ?_ ?_ ?_ ?_ (by omega) (fun k h1 h2 => upN_n (by omega))) rfl rfl rfl (fun k hk => pk_uLn (by omega))) ht⟩
      · rw [upN_n (by omega)]; exact z0
      · rw [upN_n (by omega), upN_n (by omega)]; exact z1
      · rw [upN_n (by omega), upN_n (by omega)]; exact z2.1
      · rw [upN_n (by omega), upN_n (by omega)]; exact z2.2
      · rw [upN_n (by omega)]; exact z4
      · rw [upN_n (by omega)]; exact z5
      · rw [upN_n (by omega)]; exact z6
      · intro i hi
        unfold upN; split
        · exact hv
        · exact zdd i hi
    · simp only [if_pos e1, if_neg e2]
      exact Or.inr (Or.inr ⟨rfl, rfl, RO_thr h 2⟩)
  · simp only [if_neg e1, ite_self]
    exact Or.inr (Or.inl ⟨rfl, rfl, RO_thr h 1⟩)

set_option maxHeartbeats 1000000 in
theorem q_swear {S1 S2 S3 S4 S5 S6 : SS} {T : TS} {sv : Int32} {M : MS} {st n t le : Nat} (h : RO S2 S3 S4 S5 S6 T sv M st n t le) (x y : Int32) : Q3 iob iae (A_X4_swear_t S1 S2 S3 S4 S5 S6 T sv n x y) ((A_X5_swear_s0 M st x y).1 2) (A_X4_swear_r S1 S2 S3 S4 S5 S6 T sv n x y = A_X5_swear_r M st x y) (ROE (A_X4_swear_s2 S1 S2 S3 S4 S5 S6 T sv n x y) (A_X4_swear_s3 S1 S2 S3 S4 S5 S6 T sv n x y) (A_X4_swear_s4 S1 S2 S3 S4 S5 S6 T sv n x y) (A_X4_swear_s5 S1 S2 S3 S4 S5 S6 T sv n x y) (A_X4_swear_s6 S1 S2 S3 S4 S5 S6 T sv n x y) T (A_X4_swear_s0 S1 S2 S3 S4 S5 S6 T sv n x y) (A_X5_swear_s0 M st x y)) (ROE S2 S3 S4 S5 S6 T sv (A_X5_swear_s0 M st x y)) := by
  obtain ⟨Z, hR, h23, ht, hn6⟩ := RO_w h
  obtain ⟨hC, hM, hB, -, -⟩ := id hR
  obtain ⟨z7, -, z8, z0, z1, z2, z4, z5, z6, z13, zdd, zdc, zle⟩ := id hB
  have hww := fun i k hi hk => Rl_ww hR (by omega) i k hi hk
  have w0 := hww 0 0 (by omega) rfl
  have w1 := hww 1 1 (by omega) rfl
  have w3 := hww 3 3 (by omega) rfl
  have s0 : S2.1 0 = nI (Z 0) := Rl_i hR 0 0 (by omega) rfl
  have s1 : S2.1 1 = nI (Z 1) := Rl_i hR 1 1 (by omega) rfl
  have s2 : S2.1 2 = nI (Z 2) := Rl_i hR 2 2 (by omega) rfl
  have s3 : S2.1 3 = nI (Z 3) := Rl_i hR 3 3 (by omega) rfl
  have w7 : M.2.1 0 7 = lN n := by rw [Rl_w hR 7 (by omega), z7]
  have s8 : S2.1 8 = nI n := by rw [Rl_i hR 8 7 (by omega) rfl, z7]
  have hisP : ∀ x, m_isP (M.2.1 0) x = p_has S2 x := fun x => isP_eq s8 w7 hn6 x
  have c2 : m_in y.toInt64 1 12 = c_in y 1 12 := m_c_in y 1 12 rfl rfl
  simp only [A_X4_swear_t, A_X4_swear_r, A_X4_swear_s0, A_X4_swear_s2, A_X4_swear_s3, A_X4_swear_s4, A_X4_swear_s5, A_X4_swear_s6, A_X5_swear_r, A_X5_swear_s0, hisP, c2]
  by_cases e1 : p_has S2 x = true
  · by_cases e2 : c_in y 1 12 = true
    · simp only [if_pos e1, if_pos e2]
      obtain ⟨p, hp, rfl⟩ := p_hasN e1 s8 hn6
      obtain ⟨v, -, hv, rfl⟩ := c_in_t (a := 1) (b := 12) e2 rfl rfl (by omega) (by omega)
      have hcl : (nI p).toNatClampNeg = p := nI_clamp (by omega)
      rw [hcl]
      refine Or.inl ⟨rfl, o_puts_2 _ _ _ _, by rw [o_putsR_e, hM _ (zd_p (by omega) (by omega)), zC_p hC 3 1 rfl (by omega) (by omega), lN_i], RO_puts h _ _ (RS_of hR h23 (zC_P hC 3 1 p v rfl (by omega) (by omega) rfl) (zM_up hM _ v (nI_l (by omega))) (zB_up hB _ _ (by omega) _ (by omega) (Nat.le_refl _)) rfl rfl rfl (fun k hk => pk_uLn (by omega))) ht⟩
    · simp only [if_pos e1, if_neg e2]
      exact Or.inr (Or.inr ⟨rfl, rfl, RO_thr h 2⟩)
  · simp only [if_neg e1, ite_self]
    exact Or.inr (Or.inl ⟨rfl, rfl, RO_thr h 1⟩)

set_option maxHeartbeats 1000000 in
theorem q_service {S1 S2 S3 S4 S5 S6 : SS} {T : TS} {sv : Int32} {M : MS} {st n t le : Nat} (h : RO S2 S3 S4 S5 S6 T sv M st n t le) (x y : Int32) (hy : y = 0 ∨ y = 1) : Q3 iob ise (A_X4_service_t S1 S2 S3 S4 S5 S6 T sv n x y) ((A_X5_service_s0 M st x y).1 2) (A_X4_service_r S1 S2 S3 S4 S5 S6 T sv n x y = A_X5_service_r M st x y) (ROE (A_X4_service_s2 S1 S2 S3 S4 S5 S6 T sv n x y) (A_X4_service_s3 S1 S2 S3 S4 S5 S6 T sv n x y) (A_X4_service_s4 S1 S2 S3 S4 S5 S6 T sv n x y) (A_X4_service_s5 S1 S2 S3 S4 S5 S6 T sv n x y) (A_X4_service_s6 S1 S2 S3 S4 S5 S6 T sv n x y) T (A_X4_service_s0 S1 S2 S3 S4 S5 S6 T sv n x y) (A_X5_service_s0 M st x y)) (ROE S2 S3 S4 S5 S6 T sv (A_X5_service_s0 M st x y)) := by
  obtain ⟨Z, hR, h23, ht, hn6⟩ := RO_w h
  obtain ⟨hC, hM, hB, -, -⟩ := id hR
  obtain ⟨z7, -, z8, z0, z1, z2, z4, z5, z6, z13, zdd, zdc, zle⟩ := id hB
  have hww := fun i k hi hk => Rl_ww hR (by omega) i k hi hk
  have w0 := hww 0 0 (by omega) rfl
  have w1 := hww 1 1 (by omega) rfl
  have w3 := hww 3 3 (by omega) rfl
  have s0 : S2.1 0 = nI (Z 0) := Rl_i hR 0 0 (by omega) rfl
  have s1 : S2.1 1 = nI (Z 1) := Rl_i hR 1 1 (by omega) rfl
  have s2 : S2.1 2 = nI (Z 2) := Rl_i hR 2 2 (by omega) rfl
  have s3 : S2.1 3 = nI (Z 3) := Rl_i hR 3 3 (by omega) rfl
  have w7 : M.2.1 0 7 = lN n := by rw [Rl_w hR 7 (by omega), z7]
  have s8 : S2.1 8 = nI n := by rw [Rl_i hR 8 7 (by omega) rfl, z7]
  have hisP : ∀ x, m_isP (M.2.1 0) x = p_has S2 x := fun x => isP_eq s8 w7 hn6 x
  simp only [A_X4_service_t, A_X4_service_r, A_X4_service_s0, A_X4_service_s2, A_X4_service_s3, A_X4_service_s4, A_X4_service_s5, A_X4_service_s6, A_X5_service_r, A_X5_service_s0, hisP]
  by_cases e1 : p_has S2 x = true
  · simp only [if_pos e1]
    obtain ⟨p, hp, rfl⟩ := p_hasN e1 s8 hn6
    have hcl : (nI p).toNatClampNeg = p := nI_clamp (by omega)
    have hm : S2.2.2.1 4 p = nI (Z (48 + 8 * p + 2)) := zC_p hC 4 2 rfl (by omega) (by omega)
    have hw : M.2.1 0 (48 + 8 * p + 2) = lN (Z (48 + 8 * p + 2)) := hM _ (zd_p (by omega) (by omega))
    have hz := zle _ (zd_p (p := p) (f := 2) (by omega) (by omega))
    have hsv : c_svc S2 (nI p) = decide (¬ Z (48 + 8 * p + 2) = 2) := by
      unfold c_svc
      rw [e1, hcl, hm, Bool.true_and]
      exact decide_eq_decide.mpr (not_congr (nI_eq (b := 2) (by omega) (by omega)))
    have h1 : (nI (Z (48 + 8 * p + 2)) = 1) ↔ Z (48 + 8 * p + 2) = 1 := nI_eq (b := 1) (by omega) (by omega)
    have h2 : (lN (Z (48 + 8 * p + 2)) = 2) ↔ Z (48 + 8 * p + 2) = 2 := lN_eq (b := 2) (by omega) (by omega)
    have hput : ∀ (z : Int32) (v : Nat), z = nI v → v ≤ 2 → ROE (setA S2 4 (upd (S2.2.2.1 4) p z)) S2 S3 S4 S5 T (c_sv sv) (o_puts (o_setI M 2 0) st (48 + 8 * p + 2) z) := fun z v hzv hv => RO_puts h _ _ (RS_of hR h23 (zC_P hC 4 2 p v rfl (by omega) (by omega) hzv) (zM_up hM _ v (by rw [hzv, nI_l (by omega)])) (zB_up hB _ _ (by omega) _ (by omega) (Nat.le_refl _)) rfl rfl rfl (fun k hk => pk_uLn (by omega))) ht
    simp only [hcl, hm, hw, o_putsR_e, lN_i, hsv, h1, h2]
    by_cases e2 : Z (48 + 8 * p + 2) = 2
    · have e3 : ¬ Z (48 + 8 * p + 2) = 1 := by omega
      simp only [e2, if_neg (show ¬ (2 : Nat) = 1 by decide), not_true_eq_false, decide_false, bi_f, if_true]
      rcases hy with hy | hy <;> subst hy
      · simp only [if_true]
        exact Or.inr (Or.inr ⟨rfl, rfl, RO_thr h 2⟩)
      · simp only [if_neg (show ¬ (0 : Int32) = 1 by decide), if_neg (show ¬ (1 : Int32) = 0 by decide)]
        exact Or.inl ⟨rfl, o_puts_2 _ _ _ _, by first | rfl | trivial, hput 0 0 rfl (by omega)⟩
    · simp only [if_neg e2, e2, not_false_eq_true, decide_true, bi_t]
      rcases hy with hy | hy <;> subst hy
      · simp only [if_neg (show ¬ (1 : Int32) = 0 by decide), if_neg (show ¬ (0 : Int32) = 1 by decide), if_true, ite_self]
        exact Or.inl ⟨rfl, o_puts_2 _ _ _ _, by first | rfl | trivial, hput 2 2 rfl (by omega)⟩
      · simp only [if_true]
        exact Or.inr (Or.inr ⟨rfl, rfl, RO_thr h 2⟩)
  · simp only [if_neg e1]
    exact Or.inr (Or.inl ⟨rfl, rfl, RO_thr h 1⟩)
