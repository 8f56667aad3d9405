/-! MATHEMATICS: the water, and the whole minute -/
theorem zW5 {Z : Nat → Nat} {n u hh p : Nat} (hP : jP Z n u) (hp : p < 6) : zW Z n hh (48 + 8 * p + 5) = if Z (48 + 8 * p + 2) = 1 then Z (48 + 8 * p + 5) + 1 else Z (48 + 8 * p + 5) := by
  unfold zW
  rw [if_neg (by omega), show 48 + 8 * p + 5 - 3 = 48 + 8 * p + 2 by omega]
  by_cases e : Z (48 + 8 * p + 2) = 1
  · have hpn : p < n := by
      rcases Nat.lt_or_ge p n with q | q
      · exact q
      · have := ((hP p hp).2.2.2 q).1
        omega
    rw [if_pos ⟨by omega, by omega, by omega, e⟩, if_pos e]
  · rw [if_neg (fun q => e q.2.2.2), if_neg e]
theorem zP3 {Z : Nat → Nat} {n u : Nat} (hn : n ≤ 3) (hP : jP Z n u) : zP Z n = (if Z 50 = 1 then Z 48 else 0) + (if Z 58 = 1 then Z 56 else 0) + (if Z 66 = 1 then Z 64 else 0) := by
  have z0 : zP Z 0 = 0 := rfl
  have z1 : zP Z 1 = if Z 50 = 1 then zP Z 0 + Z 48 else zP Z 0 := zP_s Z 0
  have z2 : zP Z 2 = if Z 58 = 1 then zP Z 1 + Z 56 else zP Z 1 := zP_s Z 1
  have z3 : zP Z 3 = if Z 66 = 1 then zP Z 2 + Z 64 else zP Z 2 := zP_s Z 2
  have q0 : n ≤ 0 → Z 50 = 0 := fun q => ((hP 0 (by omega)).2.2.2 q).1
  have q1 : n ≤ 1 → Z 58 = 0 := fun q => ((hP 1 (by omega)).2.2.2 q).1
  have q2 : n ≤ 2 → Z 66 = 0 := fun q => ((hP 2 (by omega)).2.2.2 q).1
  have e : n = 0 ∨ n = 1 ∨ n = 2 ∨ n = 3 := by omega
  by_cases c0 : Z 50 = 1 <;> by_cases c1 : Z 58 = 1 <;> by_cases c2 : Z 66 = 1 <;> simp only [c0, c1, c2, if_true, if_false] at z1 z2 z3 ⊢ <;> rcases e with e | e | e | e <;> subst e <;> omega
theorem zf_le {Z : Nat → Nat} {n hh : Nat} : zf1 Z n ≤ Z 0 ∧ zf1 Z n ≤ Z 1 + zP Z n ∧ zf2 Z n hh ≤ zf1 Z n ∧ zf2 Z n hh ≤ Z (24 + hh) ∧ zf3 Z n hh ≤ zf1 Z n - zf2 Z n hh ∧ zf3 Z n hh ≤ Z 5 := by
  have a1 : zf1 Z n ≤ Z 0 ∧ zf1 Z n ≤ Z 1 + zP Z n := by unfold zf1; split <;> omega
  have a2 : zf2 Z n hh ≤ zf1 Z n ∧ zf2 Z n hh ≤ Z (24 + hh) := by unfold zf2; split <;> omega
  have a3 : zf3 Z n hh ≤ zf1 Z n - zf2 Z n hh ∧ zf3 Z n hh ≤ Z 5 := by unfold zf3; split <;> omega
  exact ⟨a1.1, a1.2, a2.1, a2.2, a3.1, a3.2⟩
/-- the waters behind a minute -/
def wN (Z W : Nat → Nat) (n hh : Nat) : Nat → Nat := fun j => W j + (if j = 0 then zP Z n else if j = 1 then Z 1 + zP Z n - zf1 Z n else if j = 2 then zf2 Z n hh else if j = 3 then Z (24 + hh) - zf2 Z n hh else zf3 Z n hh)
theorem j_move {S : SS} {Z W : Nat → Nat} {n t tt u v : Nat} {B : Int} (h : J S Z W n t tt u v B) (ht : t ≤ 1000000) (hu : u ≤ 1000000) : J (s_move S n) (zW Z n (t / 60 % 24)) (wN Z W n (t / 60 % 24)) n t tt (u + 1) v B := by
  have h0 := h
  obtain ⟨h8, hn3, s4⟩ := J_n h
  have s1 : S.1 1 = nI (Z 1) := J_i h 1 1 (by omega) rfl
  have s0 : S.1 0 = nI (Z 0) := J_i h 0 0 (by omega) rfl
  obtain ⟨hC, hW, hO, hA, hD, hP, hS, hL⟩ := h
  obtain ⟨z7, -, z8, z0, z1, z2, z23, z3, z4, z5, z6, z10, z13, z139⟩ := hA
  obtain ⟨r2, r1⟩ := run_1 hC (fun p hp => (hP p hp).1.2.2) n (by omega)
  obtain ⟨hh, hhe⟩ : ∃ hh, hh = t / 60 % 24 := ⟨_, rfl⟩
  rw [← hhe]
  have hh24 : hh < 24 := by omega
  have zh := hD hh hh24
  have hP3 := zP3 hn3 hP
  have p0 := (hP 0 (by omega)).1.1
  have p1 := (hP 1 (by omega)).1.1
  have p2 := (hP 2 (by omega)).1.1
  have hPl : zP Z n ≤ 1500 := by
    rw [hP3]
    have p0 : Z 48 ≤ 500 := p0
    have p1 : Z 56 ≤ 500 := p1
    have p2 : Z 64 ≤ 500 := p2
    split <;> split <;> split <;> omega
  obtain ⟨f1s, f1p, f2le, f2d, f3le, f35⟩ := zf_le (Z := Z) (n := n) (hh := hh)
  have hf1 : zf1 Z n = Z 1 + zP Z n - (if Z 0 < Z 1 + zP Z n then Z 1 + zP Z n - Z 0 else 0) := by
    unfold zf1
    split <;> split <;> omega
  have hpr : (p_runR S n).2 = nI (zP Z n) := r2
  have hov : s_ov S n = nI (Z 1 + zP Z n - zf1 Z n) := by
    unfold s_ov
    rw [hpr, s1, s0, nI_add]
    have c : (0 < nI (Z 1 + zP Z n) - nI (Z 0)) ↔ Z 0 < Z 1 + zP Z n := by
      rw [Int32.lt_iff_toInt_lt, pk_sub_toInt (by omega) (by omega), show (0 : Int32).toInt = 0 from by decide]
      omega
    by_cases e : Z 0 < Z 1 + zP Z n
    · rw [if_pos (c.mpr e), pk_sub (by omega)]
      congr 1
      rw [if_pos e] at hf1
      omega
    · rw [if_neg (fun q => e (c.mp q))]
      rw [if_neg e] at hf1
      rw [show Z 1 + zP Z n - zf1 Z n = 0 by omega]
      rfl
  have hl1 : s_l1 S n = nI (zf1 Z n) := by
    show S.1 1 + ((p_runR S n).2 - s_ov S n) = _
    by_cases e : Z 0 < Z 1 + zP Z n
    · rw [if_pos e] at hf1
      rw [hov, hpr, s1, pk_sub (by omega), nI_add]
      congr 1
      omega
    · rw [if_neg e] at hf1
      rw [hov, hpr, s1, pk_sub (by omega), nI_add]
      congr 1
      omega
  have hhr : s_hour S = nI hh := by
    unfold s_hour
    rw [s4, show (60 : Int32) = nI 60 from rfl, show (24 : Int32) = nI 24 from rfl, pk_div (by omega) (by omega) (by omega), pk_rem (by omega) (by omega) (by omega), hhe]
  have hd : s_d S = nI (Z (24 + hh)) := by
    unfold s_d s_dem
    rw [hhr, if_pos ⟨nI_pos (by omega), nI_ge (b := 24) hh24 (by omega)⟩, nI_clamp (by omega)]
    exact zC_d hC hh24
  have htk : s_tak S n = nI (zf2 Z n hh) := by
    unfold s_tak zf2
    rw [hl1, hd]
    by_cases e : Z (24 + hh) ≤ zf1 Z n
    · rw [if_pos e, if_neg (nI_nlt e (by omega))]
    · rw [if_neg e, if_pos (nI_lt (by omega) (by omega))]
  have hl2 : s_l2 S n = nI (zf1 Z n - zf2 Z n hh) := by
    unfold s_l2
    rw [hl1, htk]
    exact pk_sub f2le
  have hlk : s_lk S n = nI (zf3 Z n hh) := by
    unfold s_lk zf3
    rw [hl2, show S.2.2.1 0 1 = nI (Z 5) from zC_s hC (j := 1) (by omega)]
    by_cases e : Z 5 ≤ zf1 Z n - zf2 Z n hh
    · rw [if_pos e, if_neg (nI_nlt e (by omega))]
    · rw [if_neg e, if_pos (nI_lt (by omega) (by omega))]
  have zw : ∀ k, k ≠ 1 → (k < 48 ∨ 96 ≤ k ∨ (k - 48) % 8 ≠ 5) → zW Z n hh k = Z k := fun k h1 h2 => by
    unfold zW
    rw [if_neg h1, if_neg (by omega)]
  have zw1 : zW Z n hh 1 = zf1 Z n - zf2 Z n hh - zf3 Z n hh := by unfold zW; rw [if_pos rfl]
  refine ⟨?_, ?_, ?_, ?_, jD_of hD (fun j hj => zw _ (by omega) (by omega)), fun p hp => ?_, ?_, jL_of hL (fun k hk => zw k (by omega) (by omega))⟩
  · have k1 : zC (setA S 8 (p_runR S n).1) (fun k => if k = 1 then Z 1 else zW Z n hh k) := zC_row hC 8 5 rfl (by omega) (fun p hp => by
      show (itr (p_runB S) n (S.2.2.1 8, 0)).1 p = _
      rw [r1 p hp, if_neg (show ¬ 48 + 8 * p + 5 = 1 by omega)]
      unfold zW
      rw [if_neg (show ¬ 48 + 8 * p + 5 = 1 by omega), show 48 + 8 * p + 5 - 3 = 48 + 8 * p + 2 by omega]
      by_cases e : p < n ∧ Z (48 + 8 * p + 2) = 1
      · rw [if_pos e, if_pos ⟨by omega, by omega, by omega, e.2⟩]
      · rw [if_neg e, if_neg (fun q => e ⟨by omega, q.2.2.2⟩)]) (fun k hk hne => by
      by_cases e : k = 1
      · rw [if_pos e, e]
      · rw [if_neg e]
        unfold zW
        rw [if_neg e, if_neg (fun q => hne ⟨q.1, by omega, q.2.2.1⟩)])
    have k2 := zC_I k1 1 (zf1 Z n - zf2 Z n hh - zf3 Z n hh) (by omega) (x := s_l2 S n - s_lk S n) (by rw [hl2, hlk]; exact pk_sub f3le)
    refine zC_V (zC_eq k2 (fun k hk => ?_)) _
    show zW Z n hh k = if k = 1 then _ else if k = 1 then _ else zW Z n hh k
    by_cases e : k = 1
    · rw [if_pos e, e]; unfold zW; rw [if_pos rfl]
    · rw [if_neg e, if_neg e]
  · intro j hj
    show s_w4 S n j = lN (wN Z W n hh j)
    unfold s_w4 wN
    rw [hpr, hov, htk, hlk, hd, pk_sub f2d, nI_l (by omega), nI_l (by omega), nI_l (by omega), nI_l (by omega), nI_l (by omega)]
    have ej : j = 0 ∨ j = 1 ∨ j = 2 ∨ j = 3 ∨ j = 4 := by omega
    rcases ej with ej | ej | ej | ej | ej <;> subst ej
    · show S.2.2.2 0 + lN (zP Z n) = lN (W 0 + zP Z n)
      rw [hW 0 (by omega), lN_add]
    · show S.2.2.2 1 + lN (Z 1 + zP Z n - zf1 Z n) = lN (W 1 + (Z 1 + zP Z n - zf1 Z n))
      rw [hW 1 (by omega), lN_add]
    · show S.2.2.2 2 + lN (zf2 Z n hh) = lN (W 2 + zf2 Z n hh)
      rw [hW 2 (by omega), lN_add]
    · show S.2.2.2 3 + lN (Z (24 + hh) - zf2 Z n hh) = lN (W 3 + (Z (24 + hh) - zf2 Z n hh))
      rw [hW 3 (by omega), lN_add]
    · show S.2.2.2 4 + lN (zf3 Z n hh) = lN (W 4 + zf3 Z n hh)
      rw [hW 4 (by omega), lN_add]
  · exact hO
  · unfold jA
    rw [zw 7 (by omega) (by omega), zw 8 (by omega) (by omega), zw 0 (by omega) (by omega), zw1, zw 2 (by omega) (by omega), zw 3 (by omega) (by omega), zw 4 (by omega) (by omega), zw 5 (by omega) (by omega), zw 6 (by omega) (by omega), zw 10 (by omega) (by omega), zw 13 (by omega) (by omega), zw 9 (by omega) (by omega)]
    omega
  · have h1 := hP p hp
    have h5 : zW Z n hh (48 + 8 * p + 5) ≤ u + 1 := by
      rw [zW5 hP hp]
      have := h1.2.1.2.2
      split <;> omega
    have h6 : n ≤ p → zW Z n hh (48 + 8 * p + 5) = 0 := fun q => by
      obtain ⟨g1, -, g3⟩ := h1.2.2.2 q
      rw [zW5 hP hp, if_neg (by omega)]
      exact g3
    unfold jQ at *
    rw [zw (48 + 8 * p + 0) (by omega) (by omega), zw (48 + 8 * p + 1) (by omega) (by omega), zw (48 + 8 * p + 2) (by omega) (by omega), zw (48 + 8 * p + 3) (by omega) (by omega), zw (48 + 8 * p + 4) (by omega) (by omega), zw (48 + 8 * p + 6) (by omega) (by omega)]
    exact ⟨h1.1, ⟨h1.2.1.1, h1.2.1.2.1, h5⟩, h1.2.2.1, fun q => ⟨(h1.2.2.2 q).1, (h1.2.2.2 q).2.1, h6 q⟩⟩
  · obtain ⟨g1, g2, g3, g4, g5⟩ := hS
    have m0 : zW Z n hh 53 = if Z 50 = 1 then Z 53 + 1 else Z 53 := zW5 (p := 0) hP (by omega)
    have m1 : zW Z n hh 61 = if Z 58 = 1 then Z 61 + 1 else Z 61 := zW5 (p := 1) hP (by omega)
    have m2 : zW Z n hh 69 = if Z 66 = 1 then Z 69 + 1 else Z 69 := zW5 (p := 2) hP (by omega)
    have w0 : wN Z W n hh 0 = W 0 + zP Z n := rfl
    have w1 : wN Z W n hh 1 = W 1 + (Z 1 + zP Z n - zf1 Z n) := rfl
    have w2 : wN Z W n hh 2 = W 2 + zf2 Z n hh := rfl
    have w3 : wN Z W n hh 3 = W 3 + (Z (24 + hh) - zf2 Z n hh) := rfl
    have w4 : wN Z W n hh 4 = W 4 + zf3 Z n hh := rfl
    unfold jS
    rw [zw 9 (by omega) (by omega), zw 54 (by omega) (by omega), zw 62 (by omega) (by omega), zw 70 (by omega) (by omega), zw 52 (by omega) (by omega), zw 60 (by omega) (by omega), zw 68 (by omega) (by omega), zw 48 (by omega) (by omega), zw 56 (by omega) (by omega), zw 64 (by omega) (by omega), zw1, m0, m1, m2, w0, w1, w2, w4]
    refine ⟨g1, g2, ?_, by omega, fun j hj => ?_⟩
    · rw [hP3, g3]
      have a0 : Z 48 * (if Z 50 = 1 then Z 53 + 1 else Z 53) = Z 48 * Z 53 + (if Z 50 = 1 then Z 48 else 0) := by split <;> simp [Nat.mul_add]
      have a1 : Z 56 * (if Z 58 = 1 then Z 61 + 1 else Z 61) = Z 56 * Z 61 + (if Z 58 = 1 then Z 56 else 0) := by split <;> simp [Nat.mul_add]
      have a2 : Z 64 * (if Z 66 = 1 then Z 69 + 1 else Z 69) = Z 64 * Z 69 + (if Z 66 = 1 then Z 64 else 0) := by split <;> simp [Nat.mul_add]
      rw [a0, a1, a2]
      generalize Z 48 * Z 53 = x0
      generalize Z 56 * Z 61 = x1
      generalize Z 64 * Z 69 = x2
      generalize (if Z 50 = 1 then Z 48 else 0) = y0
      generalize (if Z 58 = 1 then Z 56 else 0) = y1
      generalize (if Z 66 = 1 then Z 64 else 0) = y2
      omega
    · have b := g5 j hj
      have ej : j = 0 ∨ j = 1 ∨ j = 2 ∨ j = 3 ∨ j = 4 := by omega
      rcases ej with ej | ej | ej | ej | ej <;> subst ej
      · rw [w0]; omega
      · rw [w1]
        have q9 : Z 1 + zP Z n - zf1 Z n ≤ zP Z n := by
          rw [hf1]
          split <;> omega
        omega
      · rw [w2]; omega
      · rw [w3]; omega
      · rw [w4]; omega
theorem j_m3 {S : SS} {Z W : Nat → Nat} {n t tt u v : Nat} {B : Int} (h : J S Z W n t tt u v B) : ∃ Z', J (s_m3 S) Z' W n t tt u (v + 1) B ∧ sm Z Z' := by
  have s6 : S.1 6 = nI (Z 10) := J_i h 6 10 (by omega) rfl
  obtain ⟨hC, hW, hO, hA, hD, hP, hS, hL⟩ := h
  unfold s_m3
  split
  · exact ⟨Z, ⟨hC, hW, hO, by unfold jA at *; omega, hD, hP, hS, hL⟩, sm_rf Z⟩
  · have zu : ∀ k, k ≠ 10 → upN Z 10 (Z 10 + 1) k = Z k := fun k hk => upN_n hk
    have zs : upN Z 10 (Z 10 + 1) 10 = Z 10 + 1 := upN_s
    refine ⟨upN Z 10 (Z 10 + 1), ⟨zC_I hC 6 (Z 10 + 1) (by omega) (by rw [s6, nI_1]), hW, hO, ?_, jD_of hD (fun j hj => zu _ (by omega)), fun p hp => jQ_of (hP p hp) (fun f hf => zu _ (by omega)), jS_of hS (fun k hk => zu k (by omega)), jL_of hL (fun k hk => zu k (by omega))⟩, ⟨zu 5 (by omega), zu 6 (by omega), fun j hj => zu _ (by omega), by rw [zu 9 (by omega)]; exact Nat.le_refl _, fun _ => zu 9 (by omega)⟩⟩
    unfold jA at *
    rw [zu 7 (by omega), zu 8 (by omega), zu 0 (by omega), zu 1 (by omega), zu 2 (by omega), zu 3 (by omega), zu 4 (by omega), zu 5 (by omega), zu 6 (by omega), zs, zu 13 (by omega), zu 9 (by omega)]
    omega
theorem j_t {S : SS} {Z W : Nat → Nat} {n t tt u v : Nat} {B : Int} (h : J S Z W n t tt u v B) : ∃ Z', J (setI S 4 (S.1 4 + 1)) Z' W n (t + 1) tt u v B ∧ sm Z Z' := by
  obtain ⟨h8, hn3, s4⟩ := J_n h
  obtain ⟨hC, hW, hO, hA, hD, hP, hS, hL⟩ := h
  have zu : ∀ k, k ≠ 8 → upN Z 8 (t + 1) k = Z k := fun k hk => upN_n hk
  have zs : upN Z 8 (t + 1) 8 = t + 1 := upN_s
  refine ⟨upN Z 8 (t + 1), ⟨zC_I hC 4 (t + 1) (by omega) (by rw [s4, nI_1]), hW, hO, ?_, jD_of hD (fun j hj => zu _ (by omega)), fun p hp => jQ_of (hP p hp) (fun f hf => zu _ (by omega)), jS_of hS (fun k hk => zu k (by omega)), jL_of hL (fun k hk => zu k (by omega))⟩, ⟨zu 5 (by omega), zu 6 (by omega), fun j hj => zu _ (by omega), by rw [zu 9 (by omega)]; exact Nat.le_refl _, fun _ => zu 9 (by omega)⟩⟩
  unfold jA at *
  rw [zu 7 (by omega), zs, zu 0 (by omega), zu 1 (by omega), zu 2 (by omega), zu 3 (by omega), zu 4 (by omega), zu 5 (by omega), zu 6 (by omega), zu 10 (by omega), zu 13 (by omega), zu 9 (by omega)]
  omega
theorem j_m4 {S : SS} {Z W : Nat → Nat} {n t tt u v : Nat} {B : Int} (h : J S Z W n t tt u v B) (d : Int32) : ∃ Z', J (s_m4 d S) Z' W n t tt u v B ∧ sm Z Z' := by
  have s7 : S.1 7 = nI (Z 11) := J_i h 7 11 (by omega) rfl
  unfold s_m4
  split
  · split
    · exact ⟨Z, h, sm_rf Z⟩
    · obtain ⟨hC, hW, hO, hA, hD, hP, hS, hL⟩ := h
      have zu : ∀ k, k ≠ 11 → upN Z 11 (Z 11 + 1) k = Z k := fun k hk => upN_n hk
      refine ⟨upN Z 11 (Z 11 + 1), ⟨zC_I (zC_L hC 1 _) 7 (Z 11 + 1) (by omega) (by rw [s7, nI_1]), hW, hO, ?_, jD_of hD (fun j hj => zu _ (by omega)), fun p hp => jQ_of (hP p hp) (fun f hf => zu _ (by omega)), jS_of hS (fun k hk => zu k (by omega)), jL_of hL (fun k hk => zu k (by omega))⟩, ⟨zu 5 (by omega), zu 6 (by omega), fun j hj => zu _ (by omega), by rw [zu 9 (by omega)]; exact Nat.le_refl _, fun _ => zu 9 (by omega)⟩⟩
      unfold jA at *
      rw [zu 7 (by omega), zu 8 (by omega), zu 0 (by omega), zu 1 (by omega), zu 2 (by omega), zu 3 (by omega), zu 4 (by omega), zu 5 (by omega), zu 6 (by omega), zu 10 (by omega), zu 13 (by omega), zu 9 (by omega)]
      exact hA
  · exact ⟨Z, h, sm_rf Z⟩
/-- what a minute does to the sums -/
def JJ (S : SS) (Z W : Nat → Nat) (n t : Nat) (B : Int) : Prop := J S Z W n t t t t B
theorem j_min {S : SS} {Z W : Nat → Nat} {n t : Nat} {B : Int} (h : JJ S Z W n t B) (ht : t ≤ 1000000) : ∃ Z' W', JJ (s_min S n) Z' W' n (t + 1) B ∧ sm Z Z' ∧ W' 2 + W' 3 = W 2 + W 3 + Z (24 + t / 60 % 24) ∧ W' 4 ≤ W 4 + Z 5 ∧ W 4 ≤ W' 4 := by
  obtain ⟨Z2, h2, m2⟩ := j_m2 (j_m1 h) ht
  obtain ⟨Z3, h3, m3⟩ := j_sw h2 ht
  have h4 := j_move h3 ht ht
  obtain ⟨f1s, f1p, f2le, f2d, f3le, f35⟩ := zf_le (Z := Z3) (n := n) (hh := t / 60 % 24)
  have m4 : sm Z3 (zW Z3 n (t / 60 % 24)) := sm_lo (fun k hk h1 => by unfold zW; rw [if_neg h1, if_neg (by omega)])
  obtain ⟨Z5, h5, m5⟩ := j_m3 h4
  obtain ⟨Z6, h6, m6⟩ := j_m4 h5 (s_day S)
  obtain ⟨Z7, h7, m7⟩ := j_t h6
  have a := sm_tr m2 m3
  have hd : Z3 (24 + t / 60 % 24) = Z (24 + t / 60 % 24) := a.2.2.1 _ (by omega)
  refine ⟨Z7, _, h7, sm_tr a (sm_tr m4 (sm_tr m5 (sm_tr m6 m7))), ?_, ?_, Nat.le_add_right _ _⟩
  · show W 2 + zf2 Z3 n (t / 60 % 24) + (W 3 + (Z3 (24 + t / 60 % 24) - zf2 Z3 n (t / 60 % 24))) = _
    omega
  · show W 4 + zf3 Z3 n (t / 60 % 24) ≤ _
    have := a.1
    omega
def dsum (Z : Nat → Nat) (t : Nat) : Nat → Nat
  | 0 => 0
  | k + 1 => dsum Z t k + Z (24 + (t + k) / 60 % 24)
theorem j_pass {S : SS} {Z W : Nat → Nat} {n t : Nat} {B : Int} (h : JJ S Z W n t B) : ∀ k, t + k ≤ 1000000 → ∃ Z' W', JJ (s_pass S n k) Z' W' n (t + k) B ∧ sm Z Z' ∧ W' 2 + W' 3 = W 2 + W 3 + dsum Z t k ∧ W' 4 ≤ W 4 + k * Z 5 ∧ W 4 ≤ W' 4
  | 0, _ => ⟨Z, W, h, sm_rf Z, rfl, by omega, Nat.le_refl _⟩
  | k + 1, hk => by
    obtain ⟨Z', W', h1, h2, h3, h4, h5⟩ := j_pass h k (by omega)
    obtain ⟨Z2, W2, g1, g2, g3, g4, g5⟩ := j_min h1 (by omega)
    refine ⟨Z2, W2, g1, sm_tr h2 g2, ?_, ?_, Nat.le_trans h5 g5⟩
    · rw [g3, h3, h2.2.2.1 _ (by omega)]
      show _ = W 2 + W 3 + (dsum Z t k + Z (24 + (t + k) / 60 % 24))
      omega
    · have := h2.1
      rw [Nat.succ_mul]
      omega
