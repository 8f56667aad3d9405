/-! MATHEMATICS: a new pump, a new object -/
theorem o_join {S : SS} {Z W : Nat → Nat} {n t : Nat} {B : Int} (h : JJ S Z W n t B) (hn : n < 3) {a b : Nat} (ha : a ≤ 500) (hb1 : 1 ≤ b) (hb : b ≤ 12) : ∃ Z', JJ (p_join S (nI a) (nI b)) Z' W (n + 1) t B := by
  obtain ⟨h8, hn3, h4⟩ := J_n h
  obtain ⟨hC, hW, hO, hA, hD, hP, hS, hL⟩ := h
  have hcl : (nI n).toNatClampNeg = n := nI_clamp (by omega)
  obtain ⟨Y, hY⟩ : ∃ Y, Y = upN (upN (upN Z (48 + 8 * n + 0) a) (48 + 8 * n + 1) b) 7 (n + 1) := ⟨_, rfl⟩
  have zu : ∀ j, j ≠ 48 + 8 * n + 0 → j ≠ 48 + 8 * n + 1 → j ≠ 7 → Y j = Z j := fun j h1 h2 h3 => by rw [hY, upN_n h3, upN_n h2, upN_n h1]
  have y0 : Y (48 + 8 * n + 0) = a := by rw [hY, upN_n (by omega), upN_n (by omega), upN_s]
  have y1 : Y (48 + 8 * n + 1) = b := by rw [hY, upN_n (by omega), upN_s]
  have y7 : Y 7 = n + 1 := by rw [hY, upN_s]
  have e3 : n = 0 ∨ n = 1 ∨ n = 2 := by omega
  obtain ⟨⟨a0, a1, a2⟩, ⟨b1, b2, b3⟩, c1, c2⟩ := hP n (by omega)
  obtain ⟨d2, d4, d5⟩ := c2 (Nat.le_refl n)
  unfold p_join
  rw [h8, if_pos (show nI n < 6 from nI_lt (b := 6) (by omega) (by omega)), hcl]
  refine ⟨Y, ?_, hW, ?_, ?_, jD_of hD (fun j hj => zu _ (by omega) (by omega) (by omega)), fun p hp => ?_, ?_, fun k hk => ?_⟩
  · have k1 := zC_P hC 2 0 n a rfl (by omega) (by omega) (x := nI a) rfl
    have k2 := zC_P k1 3 1 n b rfl (by omega) (by omega) (x := nI b) rfl
    have k3 := zC_5 k2 (upd (S.2.2.1 5) n (nI n))
    rw [hY]
    exact zC_I k3 8 (n + 1) (by omega) (x := nI n + 1) (nI_1 n)
  · show pl (upd (S.2.2.1 5) n (nI n)) (n + 1)
    obtain ⟨f1, f2, f3⟩ := hO
    refine ⟨fun q hq => ?_, fun k hk => ?_, fun q r hq hr he => ?_⟩
    · by_cases e : q = n
      · exact ⟨n, by omega, by rw [e]; exact pk_us⟩
      · obtain ⟨k, g1, g2⟩ := f1 q (by omega)
        exact ⟨k, by omega, (pk_un e).trans g2⟩
    · by_cases e : k = n
      · exact ⟨n, by omega, by rw [e]; exact pk_us⟩
      · obtain ⟨q, g1, g2⟩ := f2 k (by omega)
        exact ⟨q, by omega, (pk_un (by omega)).trans g2⟩
    · by_cases e : q = n
      · by_cases e2 : r = n
        · omega
        · exfalso
          obtain ⟨k, g1, g2⟩ := f1 r (by omega)
          rw [e, show upd (S.2.2.1 5) n (nI n) n = nI n from pk_us, show upd (S.2.2.1 5) n (nI n) r = S.2.2.1 5 r from pk_un e2, g2] at he
          have := (nI_eq (by omega) (by omega)).mp he
          omega
      · by_cases e2 : r = n
        · exfalso
          obtain ⟨k, g1, g2⟩ := f1 q (by omega)
          rw [e2, show upd (S.2.2.1 5) n (nI n) n = nI n from pk_us, show upd (S.2.2.1 5) n (nI n) q = S.2.2.1 5 q from pk_un e, g2] at he
          have := (nI_eq (by omega) (by omega)).mp he
          omega
        · rw [show upd (S.2.2.1 5) n (nI n) q = S.2.2.1 5 q from pk_un e, show upd (S.2.2.1 5) n (nI n) r = S.2.2.1 5 r from pk_un e2] at he
          exact f3 q r (by omega) (by omega) he
  · unfold jA at *
    rw [y7, zu 8 (by omega) (by omega) (by omega), zu 0 (by omega) (by omega) (by omega), zu 1 (by omega) (by omega) (by omega), zu 2 (by omega) (by omega) (by omega), zu 3 (by omega) (by omega) (by omega), zu 4 (by omega) (by omega) (by omega), zu 5 (by omega) (by omega) (by omega), zu 6 (by omega) (by omega) (by omega), zu 10 (by omega) (by omega) (by omega), zu 13 (by omega) (by omega) (by omega), zu 9 (by omega) (by omega) (by omega)]
    omega
  · by_cases e : p = n
    · subst e
      unfold jQ
      rw [y0, y1, zu (48 + 8 * p + 2) (by omega) (by omega) (by omega), zu (48 + 8 * p + 3) (by omega) (by omega) (by omega), zu (48 + 8 * p + 4) (by omega) (by omega) (by omega), zu (48 + 8 * p + 5) (by omega) (by omega) (by omega), zu (48 + 8 * p + 6) (by omega) (by omega) (by omega)]
      exact ⟨⟨ha, hb, a2⟩, ⟨b1, b2, b3⟩, fun _ => hb1, fun q9 => absurd q9 (by omega)⟩
    · have g : jQ Y n t p := jQ_of (hP p hp) (fun f hf => zu _ (by omega) (by omega) (by omega))
      exact ⟨g.1, g.2.1, fun q9 => g.2.2.1 (by omega), fun q9 => g.2.2.2 (by omega)⟩
  · obtain ⟨g1, g2, g3, g4, g5⟩ := hS
    unfold jS
    rw [zu 9 (by omega) (by omega) (by omega), zu 54 (by omega) (by omega) (by omega), zu 62 (by omega) (by omega) (by omega), zu 70 (by omega) (by omega) (by omega), zu 52 (by omega) (by omega) (by omega), zu 60 (by omega) (by omega) (by omega), zu 68 (by omega) (by omega) (by omega), zu 53 (by omega) (by omega) (by omega), zu 61 (by omega) (by omega) (by omega), zu 69 (by omega) (by omega) (by omega), zu 1 (by omega) (by omega) (by omega)]
    refine ⟨g1, g2, ?_, g4, g5⟩
    rcases e3 with e | e | e <;> subst e
    · rw [zu 56 (by omega) (by omega) (by omega), zu 64 (by omega) (by omega) (by omega), g3, show Z 53 = 0 from d5]
      omega
    · rw [zu 48 (by omega) (by omega) (by omega), zu 64 (by omega) (by omega) (by omega), g3, show Z 61 = 0 from d5]
      omega
    · rw [zu 48 (by omega) (by omega) (by omega), zu 56 (by omega) (by omega) (by omega), g3, show Z 69 = 0 from d5]
      omega
  · rw [zu 13 (by omega) (by omega) (by omega)] at hk
    have h1 := hL k hk
    rw [zu (102 + 3 * k) (by omega) (by omega) (by omega), zu (104 + 3 * k) (by omega) (by omega) (by omega), zu (103 + 3 * k) (by omega) (by omega) (by omega), show ah Y t k = ah Z t k from ?_]
    · exact ⟨Nat.lt_succ_of_lt h1.1, h1.2⟩
    · cases k with
      | zero => rfl
      | succ k => exact zu _ (by omega) (by omega) (by omega)
def z_new : Nat → Nat := fun k => if k = 0 then 10000 else if k = 1 then 5000 else if k = 2 then 4000 else if k = 3 then 8000 else if k = 4 then 500 else if k = 6 then 1 else if 24 ≤ k ∧ k < 48 then 20 else 0
theorem zC_new : zC s_new z_new := fun k hk => by
  unfold zd at hk
  have hrow : ∀ j x, j ≠ 0 → j ≠ 1 → s_new.2.2.1 j x = 0 := fun j x h0 h1 => by
    unfold s_new
    rw [setA_o h1, setA_o h0]
    rfl
  have hz : ∀ k, 7 ≤ k → ¬ (24 ≤ k ∧ k < 48) → z_new k = 0 := fun k h1 h2 => by
    unfold z_new
    rw [if_neg (by omega), if_neg (by omega), if_neg (by omega), if_neg (by omega), if_neg (by omega), if_neg (by omega), if_neg h2]
  have hn : ∀ i, 4 ≤ i → s_new.1 i = 0 := fun i hi => by
    show (if i = 0 then 10000 else if i = 1 then 5000 else if i = 2 then 4000 else if i = 3 then 8000 else (0 : Int32)) = 0
    rw [if_neg (by omega), if_neg (by omega), if_neg (by omega), if_neg (by omega)]
  by_cases h7 : k < 7
  · have e : k = 0 ∨ k = 1 ∨ k = 2 ∨ k = 3 ∨ k = 4 ∨ k = 5 ∨ k = 6 := by omega
    rcases e with e | e | e | e | e | e | e <;> subst e <;> rfl
  · by_cases hd : 24 ≤ k ∧ k < 48
    · obtain ⟨j, hj, rfl⟩ : ∃ j, j < 24 ∧ k = 24 + j := ⟨k - 24, by omega, by omega⟩
      rw [cv_d _ hj]
      unfold s_new z_new
      rw [setA_s, itr_fill, if_pos hj, if_neg (by omega), if_neg (by omega), if_neg (by omega), if_neg (by omega), if_neg (by omega), if_neg (by omega), if_pos hd]
      rfl
    · rw [hz k (by omega) hd]
      show cv s_new k = 0
      unfold cv
      rw [if_neg (by omega), if_neg h7]
      by_cases e7 : k = 7
      · rw [if_pos e7]; exact hn 8 (by omega)
      · rw [if_neg e7]
        by_cases e12 : k < 12
        · rw [if_pos e12]; exact hn _ (by omega)
        · rw [if_neg e12]
          by_cases e24 : k < 24
          · rw [if_pos e24]; exact hn 9 (by omega)
          · rw [if_neg e24, if_neg (by omega)]
            by_cases e96 : k < 96
            · rw [if_pos e96]
              exact hrow _ _ (by unfold pj; split <;> omega) (by unfold pj; split <;> omega)
            · rw [if_neg e96]; exact hrow _ _ (by omega) (by omega)
theorem j_new : JJ s_new z_new (fun _ => 0) 0 0 5000 := by
  refine ⟨zC_new, fun j _ => rfl, ⟨fun q hq => absurd hq (Nat.not_lt_zero _), fun q hq => absurd hq (Nat.not_lt_zero _), fun q _ hq => absurd hq (Nat.not_lt_zero _)⟩, ?_, fun j hj => ?_, fun p hp => ?_, ?_, fun k hk => absurd (show k < 0 from hk) (Nat.not_lt_zero _)⟩
  · exact ⟨rfl, by decide, rfl, by decide, by decide, by decide, by decide, by decide, by decide, by decide, by decide, by decide, by decide, by decide⟩
  · show (if _ then _ else _) ≤ 1000
    repeat' split
    all_goals omega
  · have hz : ∀ k, 48 ≤ k → z_new k = 0 := fun k h1 => by
      unfold z_new
      rw [if_neg (by omega), if_neg (by omega), if_neg (by omega), if_neg (by omega), if_neg (by omega), if_neg (by omega), if_neg (by omega)]
    unfold jQ
    rw [hz _ (by omega), hz _ (by omega), hz _ (by omega), hz _ (by omega), hz _ (by omega), hz _ (by omega), hz _ (by omega)]
    omega
  · exact ⟨rfl, by decide, rfl, by decide, fun j _ => Nat.zero_le _⟩
