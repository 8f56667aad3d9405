/-! MATHEMATICS: what holds of a station all along the law: Z its cells, W its waters, n pumps, t the time; tt, u, v: how far starts, waters and minutes below have come -/
def pl (f : Nat → Int32) (n : Nat) : Prop := (∀ q, q < n → ∃ k, k < n ∧ f q = nI k) ∧ (∀ k, k < n → ∃ q, q < n ∧ f q = nI k) ∧ ∀ q r, q < n → r < n → f q = f r → q = r
def jA (Z : Nat → Nat) (n t v : Nat) : Prop := Z 7 = n ∧ n ≤ 3 ∧ Z 8 = t ∧ Z 0 ≤ 100000 ∧ Z 1 ≤ Z 0 ∧ 1 ≤ Z 2 ∧ Z 2 < Z 3 ∧ Z 3 ≤ Z 0 ∧ Z 4 ≤ 5000 ∧ Z 5 ≤ 100 ∧ Z 6 ≤ 1 ∧ Z 10 ≤ v ∧ Z 13 ≤ 12 ∧ Z 13 ≤ Z 9
def jD (Z : Nat → Nat) : Prop := ∀ j, j < 24 → Z (24 + j) ≤ 1000
def jQ (Z : Nat → Nat) (n u p : Nat) : Prop := (Z (48 + 8 * p + 0) ≤ 500 ∧ Z (48 + 8 * p + 1) ≤ 12 ∧ Z (48 + 8 * p + 2) ≤ 2) ∧ (Z (48 + 8 * p + 3) ≤ Z (48 + 8 * p + 4) ∧ Z (48 + 8 * p + 6) ≤ Z (48 + 8 * p + 4) ∧ Z (48 + 8 * p + 5) ≤ u) ∧ (p < n → 1 ≤ Z (48 + 8 * p + 1)) ∧ (n ≤ p → Z (48 + 8 * p + 2) = 0 ∧ Z (48 + 8 * p + 4) = 0 ∧ Z (48 + 8 * p + 5) = 0)
def jP (Z : Nat → Nat) (n u : Nat) : Prop := ∀ p, p < 6 → jQ Z n u p
def jS (Z W : Nat → Nat) (tt u : Nat) (B : Int) : Prop := Z 9 = Z 54 + Z 62 + Z 70 ∧ Z 52 + Z 60 + Z 68 ≤ tt ∧ W 0 = Z 48 * Z 53 + Z 56 * Z 61 + Z 64 * Z 69 ∧ (Z 1 : Int) + W 1 + W 2 + W 4 = B + W 0 ∧ ∀ j, j < 5 → W j ≤ 4000 * u
def ah (Z : Nat → Nat) (tt : Nat) : Nat → Nat
  | 0 => tt
  | k + 1 => Z (103 + 3 * k)
def jL (Z : Nat → Nat) (n tt : Nat) : Prop := ∀ k, k < Z 13 → Z (102 + 3 * k) < n ∧ (2 ≤ Z (104 + 3 * k) ∧ Z (104 + 3 * k) ≤ tt) ∧ Z (103 + 3 * k) < ah Z tt k
def J (S : SS) (Z W : Nat → Nat) (n t tt u v : Nat) (B : Int) : Prop := zC S Z ∧ (∀ j, j < 5 → S.2.2.2 j = lN (W j)) ∧ pl (S.2.2.1 5) n ∧ jA Z n t v ∧ jD Z ∧ jP Z n u ∧ jS Z W tt u B ∧ jL Z n tt
theorem jA_of {Z Z' : Nat → Nat} {n t v : Nat} (h : jA Z n t v) (e : ∀ k, k < 14 → Z' k = Z k) : jA Z' n t v := by
  unfold jA at *
  rw [e 7 (by omega), e 8 (by omega), e 0 (by omega), e 1 (by omega), e 2 (by omega), e 3 (by omega), e 4 (by omega), e 5 (by omega), e 6 (by omega), e 10 (by omega), e 13 (by omega), e 9 (by omega)]
  exact h
theorem jD_of {Z Z' : Nat → Nat} (h : jD Z) (e : ∀ j, j < 24 → Z' (24 + j) = Z (24 + j)) : jD Z' := fun j hj => by rw [e j hj]; exact h j hj
theorem jS_of {Z Z' W : Nat → Nat} {tt u : Nat} {B : Int} (h : jS Z W tt u B) (e : ∀ k, (k = 1 ∨ k = 9 ∨ (48 ≤ k ∧ k < 96 ∧ (k - 48) % 8 ≠ 2 ∧ (k - 48) % 8 ≠ 3)) → Z' k = Z k) : jS Z' W tt u B := by
  unfold jS at *
  rw [e 9 (by omega), e 54 (by omega), e 62 (by omega), e 70 (by omega), e 52 (by omega), e 60 (by omega), e 68 (by omega), e 48 (by omega), e 53 (by omega), e 56 (by omega), e 61 (by omega), e 64 (by omega), e 69 (by omega), e 1 (by omega)]
  exact h
theorem jL_of {Z Z' : Nat → Nat} {n tt : Nat} (h : jL Z n tt) (e : ∀ k, (k = 13 ∨ 102 ≤ k) → Z' k = Z k) : jL Z' n tt := fun k hk => by
  rw [e 13 (by omega)] at hk
  have h1 := h k hk
  rw [e _ (by omega), e _ (by omega), e _ (by omega), show ah Z' tt k = ah Z tt k from ?_]
  · exact h1
  · cases k with
    | zero => rfl
    | succ k => exact e _ (by omega)
theorem jQ_of {Z Z' : Nat → Nat} {n u p : Nat} (h : jQ Z n u p) (e : ∀ f, f < 7 → Z' (48 + 8 * p + f) = Z (48 + 8 * p + f)) : jQ Z' n u p := by
  unfold jQ at *
  rw [e 0 (by omega), e 1 (by omega), e 2 (by omega), e 3 (by omega), e 4 (by omega), e 5 (by omega), e 6 (by omega)]
  exact h
/-- starts of a pump are no more than all starts -/
theorem j_st {Z W : Nat → Nat} {n tt u : Nat} {B : Int} (hn : n ≤ 3) (hP : jP Z n u) (hS : jS Z W tt u B) {p : Nat} (hp : p < 6) : Z (48 + 8 * p + 4) ≤ tt := by
  have h1 := (hP p hp).2.2.2
  have h2 := hS.2.1
  have e : p = 0 ∨ p = 1 ∨ p = 2 ∨ n ≤ p := by omega
  rcases e with e | e | e | e
  · subst e; show Z 52 ≤ tt; omega
  · subst e; show Z 60 ≤ tt; omega
  · subst e; show Z 68 ≤ tt; omega
  · have := (h1 e).2.1; omega
theorem J_i {S : SS} {Z W : Nat → Nat} {n t tt u v : Nat} {B : Int} (h : J S Z W n t tt u v B) (i k : Nat) (hi : i < 10) (hk : im i = k) : S.1 i = nI (Z k) := by subst hk; exact zC_i h.1 hi
theorem J_n {S : SS} {Z W : Nat → Nat} {n t tt u v : Nat} {B : Int} (h : J S Z W n t tt u v B) : S.1 8 = nI n ∧ n ≤ 3 ∧ S.1 4 = nI t := by
  have h1 := J_i h 8 7 (by omega) rfl
  have h2 := J_i h 4 8 (by omega) rfl
  have h3 := h.2.2.2.1
  rw [h3.1] at h1
  rw [h3.2.2.1] at h2
  exact ⟨h1, h3.2.1, h2⟩
/-- what a step leaves as it was -/
def sm (Z Z' : Nat → Nat) : Prop := Z' 5 = Z 5 ∧ Z' 6 = Z 6 ∧ (∀ j, j < 24 → Z' (24 + j) = Z (24 + j)) ∧ Z 9 ≤ Z' 9 ∧ (Z 6 = 0 → Z' 9 = Z 9)
theorem sm_rf (Z : Nat → Nat) : sm Z Z := ⟨rfl, rfl, fun _ _ => rfl, Nat.le_refl _, fun _ => rfl⟩
theorem sm_lo {Z Z' : Nat → Nat} (e : ∀ k, k < 48 → k ≠ 1 → Z' k = Z k) : sm Z Z' := ⟨e 5 (by omega) (by omega), e 6 (by omega) (by omega), fun j hj => e _ (by omega) (by omega), by rw [e 9 (by omega) (by omega)]; exact Nat.le_refl _, fun _ => e 9 (by omega) (by omega)⟩
theorem sm_tr {Z1 Z2 Z3 : Nat → Nat} (a : sm Z1 Z2) (b : sm Z2 Z3) : sm Z1 Z3 := ⟨b.1.trans a.1, b.2.1.trans a.2.1, fun j hj => (b.2.2.1 j hj).trans (a.2.2.1 j hj), Nat.le_trans a.2.2.2.1 b.2.2.2.1, fun q => (b.2.2.2.2 (a.2.1.trans q)).trans (a.2.2.2.2 q)⟩
/-! the steps of a minute -/
theorem j_m1 {S : SS} {Z W : Nat → Nat} {n t tt u v : Nat} {B : Int} (h : J S Z W n t tt u v B) : J (s_m1 S) Z W n t tt u v B := by
  unfold s_m1
  split
  · exact ⟨zC_L h.1 _ _, h.2⟩
  · exact h
theorem j_m2 {S : SS} {Z W : Nat → Nat} {n t tt u v : Nat} {B : Int} (h : J S Z W n t tt u v B) (ht : t ≤ 1000000) : ∃ Z', J (s_m2 S n) Z' W n t tt u v B ∧ sm Z Z' := by
  obtain ⟨h8, hn3, h4⟩ := J_n h
  have hr : S.1 4 - S.1 4 / 60 * 60 = nI (t % 60) := by rw [h4]; exact pk_rem (a := t) (d := 60) (by omega) (by omega) (by omega)
  unfold s_m2
  rw [hr]
  obtain ⟨hC, hW, hO, hA, hD, hP, hS, hL⟩ := h
  by_cases e : nI (t % 60) = 0
  · rw [if_pos e]
    have z1 : ∀ k, (k < 48 ∨ 96 ≤ k ∨ (k - 48) % 8 ≠ 3) → zF Z n 3 0 k = Z k := fun k hk => if_neg (by omega)
    refine ⟨zF Z n 3 0, ⟨?_, hW, ?_, jA_of hA (fun k hk => z1 k (by omega)), jD_of hD (fun j hj => z1 _ (by omega)), fun p hp => ?_, jS_of hS (fun k hk => z1 k (by omega)), jL_of hL (fun k hk => z1 k (by omega))⟩, sm_lo (fun k hk _ => z1 k (by omega))⟩
    · refine zC_row hC 6 3 rfl (by omega) (fun p hp => ?_) (fun k hk hne => if_neg (by omega))
      rw [itr_fill]
      unfold zF
      by_cases e : p < n
      · rw [if_pos e, if_pos (by omega)]; rfl
      · rw [if_neg e, if_neg (by omega)]; exact zC_p hC 6 3 rfl hp (by omega)
    · show pl ((setA S 6 _).2.2.1 5) n
      rw [setA_o (by decide)]
      exact hO
    · have h1 := hP p hp
      have a3 : zF Z n 3 0 (48 + 8 * p + 3) ≤ Z (48 + 8 * p + 3) := by unfold zF; split <;> omega
      unfold jQ at *
      rw [z1 (48 + 8 * p + 0) (by omega), z1 (48 + 8 * p + 1) (by omega), z1 (48 + 8 * p + 2) (by omega), z1 (48 + 8 * p + 4) (by omega), z1 (48 + 8 * p + 5) (by omega), z1 (48 + 8 * p + 6) (by omega)]
      exact ⟨h1.1, ⟨Nat.le_trans a3 h1.2.1.1, h1.2.1.2⟩, h1.2.2⟩
  · rw [if_neg e]
    exact ⟨Z, ⟨hC, hW, hO, hA, hD, hP, hS, hL⟩, sm_rf Z⟩
theorem pl_on {f : Nat → Int32} {n : Nat} {S : SS} (hn : n ≤ 3) (h8 : S.1 8 = nI n) (h : pl f n) : pl (itr (p_onB S) n f) n := by
  obtain ⟨h1, h2, h3⟩ := h
  have hf : ∀ q k, q < n → f q = nI k → k < n → itr (p_onB S) n f q = nI (if k = 0 then n - 1 else k - 1) := fun q k hq he hk => by
    rw [itr_on (S := S) (c := nI n) h8 q n _, if_pos hq, he]
    by_cases e2 : k = 0
    · subst e2
      rw [if_pos rfl]
      exact pk_sub (b := 1) (by omega)
    · rw [if_neg (nI_ne0 (by omega) (by omega)), if_neg e2]
      exact pk_sub (b := 1) (by omega)
  refine ⟨fun q hq => ?_, fun k hk => ?_, fun q r hq hr he => ?_⟩
  · obtain ⟨k, hk, e⟩ := h1 q hq
    exact ⟨_, by split <;> omega, hf q k hq e hk⟩
  · by_cases e2 : k + 1 < n
    · obtain ⟨q, hq, e⟩ := h2 (k + 1) e2
      exact ⟨q, hq, by rw [hf q (k + 1) hq e e2, if_neg (by omega)]; rfl⟩
    · obtain ⟨q, hq, e⟩ := h2 0 (by omega)
      exact ⟨q, hq, by rw [hf q 0 hq e (by omega), if_pos rfl, show n - 1 = k by omega]⟩
  · obtain ⟨k1, hk1, e1⟩ := h1 q hq
    obtain ⟨k2, hk2, e2⟩ := h1 r hr
    rw [hf q k1 hq e1 hk1, hf r k2 hr e2 hk2] at he
    have e3 := (nI_eq (by split <;> omega) (by split <;> omega)).mp he
    refine h3 q r hq hr ?_
    rw [e1, e2, show k1 = k2 by split at e3 <;> split at e3 <;> omega]
theorem j_stop {S : SS} {Z W : Nat → Nat} {n t tt u v : Nat} {B : Int} (h : J S Z W n t tt u v B) : ∃ Z', J (p_stop S n) Z' W n t tt u v B ∧ sm Z Z' := by
  obtain ⟨h8, hn3, h4⟩ := J_n h
  obtain ⟨hC, hW, hO, hA, hD, hP, hS, hL⟩ := h
  have z1 : ∀ k, (k < 48 ∨ 96 ≤ k ∨ (k - 48) % 8 ≠ 2) → zS Z n k = Z k := fun k hk => if_neg (by omega)
  have hmode : ∀ p, p < 6 → S.2.2.1 4 p = nI (Z (48 + 8 * p + 2)) := fun p hp => zC_p hC 4 2 rfl hp (by omega)
  have hg : ∀ p, p < 6 → (p_stopR S n).1 p = nI (zS Z n (48 + 8 * p + 2)) := fun p hp => by
    unfold p_stopR zS
    rw [stop_1 n _ p, hmode p hp]
    have h3 := (hP p hp).1.2.2
    by_cases e : p < n ∧ Z (48 + 8 * p + 2) = 1
    · rw [if_pos ⟨e.1, by rw [e.2]; rfl⟩, if_pos ⟨by omega, e.2⟩]; rfl
    · rw [if_neg (fun q => e ⟨q.1, (nI_eq (b := 1) (by omega) (by omega)).mp q.2⟩), if_neg (fun q => e ⟨by omega, q.2⟩)]
  have hCs : zC (setA S 4 (p_stopR S n).1) (zS Z n) := zC_row hC 4 2 rfl (by omega) hg (fun k hk hne => if_neg (by omega))
  have hP2 : jP (zS Z n) n u := fun p hp => by
    have h1 := hP p hp
    have a3 : zS Z n (48 + 8 * p + 2) ≤ Z (48 + 8 * p + 2) := by unfold zS; split <;> omega
    unfold jQ at *
    rw [z1 (48 + 8 * p + 0) (by omega), z1 (48 + 8 * p + 1) (by omega), z1 (48 + 8 * p + 3) (by omega), z1 (48 + 8 * p + 4) (by omega), z1 (48 + 8 * p + 5) (by omega), z1 (48 + 8 * p + 6) (by omega)]
    exact ⟨⟨h1.1.1, h1.1.2.1, by omega⟩, h1.2.1, h1.2.2.1, fun q => ⟨by have := (h1.2.2.2 q).1; omega, (h1.2.2.2 q).2⟩⟩
  refine ⟨zS Z n, ?_, sm_lo (fun k hk _ => z1 k (by omega))⟩
  unfold p_stop
  split
  · refine ⟨hCs, hW, ?_, jA_of hA (fun k hk => z1 k (by omega)), jD_of hD (fun j hj => z1 _ (by omega)), hP2, jS_of hS (fun k hk => z1 k (by omega)), jL_of hL (fun k hk => z1 k (by omega))⟩
    show pl ((setA S 4 _).2.2.1 5) n
    rw [setA_o (by decide)]
    exact hO
  · refine ⟨zC_5 hCs _, hW, ?_, jA_of hA (fun k hk => z1 k (by omega)), jD_of hD (fun j hj => z1 _ (by omega)), hP2, jS_of hS (fun k hk => z1 k (by omega)), jL_of hL (fun k hk => z1 k (by omega))⟩
    show pl ((setA (setA S 4 _) 5 _).2.2.1 5) n
    rw [setA_s]
    refine pl_on hn3 h8 ?_
    rw [setA_o (by decide)]
    exact hO
/-- the pump that would start: it keeps its oath, unless it is forced -/
theorem first_sp (S : SS) (w : Int32) : ∀ n, (itr (p_firstB S w) n (-1, 6)).1 = -1 ∨ ∃ q, q < n ∧ (itr (p_firstB S w) n (-1, 6)).1 = nI q ∧ (w = 0 ∨ ¬ S.2.2.1 3 q ≤ S.2.2.1 6 q)
  | 0 => Or.inl rfl
  | n + 1 => by
    rw [itr_s]
    unfold p_firstB
    split
    · next e => exact Or.inr ⟨n, by omega, rfl, e.2.1⟩
    · rcases first_sp S w n with h | ⟨q, h1, h2⟩
      · exact Or.inl h
      · exact Or.inr ⟨q, by omega, h2⟩
theorem j_logC {S : SS} {Z : Nat → Nat} (hC : zC S Z) {q : Nat} (hq : q < 6) (h13 : Z 13 ≤ 12) : zC (b_put S (nI q) (S.1 4) (S.2.2.1 6 q)) (zG Z q) := by
  have s9 : S.1 9 = nI (Z 13) := zC_i hC (i := 9) (by omega)
  have s4 : S.1 4 = nI (Z 8) := zC_i hC (i := 4) (by omega)
  have s6 : S.2.2.1 6 q = nI (Z (48 + 8 * q + 3)) := zC_p hC 6 3 rfl (by omega) (by omega)
  have hrow : ∀ j, j < 36 → b_row S (nI q) (S.1 4) (S.2.2.1 6 q) j = nI (zG Z q (102 + j)) := fun j hj => by
    unfold b_row zG
    rw [if_neg (by omega)]
    by_cases e2 : j = 2
    · subst e2
      exact pk_us.trans s6
    · refine (pk_un e2).trans ?_
      by_cases e1 : j = 1
      · subst e1
        exact pk_us.trans s4
      · refine (pk_un e1).trans ?_
        by_cases e0 : j = 0
        · subst e0
          exact pk_us
        · refine (pk_un e0).trans ?_
          show va_cpy (S.2.2.1 10) (S.2.2.1 10) 0 3 33 j = _
          rw [pk_cpy_in (by omega) (by omega), if_neg (by omega), if_neg (by omega), if_neg (by omega), if_pos (by omega), zC_l hC (by omega)]
          congr 2
          omega
  have hC1 : zC (setA S 10 (b_row S (nI q) (S.1 4) (S.2.2.1 6 q))) (fun k => if k = 13 then Z 13 else zG Z q k) := zC_G hC (fun j hj => by rw [if_neg (by omega)]; exact hrow j hj) (fun k hk h1 => by
    by_cases e : k = 13
    · rw [if_pos e, e]
    · rw [if_neg e]
      unfold zG
      rw [if_neg e, if_neg (by omega), if_neg (by omega), if_neg (by omega), if_neg (by omega)])
  unfold b_put
  rw [s9]
  by_cases e : 12 ≤ Z 13
  · have c : (12 : Int32) ≤ nI (Z 13) := nI_le e (by omega)
    rw [if_pos c]
    refine zC_eq hC1 (fun k hk => ?_)
    by_cases e2 : k = 13
    · rw [if_pos e2, e2]; unfold zG; rw [if_pos rfl, if_pos e]
    · rw [if_neg e2]
  · have c : ¬ (12 : Int32) ≤ nI (Z 13) := fun q9 => e ((nI_leI (a := 12) (by omega) (by omega)).mp q9)
    rw [if_neg c]
    refine zC_eq (zC_I hC1 9 (Z 13 + 1) (by omega) (nI_1 _)) (fun k hk => ?_)
    show zG Z q k = if k = 13 then Z 13 + 1 else if k = 13 then Z 13 else zG Z q k
    by_cases e2 : k = 13
    · rw [if_pos e2, e2]; unfold zG; rw [if_pos rfl, if_neg e]
    · rw [if_neg e2, if_neg e2]
