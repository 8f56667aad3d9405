/-! MATHEMATICS: a station's state S and the model's row w, cell by cell, over one row of naturals Z -/
def pj (f : Nat) : Nat := if f < 3 then f + 2 else f + 3
/-- the station's cell that stands at place k of the model's row -/
def cv (S : SS) (k : Nat) : Int32 := if k < 4 then S.1 k else if k < 7 then S.2.2.1 0 (k - 4) else if k = 7 then S.1 8 else if k < 12 then S.1 (k - 4) else if k < 24 then S.1 9 else if k < 48 then S.2.2.1 1 (k - 24) else if k < 96 then S.2.2.1 (pj ((k - 48) % 8)) ((k - 48) / 8) else S.2.2.1 10 (k - 102)
def zd (k : Nat) : Prop := k < 12 ∨ k = 13 ∨ (24 ≤ k ∧ k < 48) ∨ (48 ≤ k ∧ k < 96 ∧ (k - 48) % 8 < 7) ∨ (102 ≤ k ∧ k < 138)
def upN (Z : Nat → Nat) (k v : Nat) : Nat → Nat := fun j => if j = k then v else Z j
theorem upN_s {Z : Nat → Nat} {k v : Nat} : upN Z k v k = v := if_pos rfl
theorem upN_n {Z : Nat → Nat} {k v j : Nat} (h : j ≠ k) : upN Z k v j = Z j := if_neg h
def zC (S : SS) (Z : Nat → Nat) : Prop := ∀ k, zd k → cv S k = nI (Z k)
def zM (w : Nat → Int64) (Z : Nat → Nat) : Prop := ∀ k, zd k → w k = lN (Z k)
theorem zd_lo {k : Nat} (h : k < 12) : zd k := Or.inl h
theorem zd_13 : zd 13 := Or.inr (Or.inl rfl)
theorem zd_d {j : Nat} (h : j < 24) : zd (24 + j) := Or.inr (Or.inr (Or.inl (by omega)))
theorem zd_p {p f : Nat} (hp : p < 6) (hf : f < 7) : zd (48 + 8 * p + f) := Or.inr (Or.inr (Or.inr (Or.inl (by omega))))
theorem zd_l {j : Nat} (h : j < 36) : zd (102 + j) := Or.inr (Or.inr (Or.inr (Or.inr (by omega))))
theorem cv_p (S : SS) {p f : Nat} (hp : p < 6) (hf : f < 7) : cv S (48 + 8 * p + f) = S.2.2.1 (pj f) p := by
  unfold cv
  rw [if_neg (by omega), if_neg (by omega), if_neg (by omega), if_neg (by omega), if_neg (by omega), if_neg (by omega), if_pos (by omega), show (48 + 8 * p + f - 48) % 8 = f by omega, show (48 + 8 * p + f - 48) / 8 = p by omega]
theorem cv_d (S : SS) {j : Nat} (h : j < 24) : cv S (24 + j) = S.2.2.1 1 j := by
  unfold cv
  rw [if_neg (by omega), if_neg (by omega), if_neg (by omega), if_neg (by omega), if_neg (by omega), if_pos (by omega), show 24 + j - 24 = j by omega]
theorem cv_s (S : SS) {j : Nat} (h : j < 3) : cv S (4 + j) = S.2.2.1 0 j := by
  unfold cv
  rw [if_neg (by omega), if_pos (by omega), show 4 + j - 4 = j by omega]
theorem cv_l (S : SS) {j : Nat} (h : j < 36) : cv S (102 + j) = S.2.2.1 10 j := by
  unfold cv
  rw [if_neg (by omega), if_neg (by omega), if_neg (by omega), if_neg (by omega), if_neg (by omega), if_neg (by omega), if_neg (by omega), show 102 + j - 102 = j by omega]
/-- where the station's number i stands in the model's row -/
def im (i : Nat) : Nat := if i < 4 then i else if i < 8 then i + 4 else if i = 8 then 7 else 13
theorem cv_setI (S : SS) (i : Nat) (hi : i < 10) (v : Int32) (j : Nat) (hj : zd j) : cv (setI S i v) j = if j = im i then v else cv S j := by
  unfold zd at hj
  simp only [cv, setI, upd, im]
  repeat' split
  all_goals first | rfl | omega
def ar (j : Nat) : Nat := if j < 4 then 99 else if j < 7 then 0 else if j < 24 then 99 else if j < 48 then 1 else if j < 96 then pj ((j - 48) % 8) else 10
def ax (j : Nat) : Nat := if j < 7 then j - 4 else if j < 48 then j - 24 else if j < 96 then (j - 48) / 8 else j - 102
theorem cv_setA (S : SS) (a : Nat) (f : Nat → Int32) (ha : a < 99) (j : Nat) (hj : zd j) : cv (setA S a f) j = if ar j = a then f (ax j) else cv S j := by
  unfold zd at hj
  simp only [cv, setA, ar, ax]
  repeat' split
  all_goals first | rfl | omega
theorem zC_I {S : SS} {Z : Nat → Nat} (h : zC S Z) (i : Nat) {x : Int32} (v : Nat) (hi : i < 10) (hx : x = nI v) : zC (setI S i x) (upN Z (im i) v) := fun j hj => by
  rw [cv_setI S i hi x j hj]
  unfold upN
  split
  · exact hx
  · exact h j hj
theorem zC_P {S : SS} {Z : Nat → Nat} (h : zC S Z) (a f p : Nat) {x : Int32} (v : Nat) (ha : pj f = a) (hp : p < 6) (hf : f < 7) (hx : x = nI v) : zC (setA S a (upd (S.2.2.1 a) p x)) (upN Z (48 + 8 * p + f) v) := fun j hj => by
  have ha9 : a < 99 := by unfold pj at ha; split at ha <;> omega
  rw [cv_setA S a _ ha9 j hj]
  have hz := h j hj
  unfold upN
  by_cases e : j = 48 + 8 * p + f
  · subst e
    have h1 : ar (48 + 8 * p + f) = a := by
      unfold ar
      rw [if_neg (by omega), if_neg (by omega), if_neg (by omega), if_neg (by omega), if_pos (by omega), show (48 + 8 * p + f - 48) % 8 = f by omega, ha]
    have h2 : ax (48 + 8 * p + f) = p := by
      unfold ax
      rw [if_neg (by omega), if_neg (by omega), if_pos (by omega)]; omega
    rw [if_pos h1, h2, if_pos rfl]
    exact pk_us.trans hx
  · rw [if_neg e]
    split
    · next h1 =>
      unfold zd at hj
      have h3 : 48 ≤ j ∧ j < 96 ∧ (j - 48) % 8 = f := by
        unfold ar at h1; unfold pj at h1 ha
        repeat' split at h1
        all_goals (split at ha <;> omega)
      have h4 : ax j = (j - 48) / 8 := by
        unfold ax
        rw [if_neg (by omega), if_neg (by omega), if_pos (by omega)]
      rw [h4]
      refine (pk_un (by omega)).trans ?_
      rw [← hz]
      unfold cv
      rw [if_neg (by omega), if_neg (by omega), if_neg (by omega), if_neg (by omega), if_neg (by omega), if_neg (by omega), if_pos (by omega), h3.2.2, ha]
    · exact hz
theorem zC_row {S : SS} {Z Z' : Nat → Nat} (h : zC S Z) (a f : Nat) {g : Nat → Int32} (ha : pj f = a) (hf : f < 7) (h1 : ∀ p, p < 6 → g p = nI (Z' (48 + 8 * p + f))) (h2 : ∀ k, zd k → ¬ (48 ≤ k ∧ k < 96 ∧ (k - 48) % 8 = f) → Z' k = Z k) : zC (setA S a g) Z' := fun j hj => by
  have ha9 : a < 99 := by unfold pj at ha; split at ha <;> omega
  rw [cv_setA S a _ ha9 j hj]
  by_cases e : 48 ≤ j ∧ j < 96 ∧ (j - 48) % 8 = f
  · have h3 : ar j = a := by
      unfold ar
      rw [if_neg (by omega), if_neg (by omega), if_neg (by omega), if_neg (by omega), if_pos (by omega), e.2.2, ha]
    have h4 : ax j = (j - 48) / 8 := by
      unfold ax
      rw [if_neg (by omega), if_neg (by omega), if_pos (by omega)]
    rw [if_pos h3, h4, h1 _ (by omega)]
    congr 2
    omega
  · rw [h2 j hj e, if_neg, h j hj]
    intro h3
    apply e
    unfold zd at hj
    unfold ar at h3; unfold pj at h3 ha
    repeat' split at h3
    all_goals (split at ha <;> omega)
theorem zC_5 {S : SS} {Z : Nat → Nat} (h : zC S Z) (g : Nat → Int32) : zC (setA S 5 g) Z := fun j hj => by
  rw [cv_setA S 5 _ (by omega) j hj, if_neg, h j hj]
  intro h3
  unfold zd at hj
  unfold ar pj at h3
  repeat' split at h3
  all_goals omega
theorem zC_D {S : SS} {Z : Nat → Nat} (h : zC S Z) (i : Nat) {x : Int32} (v : Nat) (hi : i < 24) (hx : x = nI v) : zC (setA S 1 (upd (S.2.2.1 1) i x)) (upN Z (24 + i) v) := fun j hj => by
  rw [cv_setA S 1 _ (by omega) j hj]
  have hz := h j hj
  unfold upN
  by_cases e : j = 24 + i
  · subst e
    rw [if_pos (by unfold ar; rw [if_neg (by omega), if_neg (by omega), if_neg (by omega), if_pos (by omega)]), if_pos rfl, show ax (24 + i) = i by unfold ax; rw [if_neg (by omega), if_pos (by omega)]; omega]
    exact pk_us.trans hx
  · rw [if_neg e]
    split
    · next h1 =>
      unfold zd at hj
      have h3 : 24 ≤ j ∧ j < 48 := by
        unfold ar pj at h1
        repeat' split at h1
        all_goals omega
      rw [show ax j = j - 24 by unfold ax; rw [if_neg (by omega), if_pos (by omega)]]
      refine (pk_un (by omega)).trans ?_
      rw [← hz]
      unfold cv
      rw [if_neg (by omega), if_neg (by omega), if_neg (by omega), if_neg (by omega), if_neg (by omega), if_pos (by omega)]
    · exact hz
theorem zC_S {S : SS} {Z : Nat → Nat} (h : zC S Z) (i : Nat) {x : Int32} (v : Nat) (hi : i < 3) (hx : x = nI v) : zC (setA S 0 (upd (S.2.2.1 0) i x)) (upN Z (4 + i) v) := fun j hj => by
  rw [cv_setA S 0 _ (by omega) j hj]
  have hz := h j hj
  unfold upN
  by_cases e : j = 4 + i
  · subst e
    rw [if_pos (by unfold ar; rw [if_neg (by omega), if_pos (by omega)]), if_pos rfl, show ax (4 + i) = i by unfold ax; rw [if_pos (by omega)]; omega]
    exact pk_us.trans hx
  · rw [if_neg e]
    split
    · next h1 =>
      unfold zd at hj
      have h3 : 4 ≤ j ∧ j < 7 := by
        unfold ar pj at h1
        repeat' split at h1
        all_goals omega
      rw [show ax j = j - 4 by unfold ax; rw [if_pos (by omega)]]
      refine (pk_un (by omega)).trans ?_
      rw [← hz]
      unfold cv
      rw [if_neg (by omega), if_pos (by omega)]
    · exact hz
theorem zC_G {S : SS} {Z Z' : Nat → Nat} (h : zC S Z) {g : Nat → Int32} (h1 : ∀ j, j < 36 → g j = nI (Z' (102 + j))) (h2 : ∀ k, zd k → k < 102 → Z' k = Z k) : zC (setA S 10 g) Z' := fun j hj => by
  rw [cv_setA S 10 _ (by omega) j hj]
  unfold zd at hj
  by_cases e : 102 ≤ j
  · rw [if_pos (by unfold ar; rw [if_neg (by omega), if_neg (by omega), if_neg (by omega), if_neg (by omega), if_neg (by omega)]), show ax j = j - 102 by unfold ax; rw [if_neg (by omega), if_neg (by omega), if_neg (by omega)], h1 _ (by omega)]
    congr 2
    omega
  · rw [if_neg, h2 j hj (by omega)]
    · exact h j hj
    · intro h3
      unfold ar pj at h3
      repeat' split at h3
      all_goals omega
theorem zC_L {S : SS} {Z : Nat → Nat} (h : zC S Z) (i : Nat) (x : Int64) : zC (setL S i x) Z := h
theorem zC_V {S : SS} {Z : Nat → Nat} (h : zC S Z) (f : Nat → Int64) : zC (setV S f) Z := h
theorem zC_eq {S : SS} {Z Z' : Nat → Nat} (h : zC S Z) (e : ∀ k, zd k → Z' k = Z k) : zC S Z' := fun k hk => by rw [e k hk]; exact h k hk
theorem zM_eq {w : Nat → Int64} {Z Z' : Nat → Nat} (h : zM w Z) (e : ∀ k, zd k → Z' k = Z k) : zM w Z' := fun k hk => by rw [e k hk]; exact h k hk
theorem zM_up {w : Nat → Int64} {Z : Nat → Nat} (h : zM w Z) (k : Nat) {x : Int64} (v : Nat) (hx : x = lN v) : zM (vp_updL w k x) (upN Z k v) := fun j hj => by
  unfold vp_updL upN
  split
  · exact hx
  · exact h j hj
theorem zM_skip {w : Nat → Int64} {Z : Nat → Nat} (h : zM w Z) (k : Nat) (x : Int64) (hk : ¬ zd k) : zM (vp_updL w k x) Z := fun j hj => by
  unfold vp_updL
  split
  · next e => subst e; exact absurd hj hk
  · exact h j hj
theorem zC_p {S : SS} {Z : Nat → Nat} (h : zC S Z) (a f : Nat) {p : Nat} (ha : pj f = a) (hp : p < 6) (hf : f < 7) : S.2.2.1 a p = nI (Z (48 + 8 * p + f)) := by
  rw [← h _ (zd_p hp hf), cv_p S hp hf, ha]
theorem zC_d {S : SS} {Z : Nat → Nat} (h : zC S Z) {j : Nat} (hj : j < 24) : S.2.2.1 1 j = nI (Z (24 + j)) := by
  rw [← h _ (zd_d hj), cv_d S hj]
theorem zC_s {S : SS} {Z : Nat → Nat} (h : zC S Z) {j : Nat} (hj : j < 3) : S.2.2.1 0 j = nI (Z (4 + j)) := by
  rw [← h _ (zd_lo (by omega)), cv_s S hj]
theorem zC_l {S : SS} {Z : Nat → Nat} (h : zC S Z) {j : Nat} (hj : j < 36) : S.2.2.1 10 j = nI (Z (102 + j)) := by
  rw [← h _ (zd_l hj), cv_l S hj]
theorem zC_i {S : SS} {Z : Nat → Nat} (h : zC S Z) {i : Nat} (hi : i < 10) : S.1 i = nI (Z (im i)) := by
  have h1 := h (im i) (by unfold zd im; split; omega; split; omega; split <;> omega)
  rw [← h1]
  have e : i = 0 ∨ i = 1 ∨ i = 2 ∨ i = 3 ∨ i = 4 ∨ i = 5 ∨ i = 6 ∨ i = 7 ∨ i = 8 ∨ i = 9 := by omega
  rcases e with e | e | e | e | e | e | e | e | e | e <;> subst e <;> rfl
/-- what the naturals keep: n pumps, the time t, nothing over b -/
def zB (Z : Nat → Nat) (n t b : Nat) : Prop :=
  Z 7 = n ∧ n ≤ 6 ∧ Z 8 = t ∧ Z 0 ≤ 100000 ∧ Z 1 ≤ Z 0 ∧ (Z 2 < Z 3 ∧ Z 3 ≤ Z 0) ∧ Z 4 ≤ 5000 ∧ Z 5 ≤ 100 ∧ Z 6 ≤ 1 ∧ Z 13 ≤ 12 ∧ (∀ j, j < 24 → Z (24 + j) ≤ 1000) ∧ (∀ p, p < 6 → Z (48 + 8 * p + 0) ≤ 500) ∧ ∀ k, zd k → Z k ≤ b
theorem zB_of {Z Z' : Nat → Nat} {n t b b' : Nat} (h : zB Z n t b) (h1 : ∀ k, k < 9 → Z' k = Z k) (h13 : Z' 13 ≤ 12) (h2 : ∀ j, j < 24 → Z' (24 + j) = Z (24 + j)) (h3 : ∀ p, p < 6 → Z' (48 + 8 * p + 0) = Z (48 + 8 * p + 0)) (hb : ∀ k, zd k → Z' k ≤ b') : zB Z' n t b' := by
  obtain ⟨a7, an, a8, a0, a1, a2, a4, a5, a6, a13, ad, ac, ab⟩ := h
  refine ⟨by rw [h1 7 (by omega)]; exact a7, an, by rw [h1 8 (by omega)]; exact a8, by rw [h1 0 (by omega)]; exact a0, by rw [h1 1 (by omega), h1 0 (by omega)]; exact a1, by rw [h1 2 (by omega), h1 3 (by omega), h1 0 (by omega)]; exact a2, by rw [h1 4 (by omega)]; exact a4, by rw [h1 5 (by omega)]; exact a5, by rw [h1 6 (by omega)]; exact a6, h13, fun j hj => by rw [h2 j hj]; exact ad j hj, fun p hp => by rw [h3 p hp]; exact ac p hp, hb⟩
theorem zB_up {Z : Nat → Nat} {n t b : Nat} (h : zB Z n t b) (k v : Nat) (hk : 9 ≤ k ∧ k ≠ 13 ∧ (k < 24 ∨ 48 ≤ k) ∧ (k < 48 ∨ 96 ≤ k ∨ (k - 48) % 8 ≠ 0)) (b' : Nat) (hv : v ≤ b') (hbb : b ≤ b') : zB (upN Z k v) n t b' :=
  zB_of h (fun j hj => upN_n (by omega)) (by rw [upN_n (by omega)]; exact h.2.2.2.2.2.2.2.2.2.1) (fun j hj => upN_n (by omega)) (fun p hp => upN_n (by omega)) (fun j hj => by
    unfold upN
    split
    · exact hv
    · exact Nat.le_trans (h.2.2.2.2.2.2.2.2.2.2.2.2 j hj) hbb)
theorem zB_b {Z : Nat → Nat} {n t b : Nat} (h : zB Z n t b) (b' : Nat) (hbb : b ≤ b') : zB Z n t b' :=
  zB_of h (fun _ _ => rfl) h.2.2.2.2.2.2.2.2.2.1 (fun _ _ => rfl) (fun _ _ => rfl) (fun j hj => Nat.le_trans (h.2.2.2.2.2.2.2.2.2.2.2.2 j hj) hbb)
theorem zB_le {Z : Nat → Nat} {n t b : Nat} (h : zB Z n t b) {k : Nat} (hk : zd k) : Z k ≤ b := h.2.2.2.2.2.2.2.2.2.2.2.2 k hk
theorem zB_le' {Z : Nat → Nat} {n t b : Nat} (h : zB Z n t b) (k : Nat) (hk : k < 12) : Z k ≤ b := zB_le h (zd_lo hk)
/-- places and order -/
def zO (f : Nat → Int32) (w : Nat → Int64) (n : Nat) : Prop := (∀ k, k < n → ∃ q, q < n ∧ w (96 + k) = lN q ∧ f q = nI k) ∧ ∀ q, q < n → ∃ k, k < n ∧ f q = nI k ∧ w (96 + k) = lN q
theorem zO_w {f : Nat → Int32} {w w' : Nat → Int64} {n : Nat} (h : zO f w n) (e : ∀ k, k < n → w' (96 + k) = w (96 + k)) : zO f w' n := by
  refine ⟨fun k hk => ?_, fun q hq => ?_⟩
  · obtain ⟨q, h1, h2, h3⟩ := h.1 k hk
    exact ⟨q, h1, (e k hk).trans h2, h3⟩
  · obtain ⟨k, h1, h2, h3⟩ := h.2 q hq
    exact ⟨k, h1, h2, (e k h1).trans h3⟩
def zL (S : SS) (w : Nat → Int64) : Prop := w 12 = S.2.1 1 ∧ (∀ j, j < 5 → w (14 + j) = S.2.2.2 j) ∧ w 19 = - S.2.1 0
def Rl (S : SS) (w : Nat → Int64) (Z : Nat → Nat) (n t b : Nat) : Prop := zC S Z ∧ zM w Z ∧ zB Z n t b ∧ zO (S.2.2.1 5) w n ∧ zL S w
def bg (t : Nat) : Int64 := if 1320 < t ∧ (1320 < t % 1440 ∨ t % 1440 ≤ 359) then 1 else 0
theorem i32_inj {a b : Int32} (h : a.toInt = b.toInt) : a = b := Int32.toInt_inj.mp h
theorem Rl_i {S : SS} {w : Nat → Int64} {Z : Nat → Nat} {n t b : Nat} (h : Rl S w Z n t b) (i k : Nat) (hi : i < 10) (hk : im i = k) : S.1 i = nI (Z k) := by subst hk; exact zC_i h.1 hi
theorem Rl_w {S : SS} {w : Nat → Int64} {Z : Nat → Nat} {n t b : Nat} (h : Rl S w Z n t b) (k : Nat) (hk : k < 12) : w k = lN (Z k) := h.2.1 k (zd_lo hk)
