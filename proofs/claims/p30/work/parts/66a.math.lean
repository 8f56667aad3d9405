/-! MATHEMATICS: the cells of a station as naturals -/
def pj (f : Nat) : Nat := if f < 3 then f + 2 else f + 3
/-- the station's cell that stands at place k of the model's row -/
def cv (S : SS) (k : Nat) : Int32 := if k < 4 then S.1 k else if k < 7 then S.2.2.1 0 (k - 4) else if k = 7 then S.1 8 else if k < 12 then S.1 (k - 4) else if k < 24 then S.1 9 else if k < 48 then S.2.2.1 1 (k - 24) else if k < 96 then S.2.2.1 (pj ((k - 48) % 8)) ((k - 48) / 8) else S.2.2.1 10 (k - 102)
def zd (k : Nat) : Prop := k < 12 ∨ k = 13 ∨ (24 ≤ k ∧ k < 48) ∨ (48 ≤ k ∧ k < 96 ∧ (k - 48) % 8 < 7) ∨ (102 ≤ k ∧ k < 138)
def upN (Z : Nat → Nat) (k v : Nat) : Nat → Nat := fun j => if j = k then v else Z j
theorem upN_s {Z : Nat → Nat} {k v : Nat} : upN Z k v k = v := if_pos rfl
theorem upN_n {Z : Nat → Nat} {k v j : Nat} (h : j ≠ k) : upN Z k v j = Z j := if_neg h
def zC (S : SS) (Z : Nat → Nat) : Prop := ∀ k, zd k → cv S k = nI (Z k)
theorem zd_lo {k : Nat} (h : k < 12) : zd k := Or.inl h
theorem zd_13 : zd 13 := Or.inr (Or.inl rfl)
theorem zd_d {j : Nat} (h : j < 24) : zd (24 + j) := Or.inr (Or.inr (Or.inl (by omega)))
theorem zd_p {p f : Nat} (hp : p < 6) (hf : f < 7) : zd (48 + 8 * p + f) := Or.inr (Or.inr (Or.inr (Or.inl (by omega))))
theorem zd_l {j : Nat} (h : j < 36) : zd (102 + j) := Or.inr (Or.inr (Or.inr (Or.inr (by omega))))
theorem cv_p (S : SS) {p f : Nat} (hp : p < 6) (hf : f < 7) : cv S (48 + 8 * p + f) = S.2.2.1 (pj f) p := by
  unfold cv
  rw [if_neg (by omega), if_neg (by omega), if_neg (by omega), if_neg (by omega), if_neg (by omega), if_neg (by omega), if_pos (by omega), show (48 + 8 * p + f - 48) % 8 = f by omega, show (48 + 8 * p + f - 48) / 8 = p by omega]
theorem cv_d (S : SS) {j : Nat} (h : j < 24) : cv S (24 + j) = S.2.2.1 1 j := by
  unfold cv
  rw [if_neg (by omega), if_neg (by omega), if_neg (by omega), if_neg (by omega), if_neg (by omega), if_pos (by omega), show 24 + j - 24 = j by omega]
theorem cv_s (S : SS) {j : Nat} (h : j < 3) : cv S (4 + j) = S.2.2.1 0 j := by
  unfold cv
  rw [if_neg (by omega), if_pos (by omega), show 4 + j - 4 = j by omega]
theorem cv_l (S : SS) {j : Nat} (h : j < 36) : cv S (102 + j) = S.2.2.1 10 j := by
  unfold cv
  rw [if_neg (by omega), if_neg (by omega), if_neg (by omega), if_neg (by omega), if_neg (by omega), if_neg (by omega), if_neg (by omega), show 102 + j - 102 = j by omega]
/-- where the station's number i stands in the model's row -/
def im (i : Nat) : Nat := if i < 4 then i else if i < 8 then i + 4 else if i = 8 then 7 else 13
theorem cv_setI (S : SS) (i : Nat) (hi : i < 10) (v : Int32) (j : Nat) (hj : zd j) : cv (setI S i v) j = if j = im i then v else cv S j := by
  unfold zd at hj
  simp only [cv, setI, upd, im]
  repeat' split
  all_goals first | rfl | omega
def ar (j : Nat) : Nat := if j < 4 then 99 else if j < 7 then 0 else if j < 24 then 99 else if j < 48 then 1 else if j < 96 then pj ((j - 48) % 8) else 10
def ax (j : Nat) : Nat := if j < 7 then j - 4 else if j < 48 then j - 24 else if j < 96 then (j - 48) / 8 else j - 102
theorem cv_setA (S : SS) (a : Nat) (f : Nat → Int32) (ha : a < 99) (j : Nat) (hj : zd j) : cv (setA S a f) j = if ar j = a then f (ax j) else cv S j := by
  unfold zd at hj
  simp only [cv, setA, ar, ax]
  repeat' split
  all_goals first | rfl | omega
theorem zC_I {S : SS} {Z : Nat → Nat} (h : zC S Z) (i : Nat) {x : Int32} (v : Nat) (hi : i < 10) (hx : x = nI v) : zC (setI S i x) (upN Z (im i) v) := fun j hj => by
  rw [cv_setI S i hi x j hj]
  unfold upN
  split
  · exact hx
  · exact h j hj
theorem zC_P {S : SS} {Z : Nat → Nat} (h : zC S Z) (a f p : Nat) {x : Int32} (v : Nat) (ha : pj f = a) (hp : p < 6) (hf : f < 7) (hx : x = nI v) : zC (setA S a (upd (S.2.2.1 a) p x)) (upN Z (48 + 8 * p + f) v) := fun j hj => by
  have ha9 : a < 99 := by unfold pj at ha; split at ha <;> omega
  rw [cv_setA S a _ ha9 j hj]
  have hz := h j hj
  unfold upN
  by_cases e : j = 48 + 8 * p + f
  · subst e
    have h1 : ar (48 + 8 * p + f) = a := by
      unfold ar
      rw [if_neg (by omega), if_neg (by omega), if_neg (by omega), if_neg (by omega), if_pos (by omega), show (48 + 8 * p + f - 48) % 8 = f by omega, ha]
    have h2 : ax (48 + 8 * p + f) = p := by
      unfold ax
      rw [if_neg (by omega), if_neg (by omega), if_pos (by omega)]; omega
    rw [if_pos h1, h2, if_pos rfl]
    exact pk_us.trans hx
  · rw [if_neg e]
    split
    · next h1 =>
      unfold zd at hj
      have h3 : 48 ≤ j ∧ j < 96 ∧ (j - 48) % 8 = f := by
        unfold ar at h1; unfold pj at h1 ha
        repeat' split at h1
        all_goals (split at ha <;> omega)
      have h4 : ax j = (j - 48) / 8 := by
        unfold ax
        rw [if_neg (by omega), if_neg (by omega), if_pos (by omega)]
      rw [h4]
      refine (pk_un (by omega)).trans ?_
      rw [← hz]
      unfold cv
      rw [if_neg (by omega), if_neg (by omega), if_neg (by omega), if_neg (by omega), if_neg (by omega), if_neg (by omega), if_pos (by omega), h3.2.2, ha]
    · exact hz
theorem zC_row {S : SS} {Z Z' : Nat → Nat} (h : zC S Z) (a f : Nat) {g : Nat → Int32} (ha : pj f = a) (hf : f < 7) (h1 : ∀ p, p < 6 → g p = nI (Z' (48 + 8 * p + f))) (h2 : ∀ k, zd k → ¬ (48 ≤ k ∧ k < 96 ∧ (k - 48) % 8 = f) → Z' k = Z k) : zC (setA S a g) Z' := fun j hj => by
  have ha9 : a < 99 := by unfold pj at ha; split at ha <;> omega
  rw [cv_setA S a _ ha9 j hj]
  by_cases e : 48 ≤ j ∧ j < 96 ∧ (j - 48) % 8 = f
  · have h3 : ar j = a := by
      unfold ar
      rw [if_neg (by omega), if_neg (by omega), if_neg (by omega), if_neg (by omega), if_pos (by omega), e.2.2, ha]
    have h4 : ax j = (j - 48) / 8 := by
      unfold ax
      rw [if_neg (by omega), if_neg (by omega), if_pos (by omega)]
    rw [if_pos h3, h4, h1 _ (by omega)]
    congr 2
    omega
  · rw [h2 j hj e, if_neg, h j hj]
    intro h3
    apply e
    unfold zd at hj
    unfold ar at h3; unfold pj at h3 ha
    repeat' split at h3
    all_goals (split at ha <;> omega)
theorem zC_5 {S : SS} {Z : Nat → Nat} (h : zC S Z) (g : Nat → Int32) : zC (setA S 5 g) Z := fun j hj => by
  rw [cv_setA S 5 _ (by omega) j hj, if_neg, h j hj]
  intro h3
  unfold zd at hj
  unfold ar pj at h3
  repeat' split at h3
  all_goals omega
theorem zC_D {S : SS} {Z : Nat → Nat} (h : zC S Z) (i : Nat) {x : Int32} (v : Nat) (hi : i < 24) (hx : x = nI v) : zC (setA S 1 (upd (S.2.2.1 1) i x)) (upN Z (24 + i) v) := fun j hj => by
  rw [cv_setA S 1 _ (by omega) j hj]
  have hz := h j hj
  unfold upN
  by_cases e : j = 24 + i
  · subst e
    rw [if_pos (by unfold ar; rw [if_neg (by omega), if_neg (by omega), if_neg (by omega), if_pos (by omega)]), if_pos rfl, show ax (24 + i) = i by unfold ax; rw [if_neg (by omega), if_pos (by omega)]; omega]
    exact pk_us.trans hx
  · rw [if_neg e]
    split
    · next h1 =>
      unfold zd at hj
      have h3 : 24 ≤ j ∧ j < 48 := by
        unfold ar pj at h1
        repeat' split at h1
        all_goals omega
      rw [show ax j = j - 24 by unfold ax; rw [if_neg (by omega), if_pos (by omega)]]
      refine (pk_un (by omega)).trans ?_
      rw [← hz]
      unfold cv
      rw [if_neg (by omega), if_neg (by omega), if_neg (by omega), if_neg (by omega), if_neg (by omega), if_pos (by omega)]
    · exact hz
theorem zC_S {S : SS} {Z : Nat → Nat} (h : zC S Z) (i : Nat) {x : Int32} (v : Nat) (hi : i < 3) (hx : x = nI v) : zC (setA S 0 (upd (S.2.2.1 0) i x)) (upN Z (4 + i) v) := fun j hj => by
  rw [cv_setA S 0 _ (by omega) j hj]
  have hz := h j hj
  unfold upN
  by_cases e : j = 4 + i
  · subst e
    rw [if_pos (by unfold ar; rw [if_neg (by omega), if_pos (by omega)]), if_pos rfl, show ax (4 + i) = i by unfold ax; rw [if_pos (by omega)]; omega]
    exact pk_us.trans hx
  · rw [if_neg e]
    split
    · next h1 =>
      unfold zd at hj
      have h3 : 4 ≤ j ∧ j < 7 := by
        unfold ar pj at h1
        repeat' split at h1
        all_goals omega
      rw [show ax j = j - 4 by unfold ax; rw [if_pos (by omega)]]
      refine (pk_un (by omega)).trans ?_
      rw [← hz]
      unfold cv
      rw [if_neg (by omega), if_pos (by omega)]
    · exact hz
theorem zC_G {S : SS} {Z Z' : Nat → Nat} (h : zC S Z) {g : Nat → Int32} (h1 : ∀ j, j < 36 → g j = nI (Z' (102 + j))) (h2 : ∀ k, zd k → k < 102 → Z' k = Z k) : zC (setA S 10 g) Z' := fun j hj => by
  rw [cv_setA S 10 _ (by omega) j hj]
  unfold zd at hj
  by_cases e : 102 ≤ j
  · rw [if_pos (by unfold ar; rw [if_neg (by omega), if_neg (by omega), if_neg (by omega), if_neg (by omega), if_neg (by omega)]), show ax j = j - 102 by unfold ax; rw [if_neg (by omega), if_neg (by omega), if_neg (by omega)], h1 _ (by omega)]
    congr 2
    omega
  · rw [if_neg, h2 j hj (by omega)]
    · exact h j hj
    · intro h3
      unfold ar pj at h3
      repeat' split at h3
      all_goals omega
theorem zC_L {S : SS} {Z : Nat → Nat} (h : zC S Z) (i : Nat) (x : Int64) : zC (setL S i x) Z := h
theorem zC_V {S : SS} {Z : Nat → Nat} (h : zC S Z) (f : Nat → Int64) : zC (setV S f) Z := h
theorem zC_eq {S : SS} {Z Z' : Nat → Nat} (h : zC S Z) (e : ∀ k, zd k → Z' k = Z k) : zC S Z' := fun k hk => by rw [e k hk]; exact h k hk
theorem zC_p {S : SS} {Z : Nat → Nat} (h : zC S Z) (a f : Nat) {p : Nat} (ha : pj f = a) (hp : p < 6) (hf : f < 7) : S.2.2.1 a p = nI (Z (48 + 8 * p + f)) := by
  rw [← h _ (zd_p hp hf), cv_p S hp hf, ha]
theorem zC_d {S : SS} {Z : Nat → Nat} (h : zC S Z) {j : Nat} (hj : j < 24) : S.2.2.1 1 j = nI (Z (24 + j)) := by
  rw [← h _ (zd_d hj), cv_d S hj]
theorem zC_s {S : SS} {Z : Nat → Nat} (h : zC S Z) {j : Nat} (hj : j < 3) : S.2.2.1 0 j = nI (Z (4 + j)) := by
  rw [← h _ (zd_lo (by omega)), cv_s S hj]
theorem zC_l {S : SS} {Z : Nat → Nat} (h : zC S Z) {j : Nat} (hj : j < 36) : S.2.2.1 10 j = nI (Z (102 + j)) := by
  rw [← h _ (zd_l hj), cv_l S hj]
theorem zC_i {S : SS} {Z : Nat → Nat} (h : zC S Z) {i : Nat} (hi : i < 10) : S.1 i = nI (Z (im i)) := by
  have h1 := h (im i) (by unfold zd im; split; omega; split; omega; split <;> omega)
  rw [← h1]
  have e : i = 0 ∨ i = 1 ∨ i = 2 ∨ i = 3 ∨ i = 4 ∨ i = 5 ∨ i = 6 ∨ i = 7 ∨ i = 8 ∨ i = 9 := by omega
  rcases e with e | e | e | e | e | e | e | e | e | e <;> subst e <;> rfl
theorem i32_inj {a b : Int32} (h : a.toInt = b.toInt) : a = b := Int32.toInt_inj.mp h
theorem frst_is (p : Nat → Bool) : ∀ n, (∀ j, j < frst p n → p j = false) ∧ (frst p n < n → p (frst p n) = true)
  | 0 => ⟨fun j h => absurd h (Nat.not_lt_zero j), fun h => absurd h (Nat.not_lt_zero _)⟩
  | n + 1 => by
    obtain ⟨h1, h2⟩ := frst_is p n
    have h3 := frst_le p n
    simp only [frst]
    by_cases e : frst p n < n
    · rw [if_pos e]
      exact ⟨h1, fun _ => h2 e⟩
    · rw [if_neg e]
      have e1 : frst p n = n := by omega
      rw [e1] at h1
      by_cases e2 : p n = true
      · rw [if_pos e2]
        exact ⟨h1, fun _ => e2⟩
      · rw [if_neg e2]
        refine ⟨fun j hj => ?_, fun h => absurd h (by omega)⟩
        rcases Nat.lt_or_ge j n with h9 | h9
        · exact h1 j h9
        · have h8 : j = n := by omega
          subst h8
          exact Bool.eq_false_iff.mpr e2
theorem itr_fill (v : Int32) (k : Nat) : ∀ (n : Nat) (f : Nat → Int32), itr (p_fillB v) n f k = if k < n then v else f k
  | 0, f => by rw [if_neg (Nat.not_lt_zero k)]; rfl
  | n + 1, f => by
    rw [itr_s]
    show (if k = n then v else itr (p_fillB v) n f k) = _
    rw [itr_fill v k n f]
    repeat' split
    all_goals first | rfl | omega
def zF (Z : Nat → Nat) (n f v : Nat) : Nat → Nat := fun k => if 48 ≤ k ∧ k < 48 + 8 * n ∧ (k - 48) % 8 = f then v else Z k
theorem setA_o {S : SS} {a j : Nat} {g : Nat → Int32} (h : j ≠ a) : (setA S a g).2.2.1 j = S.2.2.1 j := if_neg h
theorem setA_s {S : SS} {a : Nat} {g : Nat → Int32} : (setA S a g).2.2.1 a = g := if_pos rfl
theorem p_stopB_e (k : Nat) (g : (Nat → Int32) × Int32) : p_stopB k g = if g.1 k = 1 then (upd g.1 k 0, 1) else g := rfl
theorem stop_1 : ∀ (n : Nat) (g : Nat → Int32) (k : Nat), (itr p_stopB n (g, 0)).1 k = if k < n ∧ g k = 1 then 0 else g k
  | 0, g, k => by rw [if_neg (by omega)]; rfl
  | n + 1, g, k => by
    rw [itr_s]
    have hn : (itr p_stopB n (g, 0)).1 n = g n := by rw [stop_1 n g n]; exact if_neg (by omega)
    have hk := stop_1 n g k
    rw [p_stopB_e, hn]
    by_cases e : g n = 1
    · rw [if_pos e]
      show (if k = n then 0 else (itr p_stopB n (g, 0)).1 k) = _
      by_cases e2 : k = n
      · subst e2; rw [if_pos rfl, if_pos ⟨by omega, e⟩]
      · rw [if_neg e2, hk]
        by_cases e3 : k < n ∧ g k = 1
        · rw [if_pos e3, if_pos ⟨by omega, e3.2⟩]
        · rw [if_neg e3, if_neg (fun q => e3 ⟨by omega, q.2⟩)]
    · rw [if_neg e, hk]
      by_cases e3 : k < n ∧ g k = 1
      · rw [if_pos e3, if_pos ⟨by omega, e3.2⟩]
      · rw [if_neg e3, if_neg (fun q => e3 ⟨by
          rcases Nat.lt_or_ge k n with h9 | h9
          · exact h9
          · have h8 : k = n := by omega
            subst h8
            exact absurd q.2 e, q.2⟩)]
theorem stop_2 : ∀ (n : Nat) (g : Nat → Int32), (itr p_stopB n (g, 0)).2 = 0 ↔ ∀ k, k < n → ¬ g k = 1
  | 0, g => ⟨fun _ k hk => absurd hk (Nat.not_lt_zero k), fun _ => rfl⟩
  | n + 1, g => by
    rw [itr_s]
    have hn : (itr p_stopB n (g, 0)).1 n = g n := by rw [stop_1 n g n]; exact if_neg (by omega)
    have hk := stop_2 n g
    rw [p_stopB_e, hn]
    by_cases e : g n = 1
    · rw [if_pos e]
      exact ⟨fun q => absurd (show (1 : Int32) = 0 from q) (by decide), fun q => absurd e (q n (by omega))⟩
    · rw [if_neg e, hk]
      exact ⟨fun q k h9 => by
        rcases Nat.lt_or_ge k n with h8 | h8
        · exact q k h8
        · have h7 : k = n := by omega
          subst h7
          exact e, fun q k h9 => q k (by omega)⟩
theorem itr_on {S : SS} {c : Int32} (hc : S.1 8 = c) (k : Nat) : ∀ (n : Nat) (f : Nat → Int32), itr (p_onB S) n f k = if k < n then (if f k = 0 then c - 1 else f k - 1) else f k
  | 0, f => by rw [if_neg (Nat.not_lt_zero k)]; rfl
  | n + 1, f => by
    have hn : itr (p_onB S) n f n = f n := by rw [itr_on hc n n f]; exact if_neg (by omega)
    rw [itr_s]
    show (if k = n then (if itr (p_onB S) n f n = 0 then S.1 8 - 1 else itr (p_onB S) n f n - 1) else itr (p_onB S) n f k) = _
    rw [hn, hc]
    by_cases e : k = n
    · subst e; rw [if_pos rfl, if_pos (show k < k + 1 by omega)]
    · rw [if_neg e, itr_on hc k n f]
      by_cases e2 : k < n
      · rw [if_pos e2, if_pos (show k < n + 1 by omega)]
      · rw [if_neg e2, if_neg (show ¬ k < n + 1 by omega)]
def zS (Z : Nat → Nat) (n : Nat) : Nat → Nat := fun k => if (48 ≤ k ∧ k < 48 + 8 * n ∧ (k - 48) % 8 = 2) ∧ Z k = 1 then 0 else Z k
def zT (Z : Nat → Nat) (q : Nat) : Nat → Nat := upN (upN (upN Z (48 + 8 * q + 2) 1) (48 + 8 * q + 3) (Z (48 + 8 * q + 3) + 1)) (48 + 8 * q + 4) (Z (48 + 8 * q + 4) + 1)
def zG (Z : Nat → Nat) (q : Nat) : Nat → Nat := fun k => if k = 13 then (if 12 ≤ Z 13 then Z 13 else Z 13 + 1) else if k = 102 then q else if k = 103 then Z 8 else if k = 104 then Z (48 + 8 * q + 3) else if 105 ≤ k then Z (k - 3) else Z k
def zP (Z : Nat → Nat) (i : Nat) : Nat := itr (fun k r => if Z (48 + 8 * k + 2) = 1 then r + Z (48 + 8 * k + 0) else r) i 0
theorem zP_s (Z : Nat → Nat) (i : Nat) : zP Z (i + 1) = if Z (48 + 8 * i + 2) = 1 then zP Z i + Z (48 + 8 * i + 0) else zP Z i := rfl
theorem p_runB_e (S : SS) (k : Nat) (g : (Nat → Int32) × Int32) : p_runB S k g = if S.2.2.1 4 k = 1 then (upd g.1 k (g.1 k + 1), g.2 + S.2.2.1 2 k) else g := rfl
/-- what fits, what is taken, what leaks -/
def zf1 (Z : Nat → Nat) (n : Nat) : Nat := if Z 0 ≤ Z 1 + zP Z n then Z 0 else Z 1 + zP Z n
def zf2 (Z : Nat → Nat) (n h : Nat) : Nat := if Z (24 + h) ≤ zf1 Z n then Z (24 + h) else zf1 Z n
def zf3 (Z : Nat → Nat) (n h : Nat) : Nat := if Z 5 ≤ zf1 Z n - zf2 Z n h then Z 5 else zf1 Z n - zf2 Z n h
def zW (Z : Nat → Nat) (n h : Nat) : Nat → Nat := fun k => if k = 1 then zf1 Z n - zf2 Z n h - zf3 Z n h else if 48 ≤ k ∧ k < 48 + 8 * n ∧ (k - 48) % 8 = 5 ∧ Z (k - 3) = 1 then Z k + 1 else Z k
theorem c_in_t {x lo hi : Int32} {a b : Nat} (h : c_in x lo hi = true) (ha : lo = nI a) (hb : hi = nI b) (hb2 : b < 2 ^ 31) (hab : a ≤ b) : ∃ v, a ≤ v ∧ v ≤ b ∧ x = nI v := by
  subst ha; subst hb
  unfold c_in at h
  rw [decide_eq_true_eq, Int32.not_lt, Int32.not_lt] at h
  have h0 : ¬ x < 0 := by
    rw [Int32.not_lt]
    exact Int32.le_trans (nI_pos' (by omega)) h.1
  obtain ⟨v, hv, rfl⟩ := nI_of h0
  exact ⟨v, (nI_leI (by omega) hv).mp h.1, (nI_leI hv (by omega)).mp h.2, rfl⟩
theorem run_1 {S : SS} {Z : Nat → Nat} (hC : zC S Z) (hm : ∀ p, p < 6 → Z (48 + 8 * p + 2) ≤ 2) : ∀ i, i ≤ 6 → (itr (p_runB S) i (S.2.2.1 8, 0)).2 = nI (zP Z i) ∧ ∀ k, k < 6 → (itr (p_runB S) i (S.2.2.1 8, 0)).1 k = if k < i ∧ Z (48 + 8 * k + 2) = 1 then nI (Z (48 + 8 * k + 5) + 1) else nI (Z (48 + 8 * k + 5))
  | 0, _ => ⟨rfl, fun k hk => by rw [if_neg (by omega)]; exact zC_p hC 8 5 rfl hk (by omega)⟩
  | i + 1, hi => by
    obtain ⟨h1, h2⟩ := run_1 hC hm i (by omega)
    have b2 := hm i (by omega)
    have hc : (S.2.2.1 4 i = 1) ↔ Z (48 + 8 * i + 2) = 1 := by
      rw [zC_p hC 4 2 rfl (p := i) (by omega) (by omega)]
      exact nI_eq (b := 1) (by omega) (by omega)
    rw [itr_s, p_runB_e]
    by_cases e : Z (48 + 8 * i + 2) = 1
    · rw [if_pos (hc.mpr e)]
      refine ⟨?_, fun k hk => ?_⟩
      · show (itr (p_runB S) i (S.2.2.1 8, 0)).2 + S.2.2.1 2 i = _
        rw [h1, zP_s, if_pos e, zC_p hC 2 0 rfl (p := i) (by omega) (by omega), nI_add]
      · show upd (itr (p_runB S) i (S.2.2.1 8, 0)).1 i _ k = _
        by_cases e2 : k = i
        · subst e2
          refine pk_us.trans ?_
          rw [h2 k hk, if_neg (by omega), if_pos ⟨by omega, e⟩, nI_1]
        · refine (pk_un e2).trans ?_
          rw [h2 k hk]
          by_cases e3 : k < i ∧ Z (48 + 8 * k + 2) = 1
          · rw [if_pos e3, if_pos ⟨by omega, e3.2⟩]
          · rw [if_neg e3, if_neg (fun q => e3 ⟨by omega, q.2⟩)]
    · rw [if_neg (fun q => e (hc.mp q))]
      refine ⟨by rw [h1, zP_s, if_neg e], fun k hk => ?_⟩
      rw [h2 k hk]
      by_cases e3 : k < i ∧ Z (48 + 8 * k + 2) = 1
      · rw [if_pos e3, if_pos ⟨by omega, e3.2⟩]
      · rw [if_neg e3, if_neg (fun q => e3 ⟨by
          rcases Nat.lt_or_ge k i with h9 | h9
          · exact h9
          · have h8 : k = i := by omega
            subst h8
            exact absurd q.2 e, q.2⟩)]
