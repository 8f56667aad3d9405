/-! MATHEMATICS: a quotient of whole numbers between 0 and 1, as a double -/
theorem dq_val {a b : Int32} (ha : 0 ≤ a.toInt) (hb : 0 < b.toInt) : FP.Core.val64 (FP.ddiv (FP.i2d a) (FP.i2d b)) = FP.Core.roundRatio FP.Core.b64 false a.toInt.natAbs b.toInt.natAbs 0 := by
  obtain ⟨s, c, q, h1⟩ := FP.Core.i2d_fin a
  obtain ⟨t, d, r, h2⟩ := FP.Core.i2d_fin b
  have w1 : FP.Core.Whole a.toInt (.fin s c q) := by
    have h := FP.Core.i2d_int a
    unfold FP.Core.DInt at h
    rw [h1] at h
    exact h
  have w2 : FP.Core.Whole b.toInt (.fin t d r) := by
    have h := FP.Core.i2d_int b
    unfold FP.Core.DInt at h
    rw [h2] at h
    exact h
  have e1 : s = false := by
    have g := FP.Core.sgn_roundRatio FP.Core.b64 (decide (a.toInt < 0)) a.toInt.natAbs 1 0
    have g2 : FP.Core.val64 (FP.Core.i2d a) = FP.Core.roundRatio FP.Core.b64 (decide (a.toInt < 0)) a.toInt.natAbs 1 0 := FP.Core.val64_i2d a
    rw [← g2, h1] at g
    exact g.trans (decide_eq_false (by omega))
  have e2 : t = false := (FP.Core.whole_sign w2 (by omega)).trans (decide_eq_false (by omega))
  have hd : d ≠ 0 := fun z => by
    have := (FP.Core.whole_zero w2).mp z
    omega
  have n1 := FP.Core.whole_natAbs w1
  have n2 := FP.Core.whole_natAbs w2
  show FP.Core.val64 (FP.Core.ddiv (FP.Core.i2d a) (FP.Core.i2d b)) = _
  rw [FP.Core.val64_ddiv, h1, h2]
  simp only [FP.Core.quotient, if_neg hd]
  rw [e1, e2]
  refine FP.Core.roundRatio_congr (by omega) (by omega) ?_
  obtain ⟨m, hm⟩ : ∃ m, m = q.toNat + (-r).toNat - (q - r - 0).toNat := ⟨_, rfl⟩
  have m1 : q.toNat + (-r).toNat = (q - r - 0).toNat + m := by omega
  have m2 : (-q).toNat + r.toNat = (0 - (q - r)).toNat + m := by omega
  have hp := Nat.two_pow_pos m
  refine Nat.eq_of_mul_eq_mul_right hp ?_
  rw [Nat.mul_assoc, ← Nat.pow_add, ← m1, Nat.mul_assoc (a.toInt.natAbs * d), ← Nat.pow_add, ← m2, Nat.pow_add, Nat.pow_add]
  calc c * b.toInt.natAbs * (2 ^ q.toNat * 2 ^ (-r).toNat) = (c * 2 ^ q.toNat) * (b.toInt.natAbs * 2 ^ (-r).toNat) := by ac_rfl
    _ = (a.toInt.natAbs * 2 ^ (-q).toNat) * (d * 2 ^ r.toNat) := by rw [n1, n2]
    _ = a.toInt.natAbs * d * (2 ^ (-q).toNat * 2 ^ r.toNat) := by ac_rfl
theorem cv_nlt {x y : Int} (h : y ≤ x) (op : CmpOp) : ¬ Op.cmpValue (some (compare x y)) op < 0 := by
  simp only [compare, compareOfLessAndEq]
  rw [if_neg (by omega)]
  split
  · show ¬ (0 : Int32) < 0
    decide
  · show ¬ (1 : Int32) < 0
    decide
theorem cv_ngt {x y : Int} (h : x ≤ y) (op : CmpOp) : ¬ 0 < Op.cmpValue (some (compare x y)) op := by
  simp only [compare, compareOfLessAndEq]
  by_cases e : x < y
  · rw [if_pos e]
    show ¬ (0 : Int32) < -1
    decide
  · rw [if_neg e, if_pos (by omega)]
    show ¬ (0 : Int32) < 0
    decide
theorem dq_in {a b : Int32} (ha : 0 ≤ a.toInt) (hb : 0 < b.toInt) (hab : a.toInt ≤ b.toInt) : ¬ Op.cmpValue (FP.dcmp (FP.ddiv (FP.i2d a) (FP.i2d b)) FP.dconst0) .l < 0 ∧ ¬ 0 < Op.cmpValue (FP.dcmp (FP.ddiv (FP.i2d a) (FP.i2d b)) FP.dconst1) .g := by
  have hv := dq_val ha hb
  have hf := FP.Core.val64_fits (FP.ddiv (FP.i2d a) (FP.i2d b))
  have hn : FP.Core.val64 (FP.ddiv (FP.i2d a) (FP.i2d b)) ≠ .nan := by rw [hv]; exact FP.Core.roundRatio_ne_nan _ _ _ _ _
  have hs : FP.Core.sgn (FP.Core.val64 (FP.ddiv (FP.i2d a) (FP.i2d b))) = false := by rw [hv]; exact FP.Core.sgn_roundRatio _ _ _ _ _
  have f0 := FP.Core.val64_fits FP.Core.dconst0
  have f1 := FP.Core.val64_fits FP.Core.dconst1
  have c0 := FP.Core.order_zval FP.Core.good_b64 hf f0 hn (by rw [FP.Core.val64_dconst0]; exact FP.Core.Datum.noConfusion)
  have c1 := FP.Core.order_zval FP.Core.good_b64 hf f1 hn (by rw [FP.Core.val64_dconst1]; exact FP.Core.Datum.noConfusion)
  refine ⟨?_, ?_⟩
  · show ¬ Op.cmpValue (FP.Core.order (FP.Core.val64 _) (FP.Core.val64 FP.Core.dconst0)) .l < 0
    rw [c0]
    refine cv_nlt ?_ _
    rw [FP.Core.val64_dconst0]
    unfold FP.Core.zval
    rw [hs]
    show FP.Core.signed false (0 * _) ≤ FP.Core.signed false _
    rw [Nat.zero_mul]
    show (0 : Int) ≤ ((_ : Nat) : Int)
    omega
  · show ¬ 0 < Op.cmpValue (FP.Core.order (FP.Core.val64 _) (FP.Core.val64 FP.Core.dconst1)) .g
    rw [c1]
    refine cv_ngt ?_ _
    rw [FP.Core.val64_dconst1] at f1 ⊢
    unfold FP.Core.zval
    rw [hs]
    have hz : FP.Core.zmag FP.Core.b64 (FP.Core.val64 (FP.ddiv (FP.i2d a) (FP.i2d b))) ≤ FP.Core.zmag FP.Core.b64 (.fin false (2 ^ 52) (-52)) := by
      rw [hv]
      refine FP.Core.zmag_roundRatio_le (e0 := FP.Core.b64.qmin) FP.Core.good_b64 (by omega) f1 FP.Core.Datum.noConfusion (Int.le_refl _) (by rw [FP.Core.qmin_b64]; decide) ?_
      rw [show FP.Core.zmag FP.Core.b64 (.fin false (2 ^ 52) (-52)) = FP.Core.inUnits (2 ^ 52) (-52) FP.Core.b64.qmin from rfl]
      unfold FP.Core.inUnits
      rw [FP.Core.qmin_b64, show ((0 : Int) - -1074).toNat = 1074 from rfl, show ((-52 : Int) - -1074).toNat = 1022 from rfl, show ((-1074 : Int) - -1074).toNat = 0 from rfl, ← Nat.pow_add, ← Nat.pow_add, show 52 + 1022 + 0 = 1074 from rfl, Nat.mul_comm]
      exact Nat.mul_le_mul_left _ (by omega)
    show ((_ : Nat) : Int) ≤ ((_ : Nat) : Int)
    exact Int.ofNat_le.mpr hz
/-! sums over the pumps -/
theorem sum3 {g : Nat → Int32} {z : Nat → Nat} {F : Nat → Int32 → Int32} (hF : ∀ k r, F k r = r + g k) (hg : ∀ k, k < 3 → g k = nI (z k)) {n : Nat} (hn : n ≤ 3) (h0 : ∀ k, n ≤ k → k < 3 → z k = 0) : itr F n 0 = nI (z 0 + z 1 + z 2) := by
  have e : n = 0 ∨ n = 1 ∨ n = 2 ∨ n = 3 := by omega
  rcases e with e | e | e | e <;> subst e
  · rw [h0 0 (by omega) (by omega), h0 1 (by omega) (by omega), h0 2 (by omega) (by omega)]; rfl
  · show F 0 0 = _
    rw [hF, hg 0 (by omega), h0 1 (by omega) (by omega), h0 2 (by omega) (by omega), Int32.zero_add]
    rfl
  · show F 1 (F 0 0) = _
    rw [hF, hF, hg 0 (by omega), hg 1 (by omega), h0 2 (by omega) (by omega), Int32.zero_add, nI_add]
    rfl
  · show F 2 (F 1 (F 0 0)) = _
    rw [hF, hF, hF, hg 0 (by omega), hg 1 (by omega), hg 2 (by omega), Int32.zero_add, nI_add, nI_add]
theorem sum3L {g : Nat → Int64} {z : Nat → Nat} {F : Nat → Int64 → Int64} (hF : ∀ k r, F k r = r + g k) (hg : ∀ k, k < 3 → g k = lN (z k)) {n : Nat} (hn : n ≤ 3) (h0 : ∀ k, n ≤ k → k < 3 → z k = 0) : itr F n 0 = lN (z 0 + z 1 + z 2) := by
  have e : n = 0 ∨ n = 1 ∨ n = 2 ∨ n = 3 := by omega
  rcases e with e | e | e | e <;> subst e
  · rw [h0 0 (by omega) (by omega), h0 1 (by omega) (by omega), h0 2 (by omega) (by omega)]; rfl
  · show F 0 0 = _
    rw [hF, hg 0 (by omega), h0 1 (by omega) (by omega), h0 2 (by omega) (by omega), Int64.zero_add]
    rfl
  · show F 1 (F 0 0) = _
    rw [hF, hF, hg 0 (by omega), hg 1 (by omega), h0 2 (by omega) (by omega), Int64.zero_add, lN_add]
    rfl
  · show F 2 (F 1 (F 0 0)) = _
    rw [hF, hF, hF, hg 0 (by omega), hg 1 (by omega), hg 2 (by omega), Int64.zero_add, lN_add, lN_add]
def hp_pl (S : SS) (k : Nat) (z : Int32) : Int32 := z ||| (1 <<< (S.2.2.1 5 k &&& 31))
def hp_br (S : SS) (k : Nat) (u : Int32) : Int32 := u + S.2.2.1 9 k
def hp_wt (S : SS) (k : Nat) (v : Int64) : Int64 := v + (S.2.2.1 2 k).toInt64 * (S.2.2.1 8 k).toInt64
theorem hp_split (S : SS) : ∀ n, itr (hp_B S) n (0, 0, 0, 0, 0) = (p_count S n 1, p_count S n 2, itr (hp_pl S) n 0, itr (hp_br S) n 0, itr (hp_wt S) n 0)
  | 0 => rfl
  | n + 1 => by
    rw [itr_s, hp_split S n]
    show hp_B S n _ = (p_cntB S 1 n (p_count S n 1), p_cntB S 2 n (p_count S n 2), hp_pl S n (itr (hp_pl S) n 0), hp_br S n (itr (hp_br S) n 0), hp_wt S n (itr (hp_wt S) n 0))
    unfold hp_B p_cntB hp_pl hp_br hp_wt
    simp only [Int32.add_zero]
theorem pl_bits {S : SS} {n : Nat} (hn : n ≤ 3) (h : pl (S.2.2.1 5) n) : itr (hp_pl S) n 0 = (1 <<< (nI n &&& 31)) - 1 := by
  obtain ⟨h1, h2, h3⟩ := h
  have e : n = 0 ∨ n = 1 ∨ n = 2 ∨ n = 3 := by omega
  rcases e with e | e | e | e <;> subst e
  · show (0 : Int32) = (1 <<< (nI 0 &&& 31)) - 1
    decide +kernel
  · obtain ⟨k0, g0, e0⟩ := h1 0 (by omega)
    have : k0 = 0 := by omega
    subst this
    show (0 : Int32) ||| (1 <<< (S.2.2.1 5 0 &&& 31)) = _
    rw [e0]
    decide +kernel
  · obtain ⟨k0, g0, e0⟩ := h1 0 (by omega)
    obtain ⟨k1, g1, e1⟩ := h1 1 (by omega)
    have d01 : k0 ≠ k1 := fun e => absurd (h3 0 1 (by omega) (by omega) (by rw [e0, e1, e])) (by decide)
    show ((0 : Int32) ||| (1 <<< (S.2.2.1 5 0 &&& 31))) ||| (1 <<< (S.2.2.1 5 1 &&& 31)) = _
    rw [e0, e1]
    have c : (k0 = 0 ∧ k1 = 1) ∨ (k0 = 1 ∧ k1 = 0) := by omega
    rcases c with ⟨c0, c1⟩ | ⟨c0, c1⟩ <;> subst c0 <;> subst c1 <;> decide +kernel
  · obtain ⟨k0, g0, e0⟩ := h1 0 (by omega)
    obtain ⟨k1, g1, e1⟩ := h1 1 (by omega)
    obtain ⟨k2, g2, e2⟩ := h1 2 (by omega)
    have d01 : k0 ≠ k1 := fun e => absurd (h3 0 1 (by omega) (by omega) (by rw [e0, e1, e])) (by decide)
    have d02 : k0 ≠ k2 := fun e => absurd (h3 0 2 (by omega) (by omega) (by rw [e0, e2, e])) (by decide)
    have d12 : k1 ≠ k2 := fun e => absurd (h3 1 2 (by omega) (by omega) (by rw [e1, e2, e])) (by decide)
    show (((0 : Int32) ||| (1 <<< (S.2.2.1 5 0 &&& 31))) ||| (1 <<< (S.2.2.1 5 1 &&& 31))) ||| (1 <<< (S.2.2.1 5 2 &&& 31)) = _
    rw [e0, e1, e2]
    have c : (k0 = 0 ∧ k1 = 1 ∧ k2 = 2) ∨ (k0 = 0 ∧ k1 = 2 ∧ k2 = 1) ∨ (k0 = 1 ∧ k1 = 0 ∧ k2 = 2) ∨ (k0 = 1 ∧ k1 = 2 ∧ k2 = 0) ∨ (k0 = 2 ∧ k1 = 0 ∧ k2 = 1) ∨ (k0 = 2 ∧ k1 = 1 ∧ k2 = 0) := by omega
    rcases c with ⟨c0, c1, c2⟩ | ⟨c0, c1, c2⟩ | ⟨c0, c1, c2⟩ | ⟨c0, c1, c2⟩ | ⟨c0, c1, c2⟩ | ⟨c0, c1, c2⟩ <;> subst c0 <;> subst c1 <;> subst c2 <;> decide +kernel
theorem lead_iff {S : SS} {n : Nat} (hn : n ≤ 3) (h : pl (S.2.2.1 5) n) {k : Nat} (hk : k < n) : p_lead S n = nI k ↔ S.2.2.1 5 k = 0 := by
  obtain ⟨h1, h2, h3⟩ := h
  obtain ⟨q, hq, e⟩ := h2 0 (by omega)
  obtain ⟨i1, i2⟩ := frst_is (fun k => decide (S.2.2.1 5 k = 0)) n
  have hle := frst_le (fun k => decide (S.2.2.1 5 k = 0)) n
  have hlt : p_leadAt S n < n := by
    rcases Nat.lt_or_ge (p_leadAt S n) n with a | a
    · exact a
    · have := i1 q (Nat.lt_of_lt_of_le hq a)
      exact absurd e (of_decide_eq_false this)
  have h0 : S.2.2.1 5 (p_leadAt S n) = 0 := of_decide_eq_true (i2 hlt)
  unfold p_lead
  rw [if_pos hlt]
  constructor
  · intro g
    rw [(nI_eq (by omega) (by omega)).mp g] at h0
    exact h0
  · intro g
    rw [h3 _ _ hlt hk (h0.trans g.symm)]
theorem f_pumps {S : SS} {Z W : Nat → Nat} {n t : Nat} {B : Int} (h : JJ S Z W n t B) (ht : t ≤ 1000000) : hp_ok S n := by
  obtain ⟨h8, hn3, h4⟩ := J_n h
  have s5 : S.1 5 = nI (Z 9) := J_i h 5 9 (by omega) rfl
  obtain ⟨hC, hW, hO, hA, hD, hP, hS, hL⟩ := h
  have st := fun p (hp : p < 6) => j_st hn3 hP hS (p := p) hp
  refine ⟨fun k hk => ⟨?_, ?_, lead_iff hn3 hO hk⟩, ?_⟩
  · have a := hP k (by omega)
    have b := st k (by omega)
    rw [zC_p hC 7 4 rfl (p := k) (by omega) (by omega), zC_p hC 6 3 rfl (p := k) (by omega) (by omega)]
    exact nI_nlt a.2.1.1 (by omega)
  · have a := hP k (by omega)
    have b := st k (by omega)
    rw [zC_p hC 7 4 rfl (p := k) (by omega) (by omega), zC_p hC 9 6 rfl (p := k) (by omega) (by omega)]
    exact nI_nlt a.2.1.2.1 (by omega)
  · rw [hp_split, pl_bits hn3 hO]
    have b : itr (hp_br S) n 0 = S.1 5 := by
      rw [s5, hS.1]
      refine sum3 (z := fun k => Z (48 + 8 * k + 6)) (g := fun k => S.2.2.1 9 k) (fun _ _ => rfl) (fun k hk => zC_p hC 9 6 rfl (p := k) (by omega) (by omega)) hn3 (fun k h1 h2 => ?_)
      have a := hP k (by omega)
      have := (a.2.2.2 h1).2.1
      have := a.2.1.2.1
      show Z (48 + 8 * k + 6) = 0
      omega
    have c : itr (hp_wt S) n 0 = S.2.2.2 0 := by
      rw [hW 0 (by omega), hS.2.2.1]
      refine sum3L (z := fun k => Z (48 + 8 * k + 0) * Z (48 + 8 * k + 5)) (g := fun k => (S.2.2.1 2 k).toInt64 * (S.2.2.1 8 k).toInt64) (fun _ _ => rfl) (fun k hk => ?_) hn3 (fun k h1 h2 => ?_)
      · have a0 : Z (48 + 8 * k + 0) ≤ 500 := (hP k (by omega)).1.1
        have a5 : Z (48 + 8 * k + 5) ≤ t := (hP k (by omega)).2.1.2.2
        show (S.2.2.1 2 k).toInt64 * (S.2.2.1 8 k).toInt64 = lN (Z (48 + 8 * k + 0) * Z (48 + 8 * k + 5))
        rw [zC_p hC 2 0 rfl (p := k) (by omega) (by omega), zC_p hC 8 5 rfl (p := k) (by omega) (by omega), nI_l (by omega), nI_l (by omega), lN_mul]
      · have a := ((hP k (by omega)).2.2.2 h1).2.2
        show Z (48 + 8 * k + 0) * Z (48 + 8 * k + 5) = 0
        rw [a, Nat.mul_zero]
    rw [b, c]
theorem f_hon {S : SS} {Z W : Nat → Nat} {n t : Nat} {B : Int} (h : JJ S Z W n t B) (ht : t ≤ 1000000) : ¬ Op.cmpValue (FP.dcmp (c_hon S n) FP.dconst0) .l < 0 ∧ ¬ 0 < Op.cmpValue (FP.dcmp (c_hon S n) FP.dconst1) .g := by
  obtain ⟨h8, hn3, h4⟩ := J_n h
  have s5 : S.1 5 = nI (Z 9) := J_i h 5 9 (by omega) rfl
  obtain ⟨hC, hW, hO, hA, hD, hP, hS, hL⟩ := h
  have ha : p_all S n = nI (Z 52 + Z 60 + Z 68) := by
    refine sum3 (z := fun k => Z (48 + 8 * k + 4)) (g := fun k => S.2.2.1 7 k) (fun _ _ => rfl) (fun k hk => zC_p hC 7 4 rfl (p := k) (by omega) (by omega)) hn3 (fun k h1 h2 => ?_)
    exact ((hP k (by omega)).2.2.2 h1).2.1
  have g1 := hS.1
  have g2 := hS.2.1
  have b0 : Z 54 ≤ Z 52 := (hP 0 (by omega)).2.1.2.1
  have b1 : Z 62 ≤ Z 60 := (hP 1 (by omega)).2.1.2.1
  have b2 : Z 70 ≤ Z 68 := (hP 2 (by omega)).2.1.2.1
  unfold c_hon
  rw [ha, s5]
  by_cases e : nI (Z 52 + Z 60 + Z 68) = 0
  · rw [if_pos e]
    exact ⟨by decide +kernel, by decide +kernel⟩
  · rw [if_neg e, pk_sub (by omega)]
    have e2 : Z 52 + Z 60 + Z 68 ≠ 0 := fun q => e (by rw [q]; rfl)
    refine dq_in ?_ ?_ ?_
    · rw [nI_toInt (by omega)]; omega
    · rw [nI_toInt (by omega)]; omega
    · rw [nI_toInt (by omega), nI_toInt (by omega)]; omega
theorem f_holds {S : SS} {Z W : Nat → Nat} {n t : Nat} {B : Int} (h : JJ S Z W n t B) (ht : t ≤ 1000000) {b : Int64} (hb : b = Int64.ofInt B) : S.1 9 = nI (Z 13) ∧ Z 13 ≤ 12 ∧ hh_ok S n (Z 13) b := by
  have h0 := h
  obtain ⟨h8, hn3, h4⟩ := J_n h
  have s0 : S.1 0 = nI (Z 0) := J_i h 0 0 (by omega) rfl
  have s1 : S.1 1 = nI (Z 1) := J_i h 1 1 (by omega) rfl
  have s2 : S.1 2 = nI (Z 2) := J_i h 2 2 (by omega) rfl
  have s3 : S.1 3 = nI (Z 3) := J_i h 3 3 (by omega) rfl
  have s5 : S.1 5 = nI (Z 9) := J_i h 5 9 (by omega) rfl
  have s6 : S.1 6 = nI (Z 10) := J_i h 6 10 (by omega) rfl
  have s9 : S.1 9 = nI (Z 13) := J_i h 9 13 (by omega) rfl
  obtain ⟨hC, hW, hO, hA, hD, hP, hS, hL⟩ := h
  obtain ⟨z7, -, z8, z0, z1, z2, z23, z3, z4, z5, z6, z10, z13, z139⟩ := hA
  have z9 : Z 9 ≤ t := by
    have g1 := hS.1
    have g2 := hS.2.1
    have b0 : Z 54 ≤ Z 52 := (hP 0 (by omega)).2.1.2.1
    have b1 : Z 62 ≤ Z 60 := (hP 1 (by omega)).2.1.2.1
    have b2 : Z 70 ≤ Z 68 := (hP 2 (by omega)).2.1.2.1
    omega
  have hlv : hh_lv S b = lN (Z 1) := by
    unfold hh_lv
    have hi : ∀ k : Nat, lN k = Int64.ofInt (k : Int) := fun k => Int64.ofInt_eq_ofNat.symm
    rw [hW 0 (by omega), hW 1 (by omega), hW 2 (by omega), hW 4 (by omega), hb, hi, hi, hi, hi, hi, ← Int64.ofInt_add, ← Int64.ofInt_sub, ← Int64.ofInt_sub, ← Int64.ofInt_sub]
    congr 1
    have := hS.2.2.2.1
    omega
  refine ⟨s9, z13, ⟨?_, ?_, ?_, ?_, ?_, ?_⟩, ⟨?_, ?_, ?_⟩, fun k hk => ?_, f_pumps h0 ht, f_hon h0 ht⟩
  · rw [hlv, s1, nI_l (by omega)]
  · rw [hlv]
    exact fun q => absurd ((lN_lt (b := 0) (by omega) (by omega)).mp q) (by omega)
  · rw [hlv, s0, nI_l (by omega)]
    exact fun q => absurd ((lN_lt (by omega) (by omega)).mp q) (by omega)
  · rw [s2]
    exact nI_nlt (b := 1) z2 (by omega)
  · rw [s2, s3]
    exact nI_ge z23 (by omega)
  · rw [s0, s3]
    exact nI_nlt z3 (by omega)
  · rw [h4, s6]
    exact nI_nlt z10 (by omega)
  · rw [s9]
    exact nI_nlt (a := 12) z13 (by omega)
  · rw [s9, s5]
    exact nI_nlt z139 (by omega)
  · obtain ⟨f1, ⟨f2, f3⟩, f4⟩ := hL k hk
    rw [zC_l hC (j := 3 * k + 2) (by omega), zC_l hC (j := 3 * k + 1) (by omega), zC_l hC (j := 3 * k + 0) (by omega), show 102 + (3 * k + 2) = 104 + 3 * k by omega, show 102 + (3 * k + 1) = 103 + 3 * k by omega, show 102 + (3 * k + 0) = 102 + 3 * k by omega, h8]
    refine ⟨nI_nlt (b := 2) f2 (by omega), ?_, nI_ge f1 (by omega)⟩
    cases k with
    | zero =>
      show ¬ S.1 4 ≤ _
      rw [h4]
      exact nI_ge f4 (by omega)
    | succ k =>
      show ¬ S.2.2.1 10 (3 * k + 1) ≤ _
      rw [zC_l hC (j := 3 * k + 1) (by omega), show 102 + (3 * k + 1) = 103 + 3 * k by omega]
      have g4 := (hL k (by omega)).2.2
      have f5 : Z (103 + 3 * (k + 1)) < Z (103 + 3 * k) := f4
      have : Z (103 + 3 * k) < 2 ^ 31 := by
        have a : ∀ j, j < Z 13 → Z (103 + 3 * j) < t := fun j => by
          induction j with
          | zero => exact fun hj => (hL 0 hj).2.2
          | succ j ih => exact fun hj => Nat.lt_trans (hL (j + 1) hj).2.2 (ih (by omega))
        have := a k (by omega)
        omega
      exact nI_ge f5 this
