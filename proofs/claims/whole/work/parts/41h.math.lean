/-! MATHEMATICS: carryOut, honesty, the new object -/
theorem OV_2 {T : TS} {M N : MS} {i : Nat} (h : OV T M i) (e : N.2.2 = M.2.2) : OV T N i := by
  unfold OV at h ⊢
  rw [e]
  exact h
theorem carry_l {S : SS} {W : MS} {T : TS} {n t od : Nat} (h : RS S (W.2.1 0) n t) (ht : t ≤ 1000000) (hod : od ≤ 34) (ho : ∀ i, i < od → OV T W i) {K : Nat} (hK : K ≤ od) (hno : ∀ i, i < K → ¬ A_X4_carriesOut_r (itr (c_coB T n) i S) T n (nI i) = 0) : ∀ i, i ≤ K →
    (∃ t', t' ≤ 1000000 ∧ RS (itr (c_coB T n) i S) ((itr (o_doB n) i W).2.1 0) n t') ∧ (itr (o_doB n) i W).2.2 = W.2.2 ∧ (itr (o_doB n) i W).1 = W.1 ∧ (itr (o_doB n) i W).2.1 2 = W.2.1 2
  | 0, _ => ⟨⟨t, ht, h⟩, rfl, rfl, rfl⟩
  | i + 1, hi => by
    obtain ⟨⟨t', ht', h'⟩, g2, g1, gv⟩ := carry_l h ht hod ho hK hno i (by omega)
    obtain ⟨-, a2, -, a4⟩ := carry_step h' ht' (OV_2 (ho i (by omega)) g2) (by omega)
    obtain ⟨d2, d1⟩ := does_2 (itr (o_doB n) i W) n (o_tm (itr (o_doB n) i W)) i
    refine ⟨a2 (hno i (by omega)), ?_, ?_, ?_⟩
    · exact d2.trans g2
    · exact d1.trans g1
    · exact a4.trans gv
theorem RO_put2 {S2 S3 S4 S5 S6 : SS} {T : TS} {sv : Int32} {M : MS} {st n t le : Nat} (h : RO S2 S3 S4 S5 S6 T sv M st n t le) {S2' : SS} {w' : Nat → Int64} {n' t' : Nat} (hR : RS S2' w' n' t') (ht : t' ≤ 1000000) (M' : MS) (h0 : M'.1 0 = (o_save M st).1 0) (h1 : M'.1 1 = M.1 1)
    (hV0 : ∀ k, k < 138 → M'.2.1 0 k = w' k) (hV2 : M'.2.1 2 = (o_save M st).2.1 2) (hA : M'.2.2 0 = M.2.2 0) : ROE S2' S2 S3 S4 S5 T (c_sv sv) M' := by
  obtain ⟨⟨a1, a2, a3⟩, ⟨b1, b2⟩, hv, c1, c2, c3, c4⟩ := h
  refine ⟨s_up st, n', t', le, ⟨by rw [a1]; exact c_svN a3, by rw [h0]; exact o_save_0 a2 a3, s_up_le a3⟩, ⟨RS_w hR hV0, ht⟩, ?_, c1, by rw [h1]; exact c2, c3, fun i hi => by rw [hA]; exact c4 i hi⟩
  rw [hV2]
  exact r_save (S6 := S6) a2 a3 hv b1 b2
theorem q_carryOut {S2 S3 S4 S5 S6 : SS} {T : TS} {sv : Int32} {M : MS} {st n t le : Nat} (h : RO S2 S3 S4 S5 S6 T sv M st n t le) :
    (if (t_read T).1 3 = -1 then c_coR S2 (t_read T) n else -10 - (t_read T).1 3) = o_carryR M st n ∧
    ROE (if (t_read T).1 3 = -1 then c_co S2 (t_read T) n else S2) (if (t_read T).1 3 = -1 then S2 else S3) (if (t_read T).1 3 = -1 then S3 else S4) (if (t_read T).1 3 = -1 then S4 else S5) (if (t_read T).1 3 = -1 then S5 else S6) (t_read T) (if (t_read T).1 3 = -1 then c_sv sv else sv) (o_carry M st n) := by
  obtain ⟨⟨a1, a2, a3⟩, ⟨b1, b2⟩, hv, d1, d2, d3, d4⟩ := id h
  obtain ⟨s, g0, g1, gV, gA, g4⟩ := read_l (T := T) (M := M) (d1.trans d2.symm) ⟨le, d3, d2⟩ d4 34 (Nat.le_refl 34)
  have eT : itr t_ordB 34 (t_ord0 T) = t_read T := rfl
  have eM : itr o_rdB 34 (o_rd0 M) = o_rd M := rfl
  rw [eT, eM] at s g4
  rw [eM] at g0 g1 gV gA
  have h3 := s.2.2.2.1
  have hRO : RO S2 S3 S4 S5 S6 (t_read T) sv (o_rd M) st n t le := ⟨⟨a1, by rw [g0]; exact a2, a3⟩, ⟨by rw [gV]; exact b1, b2⟩, by rw [gV]; exact hv, by rw [s.1, g1]; exact d2, by rw [g1]; exact d2, d3, s.2.2.1⟩
  unfold o_carryR o_carry
  by_cases e : (t_read T).1 3 = -1
  · have e2 : (o_rd M).1 4 = -1 := h3.symm.trans e
    simp only [if_pos e, if_pos e2]
    obtain ⟨j, hj, j1, j2, -, j4⟩ := g4 e
    have hcl : (nI j).toNatClampNeg = j := nI_clamp (by omega)
    obtain ⟨W, hW⟩ : ∃ W, W = o_save (o_rd M) st := ⟨_, rfl⟩
    obtain ⟨U, hU⟩ : ∃ U, U = t_read T := ⟨_, rfl⟩
    rw [← hU] at j1 j4 hRO ⊢
    have hWV : W.2.1 0 = M.2.1 0 := by rw [hW, o_save_V _ _ _ (by omega), gV]
    have hWA : W.2.2 = (o_rd M).2.2 := by rw [hW, o_save_A]
    have hR0 : RS S2 (W.2.1 0) n t := by rw [hWV]; exact b1
    have hOV : ∀ i, i < j → OV U W i := fun i hi => OV_2 (j4 i hi) hWA
    rw [j2, hcl, ← hW]
    obtain ⟨K, hK⟩ : ∃ K, K = c_coAt S2 U n j := ⟨_, rfl⟩
    have hKle : K ≤ j := by rw [hK]; exact frst_le _ j
    obtain ⟨i1, i2⟩ := frst_is (fun i => decide (A_X4_carriesOut_r (itr (c_coB U n) i S2) U n (nI i) = 0)) j
    have hno : ∀ i, i < K → ¬ A_X4_carriesOut_r (itr (c_coB U n) i S2) U n (nI i) = 0 := fun i hi => by
      have := i1 i (by rw [hK] at hi; exact hi)
      rw [decide_eq_false_iff_not] at this
      exact this
    have inv := carry_l hR0 b2 hj hOV hKle hno
    have hdone : o_done W n j = K := by
      unfold o_done
      have hpt : ∀ i, i ≤ K → i < j → (A_X4_carriesOut_r (itr (c_coB U n) i S2) U n (nI i) = 0 ↔ A_X5_can_r (itr (o_doB n) i W) i = 0) := fun i hi hij => by
        obtain ⟨⟨t', ht', h'⟩, q2, q1, qv⟩ := inv i hi
        exact (carry_step h' ht' (OV_2 (hOV i hij) q2) (by omega)).1
      rcases Nat.lt_or_ge K j with hlt | hge
      · refine frst_some (p := fun i => decide (A_X5_can_r (itr (o_doB n) i W) i = 0)) ?_ (fun i hi => ?_) hlt
        · have := i2 (by rw [hK] at hlt; exact hlt)
          rw [decide_eq_true_eq] at this
          have e9 : A_X4_carriesOut_r (itr (c_coB U n) K S2) U n (nI K) = 0 := by rw [hK]; exact this
          exact decide_eq_true ((hpt K (Nat.le_refl K) hlt).mp e9)
        · exact decide_eq_false (fun q => hno i hi ((hpt i (by omega) (by omega)).mpr q))
      · have : K = j := by omega
        rw [this]
        exact frst_none (fun i hi => decide_eq_false (fun q => hno i (by omega) ((hpt i (by omega) hi).mpr q)))
    obtain ⟨⟨t', ht', h'⟩, q2, q1, qv⟩ := inv K (Nat.le_refl K)
    have hco : c_co S2 U n = itr (c_coB U n) K S2 := by
      unfold c_co
      rw [j1, hcl, ← hK]
      by_cases c : K < j
      · rw [if_pos c, itr_s]
        have := i2 (by rw [hK] at c; exact c)
        rw [decide_eq_true_eq] at this
        have e9 : A_X4_carriesOut_r (itr (c_coB U n) K S2) U n (nI K) = 0 := by rw [hK]; exact this
        exact carry_c _ U n (nI K) e9
      · rw [if_neg c, show K = j by omega]
    have hcr : c_coR S2 U n = nI K := by
      unfold c_coR
      rw [j1, hcl, ← hK]
      by_cases c : K < j
      · rw [if_pos c]
      · rw [if_neg c, show K = j by omega]
    rw [hco, hcr, hdone]
    refine ⟨rfl, RO_put2 hRO h' ht' _ ?_ ?_ (fun k hk => rfl) ?_ ?_⟩
    · rw [q1, hW]
    · rw [q1, hW]
      exact o_save_I _ _ 1 (by omega)
    · rw [qv, hW]
    · rw [q2, hWA]
  · have e2 : ¬ (o_rd M).1 4 = -1 := fun q => e (h3.trans q)
    simp only [if_neg e, if_neg e2]
    exact ⟨by rw [h3], st, n, t, le, hRO⟩
/-- honesty -/
def c_hon (S : SS) (n : Nat) : UInt64 := if p_all S n = 0 then FP.dconst1 else FP.ddiv (FP.i2d (p_all S n - S.1 5)) (FP.i2d (p_all S n))
def m_allB (w : Nat → Int64) (k : Nat) (r : Int64) : Int64 := r + w (48 + 8 * k + 4)
def m_all (w : Nat → Int64) (n : Nat) : Int64 := itr (m_allB w) n 0
def o_hon (w : Nat → Int64) (n : Nat) : UInt64 := if m_all w n = 0 then FP.dconst1 else FP.ddiv (FP.l2d (m_all w n - w 9)) (FP.l2d (m_all w n))
theorem i2d_l2d (a : Int32) (b : Int64) (h : a.toInt = b.toInt) : FP.i2d a = FP.l2d b := by
  show UInt64.ofNat (FP.Core.fromInt FP.Core.b64 a.toInt) = UInt64.ofNat (FP.Core.fromInt FP.Core.b64 b.toInt)
  rw [h]
theorem q_honesty {S2 S3 S4 S5 S6 : SS} {T : TS} {sv : Int32} {M : MS} {st n t le : Nat} (h : RO S2 S3 S4 S5 S6 T sv M st n t le) : c_hon S2 n = o_hon (M.2.1 0) n := by
  obtain ⟨Z, hR, h23, ht, hn6⟩ := RO_w h
  obtain ⟨hC, hM, hB, -, -⟩ := id hR
  have hz : ∀ k, zd k → Z k ≤ 200000 + 10 * t := fun k hk => zB_le hB hk
  have all : ∀ i, i ≤ n → ∃ A, A ≤ 11000000 * i ∧ p_all S2 i = nI A ∧ m_all (M.2.1 0) i = lN A := by
    intro i
    induction i with
    | zero => intro _; exact ⟨0, Nat.le_refl 0, rfl, rfl⟩
    | succ i ih =>
      intro hi
      obtain ⟨A, hA, a1, a2⟩ := ih (by omega)
      have := hz _ (zd_p (p := i) (f := 4) (by omega) (by omega))
      refine ⟨A + Z (48 + 8 * i + 4), by omega, ?_, ?_⟩
      · show p_all S2 i + S2.2.2.1 7 i = _
        rw [a1, zC_p hC 7 4 rfl (by omega) (by omega), nI_add]
      · show m_all (M.2.1 0) i + M.2.1 0 (48 + 8 * i + 4) = _
        rw [a2, hM _ (zd_p (by omega) (by omega)), lN_add]
  obtain ⟨A, hA, a1, a2⟩ := all n (Nat.le_refl n)
  have b9 := hz 9 (zd_lo (by omega))
  have c1 : (nI A = 0) ↔ A = 0 := nI_eq (b := 0) (by omega) (by omega)
  have c2 : (lN A = 0) ↔ A = 0 := lN_eq (b := 0) (by omega) (by omega)
  unfold c_hon o_hon
  rw [a1, a2, Rl_i hR 5 9 (by omega) rfl, Rl_w hR 9 (by omega)]
  by_cases e : A = 0
  · rw [if_pos (c1.mpr e), if_pos (c2.mpr e)]
  · rw [if_neg (fun q => e (c1.mp q)), if_neg (fun q => e (c2.mp q)), i2d_l2d (nI A - nI (Z 9)) (lN A - lN (Z 9)) (by rw [pk_sub_toInt (by omega) (by omega), lN_sub_toInt (by omega) (by omega)]), i2d_l2d (nI A) (lN A) (by rw [nI_toInt (by omega), pk_lT (by omega)])]
/-! the new object -/
def z_new (k : Nat) : Nat := if k = 0 then 10000 else if k = 1 then 5000 else if k = 2 then 4000 else if k = 3 then 8000 else if k = 4 then 500 else if k = 6 then 1 else if 24 ≤ k ∧ k < 48 then 20 else 0
theorem itr_nw (f : Nat → Int64) (k : Nat) : ∀ n, itr o_nwB n f k = if 24 ≤ k ∧ k < 24 + n then 20 else f k
  | 0 => by rw [if_neg (by omega)]; rfl
  | n + 1 => by
    rw [itr_s]
    show (if k = 24 + n then 20 else itr o_nwB n f k) = _
    rw [itr_nw f k n]
    repeat' split
    all_goals first | rfl | omega
theorem new_w (k : Nat) : itr o_nwB 24 o_nw0 k = lN (z_new k) := by
  rw [itr_nw]
  unfold z_new o_nw0 vp_updL
  by_cases e : 24 ≤ k ∧ k < 48
  · rw [if_pos e, if_neg (by omega), if_neg (by omega), if_neg (by omega), if_neg (by omega), if_neg (by omega), if_neg (by omega), if_pos e]
    rfl
  · rw [if_neg e, if_neg e]
    by_cases h0 : k = 0
    · subst h0; rfl
    · by_cases h1 : k = 1
      · subst h1; rfl
      · by_cases h2 : k = 2
        · subst h2; rfl
        · by_cases h3 : k = 3
          · subst h3; rfl
          · by_cases h4 : k = 4
            · subst h4; rfl
            · by_cases h6 : k = 6
              · subst h6; rfl
              · simp only [if_neg h0, if_neg h1, if_neg h2, if_neg h3, if_neg h4, if_neg h6]
                rfl
theorem new_c (k : Nat) (hk : zd k) : cv s_new k = nI (z_new k) := by
  unfold zd at hk
  by_cases h : k < 14
  · have : k = 0 ∨ k = 1 ∨ k = 2 ∨ k = 3 ∨ k = 4 ∨ k = 5 ∨ k = 6 ∨ k = 7 ∨ k = 8 ∨ k = 9 ∨ k = 10 ∨ k = 11 ∨ k = 13 := by omega
    rcases this with e | e | e | e | e | e | e | e | e | e | e | e | e <;> subst e <;> rfl
  · by_cases h2 : k < 48
    · have e : k = 24 + (k - 24) := by omega
      rw [e, cv_d _ (by omega)]
      show itr (p_fillB 20) 24 (s_new0.2.2.1 1) (k - 24) = _
      rw [itr_fill, if_pos (by omega)]
      unfold z_new
      rw [if_neg (by omega), if_neg (by omega), if_neg (by omega), if_neg (by omega), if_neg (by omega), if_neg (by omega), if_pos (by omega)]
      rfl
    · have hz : z_new k = 0 := by
        unfold z_new
        rw [if_neg (by omega), if_neg (by omega), if_neg (by omega), if_neg (by omega), if_neg (by omega), if_neg (by omega), if_neg (by omega)]
      rw [hz]
      unfold cv
      rw [if_neg (by omega), if_neg (by omega), if_neg (by omega), if_neg (by omega), if_neg (by omega), if_neg (by omega)]
      have row : ∀ a, 1 < a → s_new.2.2.1 a = fun _ => 0 := fun a ha => by
        show (if a = 1 then _ else if a = 0 then _ else fun _ => 0) = _
        rw [if_neg (by omega), if_neg (by omega)]
      split
      · rw [row _ (by unfold pj; split <;> omega)]; rfl
      · rw [row 10 (by omega)]; rfl
def t_new : TS := (fun _ => 0, fun _ _ => 0)
theorem new_v (k : Nat) : o_new.2.1 0 k = lN (z_new k) := by
  have e : o_new.2.1 0 = itr o_nwB 24 o_nw0 := by
    show (if (0 : Nat) = 0 then itr o_nwB 24 o_nw0 else o_zero.2.1 0) = _
    exact if_pos rfl
  rw [e]
  exact new_w k
theorem z_new_0 {k : Nat} (h : 6 < k) (h2 : k < 24 ∨ 48 ≤ k) : z_new k = 0 := by
  unfold z_new
  rw [if_neg (by omega), if_neg (by omega), if_neg (by omega), if_neg (by omega), if_neg (by omega), if_neg (by omega), if_neg (by omega)]
theorem z_new_le (k : Nat) : z_new k ≤ 10000 := by
  unfold z_new
  repeat' split
  all_goals omega
theorem new_B : zB z_new 0 0 200000 := by
  refine ⟨z_new_0 (by omega) (by omega), by omega, z_new_0 (by omega) (by omega), Nat.le_trans (z_new_le 0) (by omega), ?_, ⟨?_, ?_⟩, Nat.le_trans (Nat.le_of_eq (show z_new 4 = 500 from rfl)) (by omega), Nat.le_trans (Nat.le_of_eq (show z_new 5 = 0 from rfl)) (by omega), Nat.le_of_eq (show z_new 6 = 1 from rfl), Nat.le_trans (Nat.le_of_eq (z_new_0 (by omega) (by omega))) (by omega), fun j hj => ?_, fun p hp => Nat.le_trans (Nat.le_of_eq (z_new_0 (by omega) (by omega))) (by omega), fun k hk => Nat.le_trans (z_new_le k) (by omega)⟩
  · exact Nat.le_of_ble_eq_true rfl
  · exact Nat.le_of_ble_eq_true rfl
  · exact Nat.le_of_ble_eq_true rfl
  · unfold z_new
    rw [if_neg (by omega), if_neg (by omega), if_neg (by omega), if_neg (by omega), if_neg (by omega), if_neg (by omega), if_pos (by omega)]
    omega
theorem new_L : zL s_new (o_new.2.1 0) := by
  have e1 : s_new.2.1 = fun _ => 0 := rfl
  have e2 : s_new.2.2.2 = fun _ => 0 := rfl
  unfold zL
  rw [e1, e2, new_v, new_v, z_new_0 (by omega) (by omega), z_new_0 (by omega) (by omega)]
  refine ⟨rfl, fun j hj => ?_, by decide⟩
  rw [new_v, z_new_0 (by omega) (by omega)]
  rfl
theorem new_RS : RS s_new (o_new.2.1 0) 0 0 := by
  refine ⟨⟨z_new, new_c, fun k hk => new_v k, new_B, ⟨fun k hk => absurd hk (Nat.not_lt_zero k), fun k hk => absurd hk (Nat.not_lt_zero k)⟩, new_L⟩, ?_⟩
  rw [new_v, z_new_0 (by omega) (by omega)]
  unfold bg
  rw [if_neg (by omega)]
  rfl
theorem RO_new : RO s_new s_new s_new s_new s_new t_new 0 o_new 0 0 0 0 :=
  ⟨⟨rfl, rfl, by omega⟩, ⟨new_RS, by omega⟩, fun j hj => absurd hj (Nat.not_lt_zero j), rfl, rfl, by omega, fun i hi => rfl⟩
