theorem stp_w {M N : MS} {d e : Nat} (h : stp M N d) (he : e ≤ d) : stp M N e := fun h4 => by
  obtain ⟨m4, a, b, l, u, p, q⟩ := h h4
  exact ⟨m4, a, b, by omega, u, p, q⟩
/-- what an order's reading keeps of the rows -/
def kR (M N : MS) (od : Nat) : Prop := N.2.1 = M.2.1 ∧ N.2.2 0 = M.2.2 0 ∧ N.2.2 1 = M.2.2 1 ∧ ∀ i, i ≠ od → N.2.2 2 i = M.2.2 2 i
theorem kR_2 {M N K : MS} {od : Nat} (h : kR M N od) (e : K.2 = N.2) : kR M K od := by
  unfold kR at h ⊢
  rw [e]
  exact h
theorem kR_fst {M N : MS} {od : Nat} (h : kR M N od) : kR M (o_fst N od) od := ⟨h.1, h.2.1, h.2.2.1, fun i hi => (pk_un hi).trans (h.2.2.2 i hi)⟩
theorem kR_0 (M : MS) (od : Nat) : kR M (o_ord0 M od) od := ⟨rfl, rfl, rfl, fun i hi => pk_un hi⟩
theorem tI_0 {M : MS} {b : Nat} (od : Nat) (hb : tB M b) : tI M (o_ord0 M od) (b + 1) := ⟨rfl, rfl, tB_1 hb (Or.inr rfl)⟩
theorem stp_0 {M : MS} {b : Nat} (od : Nat) (hb : tB M b) (h : b ≤ 1000) : stp M (o_ord0 M od) 1 := fun h4 => by
  obtain ⟨a, ha, e⟩ := hb
  exact ⟨h4, a, a + 1, Nat.le_refl _, by omega, e, by show M.1 3 + 1 = _; rw [e, nI_1]⟩
theorem o_caseB_ok {M : MS} {b : Nat} (od : Nat) (hb : tB M b) (h : b ≤ 100) : tI M (o_caseB M (o_ord0 M od) od) (b + 20) ∧ kR M (o_caseB M (o_ord0 M od) od) od ∧ stp (o_ord0 M od) (o_caseB M (o_ord0 M od) od) 1 ∧ ((o_caseB M (o_ord0 M od) od).1 4 = -1 → (o_look M = 100 ∨ o_look M = 109 ∨ o_look M = 111 ∨ o_look M = 120 ∨ o_look M = 121) ∧ (o_look M = 100 → ∃ j, j < 24 ∧ (o_caseB M (o_ord0 M od) od).2.2 2 od = nI j)) := by
  have hI := tI_0 od hb
  have hk := kR_0 M od
  generalize o_ord0 M od = N at hI hk ⊢
  have up : ∀ {K : MS} {c : Nat}, tI M K c → c ≤ b + 20 → tI M K (b + 20) := fun h1 h2 => ⟨h1.1, h1.2.1, tB_le h1.2.2 h2⟩
  unfold o_caseB
  by_cases h1 : o_look M = 100
  · rw [if_pos h1]
    have i1 := tI_hour hI
    have i2 : tI M (o_fst (A_X5_readsHour_s0 N) od) (b + 1 + 1 + 1) := i1
    have i3 := tI_sign (x := 61) i2
    have i4 := tI_num (dd := 4) (lo := 0) (hi := 1000) i3
    have s1 := stp_hour hI.2.2 (by omega)
    have s2 : stp (A_X5_readsHour_s0 N) (A_X5_sign_s0 (o_fst (A_X5_readsHour_s0 N) od) 61) 1 := stp_sign (M := o_fst (A_X5_readsHour_s0 N) od) i2.2.2 (by omega)
    have s3 := stp_num (dd := 4) (lo := 0) (hi := 1000) i3.2.2 (by omega)
    have e2 : (o_num (A_X5_sign_s0 (o_fst (A_X5_readsHour_s0 N) od) 61) 4 0 1000).2 = (o_fst (A_X5_readsHour_s0 N) od).2 := (o_num_2 _ _ _ _).trans (o_sign_2 _ _)
    refine ⟨up i4 (by omega), kR_2 (kR_fst (kR_2 hk (o_hour_2 N))) e2, stp_w (stp_t s1 (stp_t s2 s3)) (by omega), fun h4 => ⟨Or.inl h1, fun _ => ?_⟩⟩
    obtain ⟨j, hj, e⟩ := o_hour_ok hI.2.2 (by omega) (s2 (s3 h4).1).1
    refine ⟨j, hj, ?_⟩
    rw [e2]
    show upd _ od _ od = _
    rw [pk_us, e]
  · rw [if_neg h1]
    by_cases h2 : o_look M = 109
    · rw [if_pos h2]
      exact ⟨up (tI_num hI) (by omega), kR_2 hk (o_num_2 _ _ _ _), stp_num hI.2.2 (by omega), fun _ => ⟨Or.inr (Or.inl h2), fun h9 => absurd h9 h1⟩⟩
    · rw [if_neg h2]
      have d1 := tI_digit (x := 5) hI
      have d2 : tI M (o_fst (A_X5_digit_s0 N 5) od) (b + 1 + 1) := d1
      have s1 : stp N (o_fst (A_X5_digit_s0 N 5) od) 1 := stp_digit hI.2.2 (by omega)
      have k1 : kR M (o_fst (A_X5_digit_s0 N 5) od) od := kR_fst (kR_2 hk (o_digit_2 _ _))
      by_cases h3 : o_look M = 111
      · rw [if_pos h3]
        have i3 := tI_sign (x := 61) d2
        have s2 := stp_sign (x := 61) d2.2.2 (by omega)
        have s3 := stp_num (dd := 2) (lo := 1) (hi := 12) i3.2.2 (by omega)
        exact ⟨up (tI_num i3) (by omega), kR_2 k1 ((o_num_2 _ _ _ _).trans (o_sign_2 _ _)), stp_w (stp_t s1 (stp_t s2 s3)) (by omega), fun _ => ⟨Or.inr (Or.inr (Or.inl h3)), fun h9 => absurd h9 h1⟩⟩
      · rw [if_neg h3]
        by_cases h4 : o_look M = 120
        · rw [if_pos h4]
          exact ⟨up d2 (by omega), k1, s1, fun _ => ⟨Or.inr (Or.inr (Or.inr (Or.inl h4))), fun h9 => absurd h9 h1⟩⟩
        · rw [if_neg h4]
          by_cases h5 : o_look M = 121
          · rw [if_pos h5]
            exact ⟨up d2 (by omega), k1, s1, fun _ => ⟨Or.inr (Or.inr (Or.inr (Or.inr h5))), fun h9 => absurd h9 h1⟩⟩
          · rw [if_neg h5]
            obtain ⟨a, ha, e⟩ := hb
            have hf : ¬ (o_fail N (M.1 3 + 1 - 1)).1 4 = -1 := o_fail_ne (e := a) (by omega) (by rw [e, nI_1, show (1 : Int32) = nI 1 from rfl, pk_sub (by omega)]; rfl)
            exact ⟨up (tI_fail hI) (by omega), kR_2 hk rfl, stp_v hf, fun h9 => absurd h9 hf⟩
/-- an order that was read well: its letter, its hour -/
def o_fact (M : MS) (i : Nat) : Prop := (M.2.2 1 i = 100 ∨ M.2.2 1 i = 109 ∨ M.2.2 1 i = 111 ∨ M.2.2 1 i = 120 ∨ M.2.2 1 i = 121) ∧ (M.2.2 1 i = 100 → ∃ j, j < 24 ∧ M.2.2 2 i = nI j)
theorem o_order_ok {M : MS} {b : Nat} (od : Nat) (hb : tB M b) (h : b ≤ 100) (h6 : M.1 6 = nI od) :
    (A_X5_readsOrder_s0 M od).1 1 = M.1 1 ∧ (A_X5_readsOrder_s0 M od).2.1 = M.2.1 ∧ (A_X5_readsOrder_s0 M od).2.2 0 = M.2.2 0 ∧
    ((A_X5_readsOrder_s0 M od).1 4 = -1 → M.1 4 = -1 ∧ (A_X5_readsOrder_s0 M od).1 6 = nI (od + 1) ∧ (∃ a c, a + 3 ≤ c ∧ c < 2000 ∧ M.1 3 = nI a ∧ (A_X5_readsOrder_s0 M od).1 3 = nI c) ∧ o_fact (A_X5_readsOrder_s0 M od) od ∧
      ∀ i, i ≠ od → (A_X5_readsOrder_s0 M od).2.2 1 i = M.2.2 1 i ∧ (A_X5_readsOrder_s0 M od).2.2 2 i = M.2.2 2 i) := by
  rw [o_order_eq]
  obtain ⟨i1, k1, s1, f1⟩ := o_caseB_ok od hb h
  have s0 := stp_0 od hb (by omega)
  unfold o_order
  generalize o_caseB M (o_ord0 M od) od = B at i1 k1 s1 f1 ⊢
  have i2 := tI_sign (x := 59) i1
  have s2 := stp_sign (x := 59) i1.2.2 (by omega)
  have e2 := o_sign_2 B 59
  have sM := stp_t s0 (stp_t s1 s2)
  have b4 : (A_X5_sign_s0 B 59).1 4 = -1 → B.1 4 = -1 := fun h4 => (s2 h4).1
  generalize A_X5_sign_s0 B 59 = S at i2 e2 sM b4 ⊢
  have kS := kR_2 k1 e2
  unfold o_keep
  by_cases c : S.1 4 = -1
  · rw [if_pos c]
    obtain ⟨m4, x, y, l, u, p, q⟩ := sM c
    obtain ⟨g1, g2⟩ := f1 (b4 c)
    refine ⟨i2.1, kS.1, kS.2.1, fun _ => ⟨m4, ?_, ⟨x, y, by omega, u, p, q⟩, ⟨?_, ?_⟩, fun i hi => ⟨(pk_un hi).trans (congrFun kS.2.2.1 i), kS.2.2.2 i hi⟩⟩⟩
    · show S.1 6 + 1 = _
      rw [i2.2.1, h6, nI_1]
    · show (upd _ od (o_look M) od = _ ∨ upd _ od (o_look M) od = _ ∨ upd _ od (o_look M) od = _ ∨ upd _ od (o_look M) od = _ ∨ upd _ od (o_look M) od = _)
      rw [pk_us]
      exact g1
    · intro h9
      have h8 : o_look M = 100 := (pk_us (f := S.2.2 1) (k := od) (x := o_look M)).symm.trans h9
      obtain ⟨j, hj, e⟩ := g2 h8
      exact ⟨j, hj, by show S.2.2 2 od = _; rw [e2]; exact e⟩
  · rw [if_neg c]
    exact ⟨i2.1, kS.1, kS.2.1, fun h9 => absurd h9 c⟩
