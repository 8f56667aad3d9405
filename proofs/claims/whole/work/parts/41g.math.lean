/-! MATHEMATICS: texts are read and carried out alike -/
theorem t_ordB_e (k : Nat) (T : TS) : t_ordB k T = if ¬ T.1 0 ≤ T.1 2 ∧ T.1 3 = -1 then t_setI (t_order T k) 1 ((t_order T k).1 1 + 1) else T := rfl
theorem o_rdB_e (k : Nat) (M : MS) : o_rdB k M = if M.1 4 = -1 ∧ ¬ M.1 1 ≤ M.1 3 then A_X5_readsOrder_s0 M k else M := rfl
theorem read_l {T : TS} {M : MS} (h0 : T.1 0 = M.1 1) (h1 : ∃ le, le ≤ 100 ∧ M.1 1 = nI le) (h2 : ∀ i, i < 100 → T.2 0 i = M.2.2 0 i) : ∀ i, i ≤ 34 →
    Sy (itr t_ordB i (t_ord0 T)) (itr o_rdB i (o_rd0 M)) 100 ∧ (itr o_rdB i (o_rd0 M)).1 0 = M.1 0 ∧ (itr o_rdB i (o_rd0 M)).1 1 = M.1 1 ∧ (itr o_rdB i (o_rd0 M)).2.1 = M.2.1 ∧ (itr o_rdB i (o_rd0 M)).2.2 0 = M.2.2 0 ∧
    ((itr t_ordB i (t_ord0 T)).1 3 = -1 → ∃ j, j ≤ i ∧ (itr t_ordB i (t_ord0 T)).1 1 = nI j ∧ (itr o_rdB i (o_rd0 M)).1 6 = nI j ∧ (j = i ∨ (itr t_ordB i (t_ord0 T)).1 0 ≤ (itr t_ordB i (t_ord0 T)).1 2) ∧ ∀ q, q < j → OV (itr t_ordB i (t_ord0 T)) (itr o_rdB i (o_rd0 M)) q)
  | 0, _ => ⟨⟨h0, h1, h2, rfl, fun _ => ⟨0, by omega, rfl, rfl⟩⟩, rfl, rfl, rfl, rfl, fun _ => ⟨0, Nat.le_refl 0, rfl, rfl, Or.inl rfl, fun q hq => absurd hq (Nat.not_lt_zero q)⟩⟩
  | i + 1, hi => by
    obtain ⟨s, g0, g1, g2, g3, g4⟩ := read_l h0 h1 h2 i (by omega)
    rw [itr_s, itr_s, t_ordB_e, o_rdB_e]
    generalize itr t_ordB i (t_ord0 T) = U at s g4 ⊢
    generalize itr o_rdB i (o_rd0 M) = N at s g0 g1 g2 g3 g4 ⊢
    have h3 := s.2.2.2.1
    by_cases e : U.1 3 = -1
    · obtain ⟨a, ha, a1, a2⟩ := s.2.2.2.2 e
      obtain ⟨j, hj, j1, j2, j3, j4⟩ := g4 e
      by_cases c : U.1 0 ≤ U.1 2
      · have c2 : N.1 1 ≤ N.1 3 := by rw [← s.1, a2, ← a1]; exact c
        rw [if_neg (fun q => q.1 c), if_neg (fun q => q.2 c2)]
        exact ⟨s, g0, g1, g2, g3, fun _ => ⟨j, by omega, j1, j2, Or.inr c, j4⟩⟩
      · have c2 : ¬ N.1 1 ≤ N.1 3 := by rw [← s.1, a2, ← a1]; exact c
        rw [if_pos ⟨c, e⟩, if_pos ⟨h3.symm.trans e, c2⟩]
        have hji : j = i := by
          rcases j3 with q | q
          · exact q
          · exact absurd q c
        subst hji
        have hN : tB N 100 := by
          obtain ⟨le, hle, hle2⟩ := s.2.1
          refine ⟨a, ?_, a2⟩
          rcases Nat.lt_or_ge a le with q | q
          · omega
          · exact absurd (by rw [hle2, a2]; exact nI_le q (by omega)) c2
        obtain ⟨k1, k2, k3, -⟩ := o_order_ok (M := N) j hN (Nat.le_refl 100) j2
        obtain ⟨u1, u2, u3⟩ := Sy_order (od := j) s e
        have k0 := o_order_0 N j
        rw [o_order_eq] at k0 k1 k2 k3 ⊢
        refine ⟨u2, k0.trans g0, k1.trans g1, k2.trans g2, k3.trans g3, fun z => ?_⟩
        obtain ⟨v1, v2, v3⟩ := u3 z
        refine ⟨j + 1, Nat.le_refl _, ?_, ?_, Or.inl rfl, fun q hq => ?_⟩
        · show (t_order U j).1 1 + 1 = _
          rw [u1, j1, nI_1]
        · rw [v2, j2, nI_1]
        · by_cases q9 : q = j
          · subst q9; exact v1
          · exact v3 q q9 (j4 q (by omega))
    · rw [if_neg (fun q => e q.2), if_neg (fun q => e (h3.trans q.1))]
      exact ⟨s, g0, g1, g2, g3, fun z => absurd z e⟩
theorem part_eq (T : TS) {i c : Nat} (hi : i < 34) (hc : c < 3) : t_part T (nI i) (nI c) = T.2 1 (3 * i + c) := by
  have hcl : (nI (3 * i + c)).toNatClampNeg = 3 * i + c := nI_clamp (by omega)
  unfold t_part
  rw [k_t3, if_pos ⟨nI_pos (by omega), nI_ge (b := 102) (by omega) (by omega)⟩, hcl]
theorem carry_c (S : SS) (T : TS) (n : Nat) (x : Int32) : A_X4_carriesOut_r S T n x = 0 → A_X4_carriesOut_s2 S T n x = S := by
  unfold A_X4_carriesOut_r A_X4_carriesOut_s2
  have one : ∀ {p : Prop}, (1 : Int32) = 0 → p := fun h => absurd h (by decide)
  by_cases a : t_part T x 0 = 109
  · rw [if_pos a, if_pos a]
    by_cases b : c_time S (t_part T x 2) = true
    · rw [if_pos b]; exact one
    · rw [if_neg b, if_neg b]; exact fun _ => rfl
  · rw [if_neg a, if_neg a]
    by_cases b : t_part T x 0 = 111
    · rw [if_pos b, if_pos b]
      by_cases c : p_has S (t_part T x 1) = true
      · rw [if_pos c]; exact one
      · rw [if_neg c, if_neg c]; exact fun _ => rfl
    · rw [if_neg b, if_neg b]
      by_cases c : t_part T x 0 = 120
      · rw [if_pos c, if_pos c]
        by_cases d : p_has S (t_part T x 1) = true
        · rw [if_pos d, if_pos d]
          by_cases f : c_svc S (t_part T x 1) = true
          · rw [if_pos f]; exact one
          · rw [if_neg f, if_neg f]; exact fun _ => rfl
        · rw [if_neg d, if_neg d]; exact fun _ => rfl
      · rw [if_neg c, if_neg c]
        by_cases d : t_part T x 0 = 121
        · rw [if_pos d, if_pos d]
          by_cases f : p_has S (t_part T x 1) = true
          · rw [if_pos f, if_pos f]
            by_cases g : c_svc S (t_part T x 1) = true
            · rw [if_pos g, if_pos g]; exact fun _ => rfl
            · rw [if_neg g]; exact one
          · rw [if_neg f, if_neg f]; exact fun _ => rfl
        · rw [if_neg d]; exact one
theorem carry_step {S : SS} {W : MS} {T : TS} {n t i : Nat} (h : RS S (W.2.1 0) n t) (ht : t ≤ 1000000) (ho : OV T W i) (hi : i < 34) :
    (A_X4_carriesOut_r S T n (nI i) = 0 ↔ A_X5_can_r W i = 0) ∧ (¬ A_X4_carriesOut_r S T n (nI i) = 0 → ∃ t', t' ≤ 1000000 ∧ RS (A_X4_carriesOut_s2 S T n (nI i)) ((A_X5_does_s0 W n (o_tm W) i).2.1 0) n t') ∧
    (A_X4_carriesOut_r S T n (nI i) = 0 → A_X4_carriesOut_s2 S T n (nI i) = S) ∧ (A_X5_does_s0 W n (o_tm W) i).2.1 2 = W.2.1 2 := by
  obtain ⟨hok, hn6, s8, s4, w7⟩ := RS_ok h
  have htm : o_tm W = t := m_ok_tm hok (by omega)
  obtain ⟨⟨Z, hR⟩, h23⟩ := id h
  obtain ⟨hC, hM, hB, -, -⟩ := id hR
  obtain ⟨z7, -, z8, z0, z1, z2, z4, z5, z6, z13, zdd, zdc, zle⟩ := id hB
  have hisP : ∀ x, m_isP (W.2.1 0) x = p_has S x := fun x => isP_eq s8 w7 hn6 x
  have hv2 : (A_X5_does_s0 W n (o_tm W) i).2.1 2 = W.2.1 2 := by
    unfold A_X5_does_s0
    repeat' split
    all_goals rfl
  have p0 : t_part T (nI i) 0 = W.2.2 1 i := (part_eq T (c := 0) hi (by omega)).trans ho.1
  have p1 : t_part T (nI i) 1 = T.2 1 (3 * i + 1) := part_eq T (c := 1) hi (by omega)
  have p2 : t_part T (nI i) 2 = T.2 1 (3 * i + 2) := part_eq T (c := 2) hi (by omega)
  have bi01 : ∀ b : Bool, (bi b = 0) ↔ b = false := fun b => bi_0
  have mode : ∀ x, p_has S x = true → ∃ p, p < n ∧ x = nI p ∧ (nI p).toNatClampNeg = p ∧ S.2.2.1 4 p = nI (Z (48 + 8 * p + 2)) ∧ W.2.1 0 (48 + 8 * p + 2) = lN (Z (48 + 8 * p + 2)) ∧ (W.2.1 0 (48 + 8 * p + 2) = 2 ↔ Z (48 + 8 * p + 2) = 2) ∧ c_svc S x = decide (¬ Z (48 + 8 * p + 2) = 2) := fun x hx => by
    obtain ⟨p, hp, rfl⟩ := p_hasN hx s8 hn6
    have hcl : (nI p).toNatClampNeg = p := nI_clamp (by omega)
    have hz := zle _ (zd_p (p := p) (f := 2) (by omega) (by omega))
    have m1 : S.2.2.1 4 p = nI (Z (48 + 8 * p + 2)) := zC_p hC 4 2 rfl (by omega) (by omega)
    have m2 : W.2.1 0 (48 + 8 * p + 2) = lN (Z (48 + 8 * p + 2)) := hM _ (zd_p (by omega) (by omega))
    refine ⟨p, hp, rfl, hcl, m1, m2, by rw [m2]; exact lN_eq (b := 2) (by omega) (by omega), ?_⟩
    unfold c_svc
    rw [hx, hcl, m1, Bool.true_and]
    exact decide_eq_decide.mpr (not_congr (nI_eq (b := 2) (by omega) (by omega)))
  have put : ∀ p, p < n → ∀ (z : Int32) (y : Int64) (v : Nat), z = nI v → y = lN v → v ≤ 2 → RS (setA S 4 (upd (S.2.2.1 4) p z)) (vp_updL (W.2.1 0) (48 + 8 * p + 2) y) n t := fun p hp z y v hz hy hv => RS_of hR h23 (zC_P hC 4 2 p v rfl (by omega) (by omega) hz) (zM_up hM _ v hy) (zB_up hB _ _ (by omega) _ (by omega) (Nat.le_refl _)) rfl rfl rfl (fun k hk => pk_uLn (by omega))
  refine ⟨?_, ?_, ?_, hv2⟩
  · unfold A_X4_carriesOut_r A_X5_can_r
    rw [p0, p1, p2]
    rcases ho.2 with ⟨l, x1, x2, x3, x4⟩ | ⟨l, x2, v, hv, x4⟩ | ⟨l, x1, x2, x4⟩ | ⟨l, x1⟩
    · have l1 : ¬ W.2.2 1 i = 109 := by rw [l]; decide
      have l2 : ¬ W.2.2 1 i = 111 := by rw [l]; decide
      have l3 : ¬ W.2.2 1 i = 120 := by rw [l]; decide
      have l4 : ¬ W.2.2 1 i = 121 := by rw [l]; decide
      rw [if_neg l1, if_neg l2, if_neg l3, if_neg l4, if_neg l1, if_neg l2, if_neg l3, if_neg l4]
    · rw [x2, x4]
      simp only [if_pos l]
      rw [c_timeN s4 ht (by omega), Rl_w hR 8 (by omega), z8, nI_l (by omega), lN_add]
      have c : (1000000 < lN (t + v)) ↔ ¬ t + v ≤ 1000000 := (lN_lt (a := 1000000) (by omega) (by omega)).trans (by omega)
      by_cases q : t + v ≤ 1000000
      · rw [if_pos (decide_eq_true q), if_neg (fun z => (c.mp z) q)]
      · rw [if_neg (by rw [decide_eq_true_eq]; exact q), if_pos (c.mpr q)]
    · have l2 : ¬ W.2.2 1 i = 109 := by rw [l]; decide
      rw [x1]
      simp only [if_neg l2, if_pos l, hisP]
      by_cases q : p_has S (W.2.2 2 i) = true
      · rw [if_pos q, q]; exact Iff.rfl
      · rw [if_neg q, Bool.eq_false_iff.mpr q]; exact Iff.rfl
    · rw [x1]
      have l2 : ¬ W.2.2 1 i = 109 := by rcases l with l | l <;> rw [l] <;> decide
      have l3 : ¬ W.2.2 1 i = 111 := by rcases l with l | l <;> rw [l] <;> decide
      simp only [if_neg l2, if_neg l3, hisP]
      by_cases q : p_has S (W.2.2 2 i) = true
      · obtain ⟨p, hp, ep, hcl, m1, m2, m3, m4⟩ := mode _ q
        simp only [if_pos q, m4]
        rw [ep, hcl]
        simp only [m3, decide_eq_true_eq]
        by_cases y : Z (48 + 8 * p + 2) = 2
        · rcases l with l | l <;> simp [l, y]
        · rcases l with l | l <;> simp [l, y]
      · rcases l with l | l <;> simp [l, q]
  · intro hr
    rw [htm]
    unfold A_X4_carriesOut_r at hr
    unfold A_X4_carriesOut_s2 A_X5_does_s0
    rw [p0, p1, p2] at hr ⊢
    rcases ho.2 with ⟨l, x1, x2, ⟨j, hj, x3⟩, v, hv, x4⟩ | ⟨l, x2, v, hv, x4⟩ | ⟨l, x1, x2, v, hv, x4⟩ | ⟨l, x1⟩
    · have l1 : ¬ W.2.2 1 i = 109 := by rw [l]; decide
      have l2 : ¬ W.2.2 1 i = 111 := by rw [l]; decide
      have l3 : ¬ W.2.2 1 i = 120 := by rw [l]; decide
      have l4 : ¬ W.2.2 1 i = 121 := by rw [l]; decide
      have hcl : (nI j).toNatClampNeg = j := nI_clamp (by omega)
      rw [if_neg l1, if_neg l2, if_neg l3, if_neg l4, if_pos l, x1, x2, x3, x4, hcl]
      refine ⟨t, ht, ?_⟩
      show RS (s_chD S (nI j) (nI v)) (vp_updL (W.2.1 0) (24 + j) (nI v).toInt64) n t
      unfold s_chD
      rw [if_pos ⟨nI_pos (by omega), nI_ge (b := 24) hj (by omega)⟩, hcl]
      refine RS_of hR h23 (zC_D hC j v hj rfl) (zM_up hM (24 + j) v (nI_l (by omega))) (zB_k hB _ ?_ ?_ ?_ ?_ ?_ ?_ ?_ ?_ (by omega) (fun k h1 h2 => upN_n (by omega))) rfl rfl rfl (fun k hk => pk_uLn (by omega))
      · rw [upN_n (by omega)]; exact z0
      · rw [upN_n (by omega), upN_n (by omega)]; exact z1
      · rw [upN_n (by omega), upN_n (by omega)]; exact z2.1
      · rw [upN_n (by omega), upN_n (by omega)]; exact z2.2
      · rw [upN_n (by omega)]; exact z4
      · rw [upN_n (by omega)]; exact z5
      · rw [upN_n (by omega)]; exact z6
      · intro i hi
        unfold upN; split
        · exact hv
        · exact zdd i hi
    · have l0 : ¬ W.2.2 1 i = 100 := by rw [l]; decide
      have hcl : (nI v).toNatClampNeg = v := nI_clamp (by omega)
      rw [x2, x4] at hr ⊢
      rw [if_pos l, c_timeN s4 ht (by omega)] at hr ⊢
      rw [if_neg l0, if_pos l, hcl]
      by_cases q : t + v ≤ 1000000
      · rw [if_pos (decide_eq_true q)]
        exact ⟨t + v, q, r_pass h v (by omega)⟩
      · exact absurd (if_neg (by rw [decide_eq_true_eq]; exact q)) hr
    · have l0 : ¬ W.2.2 1 i = 100 := by rw [l]; decide
      have l1 : ¬ W.2.2 1 i = 109 := by rw [l]; decide
      rw [x1] at hr ⊢
      rw [if_neg l1, if_pos l] at hr ⊢
      rw [if_neg l0, if_neg l1, if_pos l, x2, x4]
      by_cases q : p_has S (W.2.2 2 i) = true
      · obtain ⟨p, hp, ep, hcl, m1, m2, m3, m4⟩ := mode _ q
        rw [if_pos q, ep, hcl]
        refine ⟨t, ht, ?_⟩
        exact RS_of hR h23 (zC_P hC 3 1 p v rfl (by omega) (by omega) rfl) (zM_up hM _ v (nI_l (by omega))) (zB_up hB _ _ (by omega) _ (by omega) (Nat.le_refl _)) rfl rfl rfl (fun k hk => pk_uLn (by omega))
      · exact absurd (if_neg q) hr
    · have l0 : ¬ W.2.2 1 i = 100 := by rcases l with l | l <;> rw [l] <;> decide
      have l1 : ¬ W.2.2 1 i = 109 := by rcases l with l | l <;> rw [l] <;> decide
      have l2 : ¬ W.2.2 1 i = 111 := by rcases l with l | l <;> rw [l] <;> decide
      rw [x1] at hr ⊢
      rw [if_neg l1, if_neg l2] at hr ⊢
      rw [if_neg l0, if_neg l1, if_neg l2]
      by_cases q : p_has S (W.2.2 2 i) = true
      · obtain ⟨p, hp, ep, hcl, m1, m2, m3, m4⟩ := mode _ q
        simp only [if_pos q, m4] at hr ⊢
        rw [ep, hcl]
        rcases l with l | l
        · rw [if_pos l] at hr
          simp only [if_pos l]
          by_cases y : Z (48 + 8 * p + 2) = 2
          · exact absurd (if_neg (by simp [y])) hr
          · rw [if_pos (by simp [y])]
            exact ⟨t, ht, put p hp 2 2 2 rfl rfl (by omega)⟩
        · have l3 : ¬ W.2.2 1 i = 120 := by rw [l]; decide
          rw [if_neg l3, if_pos l] at hr
          simp only [if_neg l3, if_pos l]
          by_cases y : Z (48 + 8 * p + 2) = 2
          · rw [if_neg (by simp [y])]
            exact ⟨t, ht, put p hp 0 0 0 rfl rfl (by omega)⟩
          · exact absurd (if_pos (by simp [y])) hr
      · rcases l with l | l
        · rw [if_pos l] at hr
          exact absurd (if_neg q) hr
        · have l3 : ¬ W.2.2 1 i = 120 := by rw [l]; decide
          rw [if_neg l3, if_pos l] at hr
          exact absurd (if_neg q) hr
  · exact carry_c S T n (nI i)
