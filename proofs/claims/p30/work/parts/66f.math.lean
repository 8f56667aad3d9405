/-! MATHEMATICS: what the law's calls need, and what they leave -/
theorem f_hour {S : SS} {n t k : Nat} (h4 : S.1 4 = nI t) (ht : t + k ≤ 1000000) : ps_h S k = nI ((t + k) / 60 % 24) := by
  unfold ps_h
  rw [h4, nI_add, show (60 : Int32) = nI 60 from rfl, show (24 : Int32) = nI 24 from rfl, pk_div (by omega) (by omega) (by omega), pk_rem (by omega) (by omega) (by omega)]
theorem c_inN {a lo hi : Nat} (h1 : lo ≤ a) (h2 : a ≤ hi) (h3 : hi < 2 ^ 31) : c_in (nI a) (nI lo) (nI hi) = true := by
  unfold c_in
  exact decide_eq_true ⟨nI_nlt h1 (by omega), nI_nlt h2 h3⟩
theorem f_dem {S : SS} {Z : Nat → Nat} (hC : zC S Z) {h : Nat} (hh : h < 24) : s_dem S (nI h) = nI (Z (24 + h)) := by
  unfold s_dem
  rw [if_pos ⟨nI_pos (by omega), nI_ge (b := 24) hh (by omega)⟩, nI_clamp (by omega)]
  exact zC_d hC hh
theorem f_sum {S : SS} {Z W : Nat → Nat} {n t : Nat} {B : Int} (h : JJ S Z W n t B) : ∀ k, t + k ≤ 1000000 → itr (ps_B S) k (S.2.2.2 2 + S.2.2.2 3) = lN (W 2 + W 3 + dsum Z t k)
  | 0, _ => by
    show S.2.2.2 2 + S.2.2.2 3 = lN (W 2 + W 3 + 0)
    rw [h.2.1 2 (by omega), h.2.1 3 (by omega), lN_add]
    rfl
  | k + 1, hk => by
    have hd := h.2.2.2.2.1 ((t + k) / 60 % 24) (by omega)
    rw [itr_s, f_sum h k (by omega)]
    show lN (W 2 + W 3 + dsum Z t k) + (s_dem S (ps_h S k)).toInt64 = lN (W 2 + W 3 + (dsum Z t k + Z (24 + (t + k) / 60 % 24)))
    rw [f_hour (n := n) (J_n h).2.2 (by omega), f_dem h.1 (by omega), nI_l (by omega), lN_add]
    congr 1
    omega
theorem f_time {S : SS} {t m : Nat} (h4 : S.1 4 = nI t) (ht : t + m ≤ 1000000) : c_time S (nI m) = true := by
  unfold c_time
  rw [h4, nI_add]
  exact decide_eq_true (nI_nlt (a := 1000000) (by omega) (by omega))
/-- minutes that pass: what passesOne needs, what undoesOne needs, what is left -/
theorem f_pass {S : SS} {Z W : Nat → Nat} {n t : Nat} {B : Int} (h : JJ S Z W n t B) {m : Nat} (hm1 : 1 ≤ m) (hm : m ≤ 1440) (ht : t + m ≤ 1000000) : c_in (nI m) 1 1440 = true ∧ c_time S (nI m) = true ∧ ps_ok S n (nI m) ∧ (¬ (s_pass S n (nI m).toNatClampNeg).1 5 - S.1 5 < 0) ∧ (s_pass S n (nI m).toNatClampNeg).1 4 = S.1 4 + nI m ∧ ∃ Z' W', JJ (s_pass S n (nI m).toNatClampNeg) Z' W' n (t + m) B := by
  obtain ⟨h8, hn3, h4⟩ := J_n h
  obtain ⟨Z', W', g, g1, g2, g3, g5⟩ := j_pass h m ht
  obtain ⟨-, -, g4⟩ := J_n g
  have hcl : (nI m).toNatClampNeg = m := nI_clamp (by omega)
  have s5 : S.1 5 = nI (Z 9) := J_i h 5 9 (by omega) rfl
  have t5 : (s_pass S n m).1 5 = nI (Z' 9) := J_i g 5 9 (by omega) rfl
  have z6 := h.2.2.2.1.2.2.2.2.2.2.2.2.2.2.1
  have z5 := h.2.2.2.1.2.2.2.2.2.2.2.2.2.1
  have z9 : Z' 9 ≤ t + m := by
    have q1 := g.2.2.2.2.2.2.1.1
    have q2 := g.2.2.2.2.2.2.1.2.1
    have hP := g.2.2.2.2.2.1
    have b0 : Z' 54 ≤ Z' 52 := (hP 0 (by omega)).2.1.2.1
    have b1 : Z' 62 ≤ Z' 60 := (hP 1 (by omega)).2.1.2.1
    have b2 : Z' 70 ≤ Z' 68 := (hP 2 (by omega)).2.1.2.1
    omega
  have e5 : (s_pass S n m).1 5 - S.1 5 = nI (Z' 9 - Z 9) := by rw [s5, t5]; exact pk_sub g1.2.2.2.1
  refine ⟨c_inN (lo := 1) (hi := 1440) hm1 hm (by omega), f_time h4 ht, ⟨?_, ?_, ?_, ?_, ?_⟩, ?_, ?_, Z', W', by rw [hcl]; exact g⟩
  · rw [hcl]
    intro k hk
    rw [f_hour (n := n) h4 (by omega)]
    exact c_inN (lo := 0) (hi := 23) (by omega) (by omega) (by omega)
  · rw [hcl, g4, h4, nI_add]
  · rw [hcl, f_sum h m ht, g.2.1 2 (by omega), g.2.1 3 (by omega), lN_add, g2]
  · rw [hcl, g.2.1 4 (by omega), h.2.1 4 (by omega), lN_sub g5, show (s_pass S n m).2.2.1 0 1 = nI (Z' 5) from zC_s g.1 (j := 1) (by omega), g1.1, nI_l (by omega), nI_l (by omega), lN_mul]
    have q : m * Z 5 ≤ 1440 * 100 := Nat.mul_le_mul hm z5
    exact fun q9 => absurd ((lN_lt (by omega) (by omega)).mp q9) (by omega)
  · rw [hcl, show (s_pass S n m).2.2.1 0 2 = nI (Z' 6) from zC_s g.1 (j := 2) (by omega), g1.2.1, e5]
    intro q
    have e : Z 6 = 0 := by
      rcases Nat.lt_or_ge (Z 6) 1 with a | a
      · omega
      · exact absurd (show nI (Z 6) = 1 by rw [show Z 6 = 1 by omega]; rfl) q
    rw [g1.2.2.2.2 e, Nat.sub_self]
    rfl
  · rw [hcl, e5]
    exact nI_pos (by omega)
  · rw [hcl, g4, h4, nI_add]
/-! the setters -/
theorem o_size {S : SS} {Z W : Nat → Nat} {n t : Nat} {B : Int} (h : JJ S Z W n t B) {m : Nat} (hm : m ≤ 100000) (h1 : ¬ nI m < S.1 1) (h3 : S.1 3 ≤ nI m) : ∃ Z', JJ (setI S 0 (nI m)) Z' W n t B := by
  have s1 : S.1 1 = nI (Z 1) := J_i h 1 1 (by omega) rfl
  have s3 : S.1 3 = nI (Z 3) := J_i h 3 3 (by omega) rfl
  obtain ⟨hC, hW, hO, hA, hD, hP, hS, hL⟩ := h
  have zu : ∀ k, k ≠ 0 → upN Z 0 m k = Z k := fun k hk => upN_n hk
  have zs : upN Z 0 m 0 = m := upN_s
  refine ⟨upN Z 0 m, zC_I hC 0 m (by omega) rfl, hW, hO, ?_, jD_of hD (fun j hj => zu _ (by omega)), fun p hp => jQ_of (hP p hp) (fun f hf => zu _ (by omega)), jS_of hS (fun k hk => zu k (by omega)), jL_of hL (fun k hk => zu k (by omega))⟩
  unfold jA at *
  rw [s1] at h1
  rw [s3] at h3
  have a1 := mt (fun q => nI_lt (a := m) (b := Z 1) q (by omega)) h1
  have a3 := (nI_leI (by omega) (by omega)).mp h3
  rw [zu 7 (by omega), zu 8 (by omega), zs, zu 1 (by omega), zu 2 (by omega), zu 3 (by omega), zu 4 (by omega), zu 5 (by omega), zu 6 (by omega), zu 10 (by omega), zu 13 (by omega), zu 9 (by omega)]
  omega
theorem o_band {S : SS} {Z W : Nat → Nat} {n t : Nat} {B : Int} (h : JJ S Z W n t B) {a b : Nat} (ha : 1 ≤ a) (hab : a < b) (hb : b < 2 ^ 31) (h3 : nI b ≤ S.1 0) : ∃ Z', JJ (setI (setI S 2 (nI a)) 3 (nI b)) Z' W n t B := by
  have s0 : S.1 0 = nI (Z 0) := J_i h 0 0 (by omega) rfl
  obtain ⟨hC, hW, hO, hA, hD, hP, hS, hL⟩ := h
  have zu : ∀ k, k ≠ 2 → k ≠ 3 → upN (upN Z 2 a) 3 b k = Z k := fun k h1 h2 => (upN_n h2).trans (upN_n h1)
  have z2 : upN (upN Z 2 a) 3 b 2 = a := (upN_n (by omega)).trans upN_s
  have z3 : upN (upN Z 2 a) 3 b 3 = b := upN_s
  refine ⟨upN (upN Z 2 a) 3 b, zC_I (zC_I hC 2 a (by omega) rfl) 3 b (by omega) rfl, hW, hO, ?_, jD_of hD (fun j hj => zu _ (by omega) (by omega)), fun p hp => jQ_of (hP p hp) (fun f hf => zu _ (by omega) (by omega)), jS_of hS (fun k hk => zu k (by omega) (by omega)), jL_of hL (fun k hk => zu k (by omega) (by omega))⟩
  unfold jA at *
  rw [s0] at h3
  have a3 := (nI_leI (by omega) (by omega)).mp h3
  rw [zu 7 (by omega) (by omega), zu 8 (by omega) (by omega), zu 0 (by omega) (by omega), zu 1 (by omega) (by omega), z2, z3, zu 4 (by omega) (by omega), zu 5 (by omega) (by omega), zu 6 (by omega) (by omega), zu 10 (by omega) (by omega), zu 13 (by omega) (by omega), zu 9 (by omega) (by omega)]
  omega
theorem o_level {S : SS} {Z W : Nat → Nat} {n t : Nat} {B : Int} (h : JJ S Z W n t B) {m : Nat} (hm : m ≤ Z 0) : ∃ Z', JJ (setI S 1 (nI m)) Z' W n t (B + ((m : Int) - Z 1)) := by
  obtain ⟨hC, hW, hO, hA, hD, hP, hS, hL⟩ := h
  have zu : ∀ k, k ≠ 1 → upN Z 1 m k = Z k := fun k hk => upN_n hk
  have zs : upN Z 1 m 1 = m := upN_s
  refine ⟨upN Z 1 m, zC_I hC 1 m (by omega) rfl, hW, hO, ?_, jD_of hD (fun j hj => zu _ (by omega)), fun p hp => jQ_of (hP p hp) (fun f hf => zu _ (by omega)), ?_, jL_of hL (fun k hk => zu k (by omega))⟩
  · unfold jA at *
    rw [zu 7 (by omega), zu 8 (by omega), zu 0 (by omega), zs, zu 2 (by omega), zu 3 (by omega), zu 4 (by omega), zu 5 (by omega), zu 6 (by omega), zu 10 (by omega), zu 13 (by omega), zu 9 (by omega)]
    omega
  · unfold jS at *
    rw [zu 9 (by omega), zu 54 (by omega), zu 62 (by omega), zu 70 (by omega), zu 52 (by omega), zu 60 (by omega), zu 68 (by omega), zu 48 (by omega), zu 53 (by omega), zu 56 (by omega), zu 61 (by omega), zu 64 (by omega), zu 69 (by omega), zs]
    obtain ⟨g1, g2, g3, g4, g5⟩ := hS
    exact ⟨g1, g2, g3, by omega, g5⟩
/-- a setting k that becomes v -/
theorem o_set {S : SS} {Z W : Nat → Nat} {n t : Nat} {B : Int} (h : JJ S Z W n t B) {k v : Nat} (hk : k < 3) (hv : v ≤ if k = 0 then 5000 else if k = 1 then 100 else 1) : ∃ Z', JJ (s_chS S (nI k) (nI v)) Z' W n t B ∧ ∀ j, j < 3 → Z' (4 + j) = if j = k then v else Z (4 + j) := by
  obtain ⟨hC, hW, hO, hA, hD, hP, hS, hL⟩ := h
  have zu : ∀ j, j ≠ 4 + k → upN Z (4 + k) v j = Z j := fun j hj => upN_n hj
  have zs : upN Z (4 + k) v (4 + k) = v := upN_s
  have hcl : (nI k).toNatClampNeg = k := nI_clamp (by omega)
  unfold s_chS
  rw [if_pos ⟨nI_pos (by omega), nI_ge (b := 3) hk (by omega)⟩, hcl]
  refine ⟨upN Z (4 + k) v, ⟨zC_S hC k v hk rfl, hW, ?_, ?_, jD_of hD (fun j hj => zu _ (by omega)), fun p hp => jQ_of (hP p hp) (fun f hf => zu _ (by omega)), jS_of hS (fun k hk => zu k (by omega)), jL_of hL (fun k hk => zu k (by omega))⟩, fun j hj => ?_⟩
  · show pl ((setA S 0 _).2.2.1 5) n
    rw [setA_o (by decide)]
    exact hO
  · unfold jA at *
    have e : k = 0 ∨ k = 1 ∨ k = 2 := by omega
    rw [zu 7 (by omega), zu 8 (by omega), zu 0 (by omega), zu 1 (by omega), zu 2 (by omega), zu 3 (by omega), zu 10 (by omega), zu 13 (by omega), zu 9 (by omega)]
    rcases e with e | e | e <;> subst e
    · rw [show upN Z (4 + 0) v 4 = v from zs, zu 5 (by omega), zu 6 (by omega)]
      have : v ≤ 5000 := hv
      omega
    · rw [show upN Z (4 + 1) v 5 = v from zs, zu 4 (by omega), zu 6 (by omega)]
      have : v ≤ 100 := hv
      omega
    · rw [show upN Z (4 + 2) v 6 = v from zs, zu 4 (by omega), zu 5 (by omega)]
      have : v ≤ 1 := hv
      omega
  · by_cases e : j = k
    · rw [if_pos e, e]; exact zs
    · rw [if_neg e]; exact zu _ (by omega)
theorem o_demand {S : SS} {Z W : Nat → Nat} {n t : Nat} {B : Int} (h : JJ S Z W n t B) {k v : Nat} (hk : k < 24) (hv : v ≤ 1000) : ∃ Z', JJ (s_chD S (nI k) (nI v)) Z' W n t B ∧ s_dem (s_chD S (nI k) (nI v)) (nI k) = nI v := by
  obtain ⟨hC, hW, hO, hA, hD, hP, hS, hL⟩ := h
  have zu : ∀ j, j ≠ 24 + k → upN Z (24 + k) v j = Z j := fun j hj => upN_n hj
  have zs : upN Z (24 + k) v (24 + k) = v := upN_s
  have hcl : (nI k).toNatClampNeg = k := nI_clamp (by omega)
  have hC2 : zC (s_chD S (nI k) (nI v)) (upN Z (24 + k) v) := by
    unfold s_chD
    rw [if_pos ⟨nI_pos (by omega), nI_ge (b := 24) hk (by omega)⟩, hcl]
    exact zC_D hC k v hk rfl
  refine ⟨upN Z (24 + k) v, ⟨hC2, ?_, ?_, jA_of hA (fun k hk => zu k (by omega)), fun j hj => ?_, fun p hp => jQ_of (hP p hp) (fun f hf => zu _ (by omega)), jS_of hS (fun k hk => zu k (by omega)), jL_of hL (fun k hk => zu k (by omega))⟩, ?_⟩
  · rw [show (s_chD S (nI k) (nI v)).2.2.2 = S.2.2.2 from by unfold s_chD; split <;> rfl]
    exact hW
  · rw [show (s_chD S (nI k) (nI v)).2.2.1 5 = S.2.2.1 5 from by unfold s_chD; split <;> rfl]
    exact hO
  · by_cases e : j = k
    · rw [e, zs]; exact hv
    · rw [zu _ (by omega)]; exact hD j hj
  · rw [f_dem hC2 hk, zs]
theorem o_swear {S : SS} {Z W : Nat → Nat} {n t : Nat} {B : Int} (h : JJ S Z W n t B) {q v : Nat} (hq : q < n) (hv1 : 1 ≤ v) (hv : v ≤ 12) : ∃ Z', JJ (setA S 3 (upd (S.2.2.1 3) (nI q).toNatClampNeg (nI v))) Z' W n t B := by
  obtain ⟨h8, hn3, h4⟩ := J_n h
  obtain ⟨hC, hW, hO, hA, hD, hP, hS, hL⟩ := h
  have zu : ∀ j, j ≠ 48 + 8 * q + 1 → upN Z (48 + 8 * q + 1) v j = Z j := fun j hj => upN_n hj
  have zs : upN Z (48 + 8 * q + 1) v (48 + 8 * q + 1) = v := upN_s
  have hcl : (nI q).toNatClampNeg = q := nI_clamp (by omega)
  rw [hcl]
  have e3 : q = 0 ∨ q = 1 ∨ q = 2 := by omega
  refine ⟨upN Z (48 + 8 * q + 1) v, zC_P hC 3 1 q v rfl (by omega) (by omega) rfl, hW, hO, jA_of hA (fun k hk => zu k (by omega)), jD_of hD (fun j hj => zu _ (by omega)), fun p hp => ?_, ?_, jL_of hL (fun k hk => zu k (by omega))⟩
  · by_cases e : p = q
    · subst e
      obtain ⟨⟨a0, a1, a2⟩, b, c1, c2⟩ := hP p hp
      unfold jQ
      rw [zs, zu (48 + 8 * p + 0) (by omega), zu (48 + 8 * p + 2) (by omega), zu (48 + 8 * p + 3) (by omega), zu (48 + 8 * p + 4) (by omega), zu (48 + 8 * p + 5) (by omega), zu (48 + 8 * p + 6) (by omega)]
      exact ⟨⟨a0, hv, a2⟩, b, fun _ => hv1, c2⟩
    · exact jQ_of (hP p hp) (fun f hf => zu _ (by omega))
  · unfold jS at *
    rw [zu 9 (by omega), zu 54 (by omega), zu 62 (by omega), zu 70 (by omega), zu 52 (by omega), zu 60 (by omega), zu 68 (by omega), zu 48 (by omega), zu 53 (by omega), zu 56 (by omega), zu 61 (by omega), zu 64 (by omega), zu 69 (by omega), zu 1 (by omega)]
    exact hS
theorem o_mode {S : SS} {Z W : Nat → Nat} {n t : Nat} {B : Int} (h : JJ S Z W n t B) {q v : Nat} (hq : q < n) (hv : v ≤ 2) : ∃ Z', JJ (setA S 4 (upd (S.2.2.1 4) (nI q).toNatClampNeg (nI v))) Z' W n t B := by
  obtain ⟨h8, hn3, h4⟩ := J_n h
  obtain ⟨hC, hW, hO, hA, hD, hP, hS, hL⟩ := h
  have zu : ∀ j, j ≠ 48 + 8 * q + 2 → upN Z (48 + 8 * q + 2) v j = Z j := fun j hj => upN_n hj
  have zs : upN Z (48 + 8 * q + 2) v (48 + 8 * q + 2) = v := upN_s
  have hcl : (nI q).toNatClampNeg = q := nI_clamp (by omega)
  rw [hcl]
  refine ⟨upN Z (48 + 8 * q + 2) v, zC_P hC 4 2 q v rfl (by omega) (by omega) rfl, hW, hO, jA_of hA (fun k hk => zu k (by omega)), jD_of hD (fun j hj => zu _ (by omega)), fun p hp => ?_, jS_of hS (fun k hk => zu k (by omega)), jL_of hL (fun k hk => zu k (by omega))⟩
  by_cases e : p = q
  · subst e
    obtain ⟨⟨a0, a1, a2⟩, b, c1, c2⟩ := hP p hp
    unfold jQ
    rw [zs, zu (48 + 8 * p + 0) (by omega), zu (48 + 8 * p + 1) (by omega), zu (48 + 8 * p + 3) (by omega), zu (48 + 8 * p + 4) (by omega), zu (48 + 8 * p + 5) (by omega), zu (48 + 8 * p + 6) (by omega)]
    exact ⟨⟨a0, a1, hv⟩, b, c1, fun q9 => absurd q9 (by omega)⟩
  · exact jQ_of (hP p hp) (fun f hf => zu _ (by omega))
