/-! MATHEMATICS: the whole object and the model: now, saved states, text -/
theorem RS_w {S : SS} {w w' : Nat → Int64} {n t : Nat} (h : RS S w n t) (e : ∀ k, k < 138 → w' k = w k) : RS S w' n t := by
  obtain ⟨⟨Z, hC, hM, hB, hO, hL⟩, h23⟩ := h
  have hn6 := hB.2.1
  refine ⟨⟨Z, hC, fun k hk => ?_, hB, zO_w hO (fun k hk => e _ (by omega)), zL_f hL (fun k h1 h2 h3 => e _ (by omega))⟩, (e 23 (by omega)).trans h23⟩
  rw [e k (by unfold zd at hk; omega)]
  exact hM k hk
theorem w_le (a b : Int32) : a.toInt64 ≤ b.toInt64 ↔ a ≤ b := by rw [Int64.le_iff_toInt_le, Int32.le_iff_toInt_le, Int32.toInt_toInt64, Int32.toInt_toInt64]
theorem w_lt (a b : Int32) : a.toInt64 < b.toInt64 ↔ a < b := by rw [Int64.lt_iff_toInt_lt, Int32.lt_iff_toInt_lt, Int32.toInt_toInt64, Int32.toInt_toInt64]
theorem w_eq (a b : Int32) : a.toInt64 = b.toInt64 ↔ a = b := by rw [← Int64.toInt_inj, ← Int32.toInt_inj, Int32.toInt_toInt64, Int32.toInt_toInt64]
theorem w_i (a : Int32) : a.toInt64.toInt32 = a := by simp
theorem m_c_in (x lo hi : Int32) {lo' hi' : Int64} (h1 : lo' = lo.toInt64) (h2 : hi' = hi.toInt64) : m_in x.toInt64 lo' hi' = c_in x lo hi := by
  subst h1; subst h2
  unfold m_in c_in
  exact decide_eq_decide.mpr (by rw [w_lt, w_lt])
theorem c_in_t {x lo hi : Int32} {a b : Nat} (h : c_in x lo hi = true) (ha : lo = nI a) (hb : hi = nI b) (hb2 : b < 2 ^ 31) (hab : a ≤ b) : ∃ v, a ≤ v ∧ v ≤ b ∧ x = nI v := by
  subst ha; subst hb
  unfold c_in at h
  rw [decide_eq_true_eq, Int32.not_lt, Int32.not_lt] at h
  have h0 : ¬ x < 0 := by
    rw [Int32.not_lt]
    exact Int32.le_trans (nI_pos' (by omega)) h.1
  obtain ⟨v, hv, rfl⟩ := nI_of h0
  exact ⟨v, (nI_leI (by omega) hv).mp h.1, (nI_leI hv (by omega)).mp h.2, rfl⟩
theorem isP_eq {S : SS} {w : Nat → Int64} {n : Nat} (h8 : S.1 8 = nI n) (w7 : w 7 = lN n) (hn6 : n ≤ 6) (x : Int32) : m_isP w x = p_has S x := by
  unfold m_isP m_in p_has
  rw [h8, w7]
  refine decide_eq_decide.mpr ?_
  have h1 : (lN n - 1).toInt = (n : Int) - 1 := lN_sub_toInt (a := n) (b := 1) (by omega) (by omega)
  rw [Int64.lt_iff_toInt_lt, Int64.lt_iff_toInt_lt, Int32.lt_iff_toInt_lt, Int32.le_iff_toInt_le, Int32.toInt_toInt64, h1, nI_toInt (by omega), show (0 : Int64).toInt = 0 from by decide, show (0 : Int32).toInt = 0 from by decide]
  omega
theorem itr_sh (f : Nat → Int64) (k : Nat) : ∀ n, itr o_shB n f k = if k < n then f (k + 138) else f k
  | 0 => by rw [if_neg (Nat.not_lt_zero k)]; rfl
  | n + 1 => by
    have h1 : itr o_shB n f (n + 138) = f (n + 138) := by rw [itr_sh f (n + 138) n]; exact if_neg (by omega)
    rw [itr_s]
    show (if k = n then itr o_shB n f (n + 138) else itr o_shB n f k) = _
    rw [h1]
    by_cases e : k = n
    · subst e; rw [if_pos rfl, if_pos (show k < k + 1 by omega)]
    · rw [if_neg e, itr_sh f k n]
      by_cases e2 : k < n
      · rw [if_pos e2, if_pos (show k < n + 1 by omega)]
      · rw [if_neg e2, if_neg (show ¬ k < n + 1 by omega)]
theorem itr_sv (s : Nat) (g f : Nat → Int64) (k : Nat) : ∀ n, itr (o_svB s g) n f k = if 138 * s ≤ k ∧ k < 138 * s + n then g (k - 138 * s) else f k
  | 0 => by rw [if_neg (by omega)]; rfl
  | n + 1 => by
    rw [itr_s]
    show (if k = 138 * s + n then g n else itr (o_svB s g) n f k) = _
    by_cases e : k = 138 * s + n
    · subst e
      rw [if_pos rfl, if_pos (show 138 * s ≤ 138 * s + n ∧ 138 * s + n < 138 * s + (n + 1) by omega), show 138 * s + n - 138 * s = n by omega]
    · rw [if_neg e, itr_sv s g f k n]
      by_cases e2 : 138 * s ≤ k ∧ k < 138 * s + n
      · rw [if_pos e2, if_pos (show 138 * s ≤ k ∧ k < 138 * s + (n + 1) by omega)]
      · rw [if_neg e2, if_neg (show ¬ (138 * s ≤ k ∧ k < 138 * s + (n + 1)) by omega)]
def sj (S3 S4 S5 S6 : SS) (j : Nat) : SS := if j = 0 then S3 else if j = 1 then S4 else if j = 2 then S5 else S6
/-- saved states: the j-th from the latest -/
def RSv (F : Nat → SS) (V : Nat → Int64) (st : Nat) : Prop := ∀ j, j < st → ∃ n t, t ≤ 1000000 ∧ RS (F j) (fun k => V (138 * (st - 1 - j) + k)) n t
def s_up (st : Nat) : Nat := if st = 4 then 4 else st + 1
theorem s_up_le {st : Nat} (h : st ≤ 4) : s_up st ≤ 4 := by unfold s_up; split <;> omega
theorem c_svN {st : Nat} (h : st ≤ 4) : c_sv (nI st) = nI (s_up st) := by
  unfold c_sv s_up
  by_cases e : st = 4
  · subst e; rfl
  · have c : ¬ (4 : Int32) ≤ nI st := nI_ge (b := 4) (by omega) (by omega)
    rw [if_neg c, if_neg e, nI_1]
theorem o_save_0 {M : MS} {st : Nat} (h0 : M.1 0 = nI st) (h : st ≤ 4) : (o_save M st).1 0 = nI (s_up st) := by
  show (o_sv1 M).1 0 + 1 = _
  rw [o_sv1_0 h0 h, nI_1]
  unfold o_s1 s_up
  split <;> rfl
theorem o_save_2 {M : MS} {st : Nat} (h0 : M.1 0 = nI st) (h : st ≤ 4) (k : Nat) : (o_save M st).2.1 2 k = if 138 * o_s1 st ≤ k ∧ k < 138 * o_s1 st + 138 then M.2.1 0 (k - 138 * o_s1 st) else if st = 4 ∧ k < 414 then M.2.1 2 (k + 138) else M.2.1 2 k := by
  show itr (o_svB (o_s1 st) ((o_sv1 M).2.1 0)) 138 ((o_sv1 M).2.1 2) k = _
  rw [itr_sv]
  have e0 : (o_sv1 M).2.1 0 = M.2.1 0 := by unfold o_sv1; split <;> rfl
  have e2 : (o_sv1 M).2.1 2 k = if st = 4 ∧ k < 414 then M.2.1 2 (k + 138) else M.2.1 2 k := by
    unfold o_sv1
    by_cases e : st = 4
    · have c : M.1 0 = 4 := by rw [h0, e]; rfl
      rw [if_pos c]
      show itr o_shB 414 (M.2.1 2) k = _
      rw [itr_sh]
      by_cases e3 : k < 414
      · rw [if_pos e3, if_pos ⟨e, e3⟩]
      · rw [if_neg e3, if_neg (fun q => e3 q.2)]
    · have c : ¬ M.1 0 = 4 := by rw [h0]; exact fun q => e ((nI_eq (b := 4) (by omega) (by omega)).mp q)
      rw [if_neg c, if_neg (fun q => e q.1)]
  rw [e0, e2]
theorem r_save {S2 S3 S4 S5 S6 : SS} {M : MS} {st n t : Nat} (h0 : M.1 0 = nI st) (hst : st ≤ 4) (hv : RSv (sj S3 S4 S5 S6) (M.2.1 2) st) (hn : RS S2 (M.2.1 0) n t) (ht : t ≤ 1000000) : RSv (sj S2 S3 S4 S5) ((o_save M st).2.1 2) (s_up st) := by
  intro j hj
  have hs : o_s1 st + 1 = s_up st := by unfold o_s1 s_up; split <;> omega
  have hu := s_up_le hst
  by_cases e : j = 0
  · subst e
    refine ⟨n, t, ht, RS_w hn (fun k hk => ?_)⟩
    show (o_save M st).2.1 2 (138 * (s_up st - 1 - 0) + k) = _
    rw [o_save_2 h0 hst, show s_up st - 1 - 0 = o_s1 st by omega, if_pos (show 138 * o_s1 st ≤ 138 * o_s1 st + k ∧ 138 * o_s1 st + k < 138 * o_s1 st + 138 by omega), show 138 * o_s1 st + k - 138 * o_s1 st = k by omega]
  · have hj2 : j - 1 < st := by unfold s_up at hj; split at hj <;> omega
    obtain ⟨n', t', ht', hr⟩ := hv (j - 1) hj2
    have hF : sj S2 S3 S4 S5 j = sj S3 S4 S5 S6 (j - 1) := by
      have : j = 1 ∨ j = 2 ∨ j = 3 := by omega
      rcases this with e | e | e <;> subst e <;> rfl
    rw [hF]
    refine ⟨n', t', ht', RS_w hr (fun k hk => ?_)⟩
    show (o_save M st).2.1 2 (138 * (s_up st - 1 - j) + k) = M.2.1 2 (138 * (st - 1 - (j - 1)) + k)
    rw [o_save_2 h0 hst, if_neg (by omega)]
    by_cases e4 : st = 4
    · subst e4
      have hu4 : s_up 4 = 4 := rfl
      rw [hu4, if_pos (show (4 : Nat) = 4 ∧ 138 * (4 - 1 - j) + k < 414 by omega), show 138 * (4 - 1 - j) + k + 138 = 138 * (4 - 1 - (j - 1)) + k by omega]
    · have hu4 : s_up st = st + 1 := by unfold s_up; rw [if_neg e4]
      rw [hu4, if_neg (fun q => e4 q.1), show st + 1 - 1 - j = st - 1 - (j - 1) by omega]
/-- the object (now S2, saved S3 .. S6, text T, sv states saved) and the model M stand for the same -/
def RO (S2 S3 S4 S5 S6 : SS) (T : TS) (sv : Int32) (M : MS) (st n t le : Nat) : Prop :=
  (sv = nI st ∧ M.1 0 = nI st ∧ st ≤ 4) ∧ (RS S2 (M.2.1 0) n t ∧ t ≤ 1000000) ∧ RSv (sj S3 S4 S5 S6) (M.2.1 2) st ∧ T.1 0 = nI le ∧ M.1 1 = nI le ∧ le ≤ 100 ∧ ∀ i, i < 100 → T.2 0 i = M.2.2 0 i
def ROE (S2 S3 S4 S5 S6 : SS) (T : TS) (sv : Int32) (M : MS) : Prop := ∃ st n t le, RO S2 S3 S4 S5 S6 T sv M st n t le
theorem RO_thr {S2 S3 S4 S5 S6 : SS} {T : TS} {sv : Int32} {M : MS} {st n t le : Nat} (h : RO S2 S3 S4 S5 S6 T sv M st n t le) (c : Int32) : ROE S2 S3 S4 S5 S6 T sv (o_setI M 2 c) := ⟨st, n, t, le, h⟩
theorem RO_put {S2 S3 S4 S5 S6 : SS} {T : TS} {sv : Int32} {M : MS} {st n t le : Nat} (h : RO S2 S3 S4 S5 S6 T sv M st n t le) {S2' : SS} {w' : Nat → Int64} {n' t' : Nat} (hR : RS S2' w' n' t') (ht : t' ≤ 1000000) (M' : MS) (h0 : M'.1 0 = (o_save (o_setI M 2 0) st).1 0) (h1 : M'.1 1 = M.1 1)
    (hV0 : ∀ k, k < 138 → M'.2.1 0 k = w' k) (hV2 : M'.2.1 2 = (o_save (o_setI M 2 0) st).2.1 2) (hA : M'.2.2 0 = M.2.2 0) : ROE S2' S2 S3 S4 S5 T (c_sv sv) M' := by
  obtain ⟨⟨a1, a2, a3⟩, ⟨b1, b2⟩, hv, c1, c2, c3, c4⟩ := h
  have a4 : (o_setI M 2 0).1 0 = nI st := a2
  refine ⟨s_up st, n', t', le, ⟨by rw [a1]; exact c_svN a3, by rw [h0]; exact o_save_0 a4 a3, s_up_le a3⟩, ⟨RS_w hR hV0, ht⟩, ?_, c1, by rw [h1]; exact c2, c3, fun i hi => by rw [hA]; exact c4 i hi⟩
  rw [hV2]
  exact r_save (S6 := S6) a4 a3 hv b1 b2
theorem RO_puts {S2 S3 S4 S5 S6 : SS} {T : TS} {sv : Int32} {M : MS} {st n t le : Nat} (h : RO S2 S3 S4 S5 S6 T sv M st n t le) {S2' : SS} {n' t' : Nat} (k : Nat) (v : Int32) (hR : RS S2' (vp_updL (M.2.1 0) k v.toInt64) n' t') (ht : t' ≤ 1000000) : ROE S2' S2 S3 S4 S5 T (c_sv sv) (o_puts (o_setI M 2 0) st k v) :=
  RO_put h hR ht _ rfl ((o_save_I (o_setI M 2 0) st 1 (by omega)).trans rfl) (fun j hj => by
    show vp_updL ((o_save (o_setI M 2 0) st).2.1 0) k v.toInt64 j = _
    rw [o_save_V _ _ _ (by omega)]; rfl) rfl (by
    show (o_save (o_setI M 2 0) st).2.2 0 = _
    rw [o_save_A]; rfl)
theorem o_putsR_e (M : MS) (st k : Nat) : o_putsR (o_setI M 2 0) st k = (M.2.1 0 k).toInt32 := by
  unfold o_putsR
  rw [o_save_V _ _ _ (by omega)]; rfl
theorem RO_w {S2 S3 S4 S5 S6 : SS} {T : TS} {sv : Int32} {M : MS} {st n t le : Nat} (h : RO S2 S3 S4 S5 S6 T sv M st n t le) : ∃ Z, Rl S2 (M.2.1 0) Z n t (200000 + 10 * t) ∧ M.2.1 0 23 = bg t ∧ t ≤ 1000000 ∧ n ≤ 6 := by
  obtain ⟨-, ⟨⟨⟨Z, hR⟩, b1⟩, b2⟩, -⟩ := h
  exact ⟨Z, hR, b1, b2, hR.2.2.1.2.1⟩
/-- of a call that may throw: what the class throws (th), what the model notes (tm) -/
def Q3 (e1 e2 : String) (th : Option String) (tm : Int32) (eqr RN R0 : Prop) : Prop := (th = none ∧ tm = 0 ∧ eqr ∧ RN) ∨ (th = some e1 ∧ tm = 1 ∧ R0) ∨ (th = some e2 ∧ tm = 2 ∧ R0)
abbrev iae : String := "java/lang/IllegalArgumentException"
abbrev ise : String := "java/lang/IllegalStateException"
abbrev iob : String := "java/lang/IndexOutOfBoundsException"
theorem o_tm0 {M : MS} {c : Int32} : (o_setI M 2 c).1 2 = c := rfl
theorem o_puts_2 (M : MS) (st k : Nat) (v : Int32) : (o_puts (o_setI M 2 0) st k v).1 2 = 0 := (o_save_I (o_setI M 2 0) st 2 (by omega)).trans rfl
