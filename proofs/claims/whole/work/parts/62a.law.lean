/-! THE LAW'S BODY, a case at a time -/
theorem k_n0 (a b : va_W) : a ++ b = a ++ (b ++ []) := by simp
theorem k_as (a b c : va_W) : (a ++ b) ++ c = [] ++ (a ++ (b ++ c)) := by simp
theorem k_code_n {e1 : String} {th : Option String} (h : th ≠ none) : ¬ k_code e1 th = 0 := by
  unfold k_code
  rw [if_neg h]
  split <;> decide
theorem Q3_t {e1 e2 : String} {th : Option String} {tm : Int32} {eqr RN R0 : Prop} (q : Q3 e1 e2 th tm eqr RN R0) : th = none ∨ th = some e1 ∨ th = some e2 := by
  rcases q with ⟨h, -⟩ | ⟨h, -⟩ | ⟨h, -⟩
  · exact Or.inl h
  · exact Or.inr (Or.inl h)
  · exact Or.inr (Or.inr h)
theorem Q2_t {e1 : String} {th : Option String} {tm : Int32} {eqr RN R0 : Prop} (q : Q2 e1 th tm eqr RN R0) : th = none ∨ th = some e1 := by
  rcases q with ⟨h, -⟩ | ⟨h, -⟩
  · exact Or.inl h
  · exact Or.inr h
theorem Q3_n {e1 e2 : String} {th : Option String} {tm : Int32} {eqr RN R0 : Prop} (q : Q3 e1 e2 th tm eqr RN R0) (he : e2 ≠ e1) {W1 W0 : va_W} {P : va_W → Prop} (h1 : eqr → RN → P W1) (h0 : R0 → th ≠ none → P W0) : tm = k_code e1 th ∧ P (if th = none then W1 else W0) := by
  rcases q with ⟨h, ht, hr, hR⟩ | ⟨h, ht, hR⟩ | ⟨h, ht, hR⟩
  · subst h; rw [if_pos rfl, k_code_0]; exact ⟨ht, h1 hr hR⟩
  · subst h; rw [if_neg (fun z => nomatch z), k_code_1]; exact ⟨ht, h0 hR (fun z => nomatch z)⟩
  · subst h; rw [if_neg (fun z => nomatch z), k_code_2 he]; exact ⟨ht, h0 hR (fun z => nomatch z)⟩
theorem Q2_n {e1 : String} {th : Option String} {tm : Int32} {eqr RN R0 : Prop} (q : Q2 e1 th tm eqr RN R0) {W1 W0 : va_W} {P : va_W → Prop} (h1 : eqr → RN → P W1) (h0 : R0 → th ≠ none → P W0) : tm = k_code e1 th ∧ P (if th = none then W1 else W0) := by
  rcases q with ⟨h, ht, hr, hR⟩ | ⟨h, ht, hR⟩
  · subst h; rw [if_pos rfl, k_code_0]; exact ⟨ht, h1 hr hR⟩
  · subst h; rw [if_neg (fun z => nomatch z), k_code_1]; exact ⟨ht, h0 hR (fun z => nomatch z)⟩
abbrev A0 (s : State) : Nat → Prop := fun q => s.heap.size ≤ q
/-- what holds of the law all along -/
def lw_C (p : Program) (l : Launch) (s : State) (m : MethodId) (meth : Method) (c : Code) (b L : Nat) (xs : Nat → Int32) (D : va_G) (cI cJ : ClassId) : Prop :=
  p.tables.exec = Jvm.exec ∧ c.code = cL_law ∧ meth.sig.returnType = some .boolean ∧ c.maxLocals = 9 ∧ s.vm.findClass RL = some m.cls ∧ (∀ w ∈ wsL_law, w.before #[Value.ref b] s = true) ∧ va_X b L xs s s.heap ∧ b < s.heap.size ∧ meth.locks = false ∧ va_K D vwCl [(cI, .int), (cJ, .long)] s ∧ kT (A0 s) s ∧ kN3 s ∧ l.stackTraces = false ∧ L ≤ 1536
/-- an answer and the world behind a helper -/
def lw_P9 (o : Nat) (q1 q2 q3 q4 q5 q6 qt : Nat → Nat) (oa : Nat) (cI cJ : ClassId) (M : MS) (k : Int32) (B : Int64) (W : va_W) : Prop := ∃ (S1 S2 S3 S4 S5 S6 : SS) (T : TS) (sv : Int32) (f : Nat → Int64), W = poW o q1 q2 q3 q4 q5 q6 qt cI cJ S1 S2 S3 S4 S5 S6 T sv ++ ouW oa cJ f ∧ ROE S2 S3 S4 S5 S6 T sv M ∧ (k = 0 → f 0 = B)
theorem RS_perm {S : SS} {w : Nat → Int64} {n t : Nat} (h : RS S w n t) : ∀ j, j < n → ∃ i, i < 6 ∧ w (96 + i) = lN j := fun j hj => by
  obtain ⟨⟨Z, -, -, hB, hO, -⟩, -⟩ := h
  have hn6 := hB.2.1
  obtain ⟨k, h1, h2, h3⟩ := hO.2 j hj
  exact ⟨k, by omega, h3⟩
theorem RS_lc {S : SS} {w : Nat → Int64} {n t : Nat} (h : RS S w n t) : ∃ m, m ≤ 12 ∧ S.1 9 = nI m ∧ w 13 = lN m := by
  obtain ⟨⟨Z, hR⟩, -⟩ := h
  exact ⟨Z 13, hR.2.2.1.2.2.2.2.2.2.2.2.2.1, Rl_i hR 9 13 (by omega) rfl, hR.2.1 13 zd_13⟩
