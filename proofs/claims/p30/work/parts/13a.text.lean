/-! THE TEXT: numbers 0 length 1 orders 2 at 3 error; rows 0 bytes 1 parts -/
abbrev TS : Type := (Nat → Int32) × (Nat → Nat → Int32)
def t_setI (T : TS) (k : Nat) (v : Int32) : TS := (upd T.1 k v, T.2)
def t_setA (T : TS) (j : Nat) (f : Nat → Int32) : TS := (T.1, fun i => if i = j then f else T.2 i)
abbrev txW (q : Nat → Nat) (cI : ClassId) (T : TS) : va_W :=
  [(q 0, .inr (1, [.ref (q 1), .ref (q 2), .int (T.1 0), .int (T.1 1), .int (T.1 2), .int (T.1 3)])), (q 1, .inl (cI, 100, .inl (T.2 0))), (q 2, .inl (cI, 102, .inl (T.2 1)))]
theorem txW_ad (q : Nat → Nat) (cI : ClassId) (S T : TS) : (txW q cI S).map Prod.fst = (txW q cI T).map Prod.fst := rfl
def t_peek (T : TS) : Int32 := if ¬ T.1 2 < 0 ∧ ¬ T.1 0 ≤ T.1 2 ∧ ¬ 100 ≤ T.1 2 then T.2 0 (T.1 2).toNatClampNeg else -1
def t_dig (T : TS) : Bool := decide (¬ t_peek T < 48 ∧ ¬ 57 < t_peek T)
def t_fail (T : TS) (w : Int32) : TS := if T.1 3 = -1 then t_setI T 3 w else T
def t_exp1 (T : TS) (c : Int32) : TS := if t_peek T = c then T else t_fail T (T.1 2)
def t_exp (T : TS) (c : Int32) : TS := t_setI (t_exp1 T c) 2 ((t_exp1 T c).1 2 + 1)
def t_pump1 (T : TS) : TS := if ¬ t_peek T - 48 < 0 ∧ t_peek T - 48 < 6 then T else t_fail T (T.1 2)
def t_pump (T : TS) : TS := t_setI (t_pump1 T) 2 ((t_pump1 T).1 2 + 1)
def t_dgt1 (T : TS) : TS := if t_dig T = true then T else t_fail T (T.1 2)
def t_dgtR (T : TS) : Int32 := t_peek (t_dgt1 T) - 48
def t_dgt (T : TS) : TS := t_setI (t_dgt1 T) 2 ((t_dgt1 T).1 2 + 1)
def t_hourR (T : TS) : Int32 := 10 * t_dgtR T + t_dgtR (t_dgt T)
def t_hour (T : TS) : TS := if t_hourR T < 24 then t_dgt (t_dgt T) else t_fail (t_dgt (t_dgt T)) (T.1 2)
def t_numB (k : Nat) (g : TS × Int32) : TS × Int32 := if t_dig g.1 = true then (t_setI g.1 2 (g.1.1 2 + 1), 10 * g.2 + t_peek g.1 - 48) else g
def t_numL (T : TS) (d : Nat) : TS × Int32 := itr t_numB d (T, 0)
def t_numR (T : TS) (d : Nat) : Int32 := (t_numL T d).2
def t_num2 (T T1 : TS) : TS := if T1.1 2 = T.1 2 ∨ t_dig T1 = true then t_fail T1 (T1.1 2) else T1
def t_num3 (T T2 : TS) (x lo hi : Int32) : TS := if x < lo ∨ ¬ x ≤ hi then t_fail T2 (T.1 2) else T2
def t_num (T : TS) (d : Nat) (lo hi : Int32) : TS := t_num3 T (t_num2 T (t_numL T d).1) (t_numR T d) lo hi
theorem itr_stop {σ : Type} {f : Nat → σ → σ} {s t : σ} {k : Nat} (h : itr f k s = t) (hf : ∀ j, f j t = t) : ∀ n, k ≤ n → itr f n s = t := by
  intro n
  induction n with
  | zero => intro hk; have : k = 0 := by omega
            subst this; exact h
  | succ n ih =>
    intro hk
    rcases Nat.lt_or_ge n k with q | q
    · have : k = n + 1 := by omega
      subst this; exact h
    · rw [itr_s, ih q, hf]
def t_keep (T : TS) (o : Nat) (a b c : Int32) : TS := t_setA T 1 (upd (upd (upd (T.2 1) (3 * o) a) (3 * o + 1) b) (3 * o + 2) c)
theorem k_t3 (o c : Nat) : nI o * 3 + nI c = nI (3 * o + c) := by rw [show (3 : Int32) = nI 3 from rfl, pk_mul, nI_add, Nat.mul_comm]
theorem k_t30 (o : Nat) : nI o * 3 = nI (3 * o) := by rw [show (3 : Int32) = nI 3 from rfl, pk_mul, Nat.mul_comm]
def t_at1 (T : TS) : TS := t_setI T 2 (T.1 2 + 1)
/-- what an order's letter reads: subject, number, the text behind it -/
def t_body (T : TS) (l : Int32) : Int32 × Int32 × TS :=
  if l = 100 then (t_hourR T, t_numR (t_exp (t_hour T) 61) 4, t_num (t_exp (t_hour T) 61) 4 0 1000)
  else if l = 109 then (-1, t_numR T 3, t_num T 3 1 720)
  else if l = 111 then (t_peek T - 48, t_numR (t_exp (t_pump T) 61) 2, t_num (t_exp (t_pump T) 61) 2 1 12)
  else if l = 120 then (t_peek T - 48, -1, t_pump T)
  else if l = 121 then (t_peek T - 48, -1, t_pump T)
  else (-1, -1, t_fail T (T.1 2 - 1))
def t_order (T : TS) (o : Nat) : TS := t_keep (t_exp (t_body (t_at1 T) (t_peek T)).2.2 59) o (t_peek T) (t_body (t_at1 T) (t_peek T)).1 (t_body (t_at1 T) (t_peek T)).2.1
def t_ordB (k : Nat) (T : TS) : TS := if ¬ T.1 0 ≤ T.1 2 ∧ T.1 3 = -1 then t_setI (t_order T k) 1 ((t_order T k).1 1 + 1) else T
def t_ord0 (T : TS) : TS := t_setI (t_setI (t_setI T 2 0) 3 (-1)) 1 0
def t_read (T : TS) : TS := itr t_ordB 34 (t_ord0 T)
def t_add (T : TS) (v : Int32) : TS := if ¬ T.1 0 < 0 ∧ ¬ 100 ≤ T.1 0 then t_setI (t_setA T 0 (upd (T.2 0) (T.1 0).toNatClampNeg v)) 0 (T.1 0 + 1) else T
def t_part (T : TS) (a b : Int32) : Int32 := if ¬ a * 3 + b < 0 ∧ ¬ 102 ≤ a * 3 + b then T.2 1 (a * 3 + b).toNatClampNeg else 0
theorem k_look5 {x : Int32} {d : Int} {o1 o2 o3 o4 o5 : Int} (h1 : ¬ x = 100) (h2 : ¬ x = 109) (h3 : ¬ x = 111) (h4 : ¬ x = 120) (h5 : ¬ x = 121) : Op.lookupswitch.offset [(100, o1), (109, o2), (111, o3), (120, o4), (121, o5)] d x.toInt = d := by
  have a1 := k_ne h1 (n := 100) rfl
  have a2 := k_ne h2 (n := 109) rfl
  have a3 := k_ne h3 (n := 111) rfl
  have a4 := k_ne h4 (n := 120) rfl
  have a5 := k_ne h5 (n := 121) rfl
  simp [Op.lookupswitch.offset, a1, a2, a3, a4, a5, Ne.symm a1, Ne.symm a2, Ne.symm a3, Ne.symm a4, Ne.symm a5]
