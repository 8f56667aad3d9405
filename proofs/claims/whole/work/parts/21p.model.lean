/-! AN ORDER IS READ -/
/-- N has M's letters and orders, and is at a place below b -/
def tI (M N : MS) (b : Nat) : Prop := N.1 1 = M.1 1 ∧ N.1 6 = M.1 6 ∧ tB N b
theorem tI_A {M N : MS} {b j : Nat} {f : Nat → Int32} (h : tI M N b) : tI M (o_setA N j f) b := h
theorem tI_digit {M N : MS} {b : Nat} {x : Int32} (h : tI M N b) : tI M (A_X5_digit_s0 N x) (b + 1) := ⟨(o_digit_I _ _ (by decide) (by decide) (by decide)).trans h.1, (o_digit_I _ _ (by decide) (by decide) (by decide)).trans h.2.1, tB_1 h.2.2 (o_digit_3 _ _)⟩
theorem tI_sign {M N : MS} {b : Nat} {x : Int32} (h : tI M N b) : tI M (A_X5_sign_s0 N x) (b + 1) := ⟨(o_sign_I _ _ (by decide) (by decide)).trans h.1, (o_sign_I _ _ (by decide) (by decide)).trans h.2.1, tB_1 h.2.2 (o_sign_3 _ _)⟩
theorem tI_fail {M N : MS} {b : Nat} {x : Int32} (h : tI M N b) : tI M (o_fail N x) b := ⟨(o_fail_I _ _ (by decide)).trans h.1, (o_fail_I _ _ (by decide)).trans h.2.1, by
  obtain ⟨a, h1, h2⟩ := h.2.2
  exact ⟨a, h1, (o_fail_I _ _ (by decide)).trans h2⟩⟩
theorem tI_5 {M N : MS} {b : Nat} {x : Int32} (h : tI M N b) : tI M (o_setI N 5 x) b := h
theorem tI_3 {M N : MS} {b : Nat} (h : tI M N b) : tI M (o_setI N 3 (N.1 3 + 1)) (b + 1) := ⟨h.1, h.2.1, tB_1 h.2.2 (Or.inr rfl)⟩
theorem tB_up {M : MS} {b : Nat} (h : tB M b) : tB M (b + 1) := tB_le h (by omega)
theorem tI_up {M N : MS} {b : Nat} (h : tI M N b) : tI M N (b + 1) := ⟨h.1, h.2.1, tB_up h.2.2⟩
theorem tI_rnB {M N : MS} {b k : Nat} {d fr : Int32} (h : tI M N b) : tI M (o_rnB d fr k N) (b + 1) := by
  unfold o_rnB
  split
  · split
    · exact tI_up (tI_fail h)
    · have h2 := tI_3 (tI_5 (x := 10 * N.1 5 + o_look N - 48) h)
      exact h2
  · exact tI_up h
theorem tI_itr {M : MS} {d fr : Int32} : ∀ (k : Nat) {N : MS} {b : Nat}, tI M N b → tI M (itr (o_rnB d fr) k N) (b + k)
  | 0, _, _, h => h
  | k + 1, _, _, h => tI_rnB (tI_itr k h)
theorem tI_num {M N : MS} {b dd : Nat} {lo hi : Int32} (h : tI M N b) : tI M (o_num N dd lo hi) (b + (dd + 1)) := by
  unfold o_num o_num2
  have h2 : tI M (o_numL N dd) (b + (dd + 1)) := tI_itr (dd + 1) (tI_5 h)
  split
  · split
    · exact tI_fail h2
    · split
      · exact h2
      · exact tI_fail h2
  · exact h2
theorem tI_hour {M N : MS} {b : Nat} (h : tI M N b) : tI M (A_X5_readsHour_s0 N) (b + 1 + 1) := by
  unfold A_X5_readsHour_s0
  repeat' split
  all_goals first | exact tI_fail (tI_5 (tI_digit (tI_digit h))) | exact tI_5 (tI_digit (tI_digit h))

def A_X5_readsOrder_s0 (M : MS) (od : Nat) : MS := (if o_look M = 100 then (if ((A_X5_sign_s0 (o_num (A_X5_sign_s0 (o_setA (A_X5_readsHour_s0 (o_setI (o_setA M 2 (upd (M.2.2 2) od 0)) 3 ((M.1 3) + 1))) 2 (upd ((A_X5_readsHour_s0 (o_setI (o_setA M 2 (upd (M.2.2 2) od 0)) 3 ((M.1 3) + 1))).2.2 2) od ((A_X5_readsHour_s0 (o_setI (o_setA M 2 (upd (M.2.2 2) od 0)) 3 ((M.1 3) + 1))).1 5))) 61) 4 0 1000) 59).1 4) = (-1) then o_setI (o_setA (o_setA (A_X5_sign_s0 (o_num (A_X5_sign_s0 (o_setA (A_X5_readsHour_s0 (o_setI (o_setA M 2 (upd (M.2.2 2) od 0)) 3 ((M.1 3) + 1))) 2 (upd ((A_X5_readsHour_s0 (o_setI (o_setA M 2 (upd (M.2.2 2) od 0)) 3 ((M.1 3) + 1))).2.2 2) od ((A_X5_readsHour_s0 (o_setI (o_setA M 2 (upd (M.2.2 2) od 0)) 3 ((M.1 3) + 1))).1 5))) 61) 4 0 1000) 59) 1 (upd ((A_X5_sign_s0 (o_num (A_X5_sign_s0 (o_setA (A_X5_readsHour_s0 (o_setI (o_setA M 2 (upd (M.2.2 2) od 0)) 3 ((M.1 3) + 1))) 2 (upd ((A_X5_readsHour_s0 (o_setI (o_setA M 2 (upd (M.2.2 2) od 0)) 3 ((M.1 3) + 1))).2.2 2) od ((A_X5_readsHour_s0 (o_setI (o_setA M 2 (upd (M.2.2 2) od 0)) 3 ((M.1 3) + 1))).1 5))) 61) 4 0 1000) 59).2.2 1) od (o_look M))) 3 (upd ((A_X5_sign_s0 (o_num (A_X5_sign_s0 (o_setA (A_X5_readsHour_s0 (o_setI (o_setA M 2 (upd (M.2.2 2) od 0)) 3 ((M.1 3) + 1))) 2 (upd ((A_X5_readsHour_s0 (o_setI (o_setA M 2 (upd (M.2.2 2) od 0)) 3 ((M.1 3) + 1))).2.2 2) od ((A_X5_readsHour_s0 (o_setI (o_setA M 2 (upd (M.2.2 2) od 0)) 3 ((M.1 3) + 1))).1 5))) 61) 4 0 1000) 59).2.2 3) od ((A_X5_sign_s0 (o_num (A_X5_sign_s0 (o_setA (A_X5_readsHour_s0 (o_setI (o_setA M 2 (upd (M.2.2 2) od 0)) 3 ((M.1 3) + 1))) 2 (upd ((A_X5_readsHour_s0 (o_setI (o_setA M 2 (upd (M.2.2 2) od 0)) 3 ((M.1 3) + 1))).2.2 2) od ((A_X5_readsHour_s0 (o_setI (o_setA M 2 (upd (M.2.2 2) od 0)) 3 ((M.1 3) + 1))).1 5))) 61) 4 0 1000) 59).1 5))) 6 (((A_X5_sign_s0 (o_num (A_X5_sign_s0 (o_setA (A_X5_readsHour_s0 (o_setI (o_setA M 2 (upd (M.2.2 2) od 0)) 3 ((M.1 3) + 1))) 2 (upd ((A_X5_readsHour_s0 (o_setI (o_setA M 2 (upd (M.2.2 2) od 0)) 3 ((M.1 3) + 1))).2.2 2) od ((A_X5_readsHour_s0 (o_setI (o_setA M 2 (upd (M.2.2 2) od 0)) 3 ((M.1 3) + 1))).1 5))) 61) 4 0 1000) 59).1 6) + 1) else (A_X5_sign_s0 (o_num (A_X5_sign_s0 (o_setA (A_X5_readsHour_s0 (o_setI (o_setA M 2 (upd (M.2.2 2) od 0)) 3 ((M.1 3) + 1))) 2 (upd ((A_X5_readsHour_s0 (o_setI (o_setA M 2 (upd (M.2.2 2) od 0)) 3 ((M.1 3) + 1))).2.2 2) od ((A_X5_readsHour_s0 (o_setI (o_setA M 2 (upd (M.2.2 2) od 0)) 3 ((M.1 3) + 1))).1 5))) 61) 4 0 1000) 59)) else (if o_look M = 109 then (if ((A_X5_sign_s0 (o_num (o_setI (o_setA M 2 (upd (M.2.2 2) od 0)) 3 ((M.1 3) + 1)) 3 1 720) 59).1 4) = (-1) then o_setI (o_setA (o_setA (A_X5_sign_s0 (o_num (o_setI (o_setA M 2 (upd (M.2.2 2) od 0)) 3 ((M.1 3) + 1)) 3 1 720) 59) 1 (upd ((A_X5_sign_s0 (o_num (o_setI (o_setA M 2 (upd (M.2.2 2) od 0)) 3 ((M.1 3) + 1)) 3 1 720) 59).2.2 1) od (o_look M))) 3 (upd ((A_X5_sign_s0 (o_num (o_setI (o_setA M 2 (upd (M.2.2 2) od 0)) 3 ((M.1 3) + 1)) 3 1 720) 59).2.2 3) od ((A_X5_sign_s0 (o_num (o_setI (o_setA M 2 (upd (M.2.2 2) od 0)) 3 ((M.1 3) + 1)) 3 1 720) 59).1 5))) 6 (((A_X5_sign_s0 (o_num (o_setI (o_setA M 2 (upd (M.2.2 2) od 0)) 3 ((M.1 3) + 1)) 3 1 720) 59).1 6) + 1) else (A_X5_sign_s0 (o_num (o_setI (o_setA M 2 (upd (M.2.2 2) od 0)) 3 ((M.1 3) + 1)) 3 1 720) 59)) else (if o_look M = 111 then (if ((A_X5_sign_s0 (o_num (A_X5_sign_s0 (o_setA (A_X5_digit_s0 (o_setI (o_setA M 2 (upd (M.2.2 2) od 0)) 3 ((M.1 3) + 1)) 5) 2 (upd ((A_X5_digit_s0 (o_setI (o_setA M 2 (upd (M.2.2 2) od 0)) 3 ((M.1 3) + 1)) 5).2.2 2) od ((A_X5_digit_s0 (o_setI (o_setA M 2 (upd (M.2.2 2) od 0)) 3 ((M.1 3) + 1)) 5).1 5))) 61) 2 1 12) 59).1 4) = (-1) then o_setI (o_setA (o_setA (A_X5_sign_s0 (o_num (A_X5_sign_s0 (o_setA (A_X5_digit_s0 (o_setI (o_setA M 2 (upd (M.2.2 2) od 0)) 3 ((M.1 3) + 1)) 5) 2 (upd ((A_X5_digit_s0 (o_setI (o_setA M 2 (upd (M.2.2 2) od 0)) 3 ((M.1 3) + 1)) 5).2.2 2) od ((A_X5_digit_s0 (o_setI (o_setA M 2 (upd (M.2.2 2) od 0)) 3 ((M.1 3) + 1)) 5).1 5))) 61) 2 1 12) 59) 1 (upd ((A_X5_sign_s0 (o_num (A_X5_sign_s0 (o_setA (A_X5_digit_s0 (o_setI (o_setA M 2 (upd (M.2.2 2) od 0)) 3 ((M.1 3) + 1)) 5) 2 (upd ((A_X5_digit_s0 (o_setI (o_setA M 2 (upd (M.2.2 2) od 0)) 3 ((M.1 3) + 1)) 5).2.2 2) od ((A_X5_digit_s0 (o_setI (o_setA M 2 (upd (M.2.2 2) od 0)) 3 ((M.1 3) + 1)) 5).1 5))) 61) 2 1 12) 59).2.2 1) od (o_look M))) 3 (upd ((A_X5_sign_s0 (o_num (A_X5_sign_s0 (o_setA (A_X5_digit_s0 (o_setI (o_setA M 2 (upd (M.2.2 2) od 0)) 3 ((M.1 3) + 1)) 5) 2 (upd ((A_X5_digit_s0 (o_setI (o_setA M 2 (upd (M.2.2 2) od 0)) 3 ((M.1 3) + 1)) 5).2.2 2) od ((A_X5_digit_s0 (o_setI (o_setA M 2 (upd (M.2.2 2) od 0)) 3 ((M.1 3) + 1)) 5).1 5))) 61) 2 1 12) 59).2.2 3) od ((A_X5_sign_s0 (o_num (A_X5_sign_s0 (o_setA (A_X5_digit_s0 (o_setI (o_setA M 2 (upd (M.2.2 2) od 0)) 3 ((M.1 3) + 1)) 5) 2 (upd ((A_X5_digit_s0 (o_setI (o_setA M 2 (upd (M.2.2 2) od 0)) 3 ((M.1 3) + 1)) 5).2.2 2) od ((A_X5_digit_s0 (o_setI (o_setA M 2 (upd (M.2.2 2) od 0)) 3 ((M.1 3) + 1)) 5).1 5))) 61) 2 1 12) 59).1 5))) 6 (((A_X5_sign_s0 (o_num (A_X5_sign_s0 (o_setA (A_X5_digit_s0 (o_setI (o_setA M 2 (upd (M.2.2 2) od 0)) 3 ((M.1 3) + 1)) 5) 2 (upd ((A_X5_digit_s0 (o_setI (o_setA M 2 (upd (M.2.2 2) od 0)) 3 ((M.1 3) + 1)) 5).2.2 2) od ((A_X5_digit_s0 (o_setI (o_setA M 2 (upd (M.2.2 2) od 0)) 3 ((M.1 3) + 1)) 5).1 5))) 61) 2 1 12) 59).1 6) + 1) else (A_X5_sign_s0 (o_num (A_X5_sign_s0 (o_setA (A_X5_digit_s0 (o_setI (o_setA M 2 (upd (M.2.2 2) od 0)) 3 ((M.1 3) + 1)) 5) 2 (upd ((A_X5_digit_s0 (o_setI (o_setA M 2 (upd (M.2.2 2) od 0)) 3 ((M.1 3) + 1)) 5).2.2 2) od ((A_X5_digit_s0 (o_setI (o_setA M 2 (upd (M.2.2 2) od 0)) 3 ((M.1 3) + 1)) 5).1 5))) 61) 2 1 12) 59)) else (if o_look M = 120 then (if ((A_X5_sign_s0 (o_setA (A_X5_digit_s0 (o_setI (o_setA M 2 (upd (M.2.2 2) od 0)) 3 ((M.1 3) + 1)) 5) 2 (upd ((A_X5_digit_s0 (o_setI (o_setA M 2 (upd (M.2.2 2) od 0)) 3 ((M.1 3) + 1)) 5).2.2 2) od ((A_X5_digit_s0 (o_setI (o_setA M 2 (upd (M.2.2 2) od 0)) 3 ((M.1 3) + 1)) 5).1 5))) 59).1 4) = (-1) then o_setI (o_setA (o_setA (A_X5_sign_s0 (o_setA (A_X5_digit_s0 (o_setI (o_setA M 2 (upd (M.2.2 2) od 0)) 3 ((M.1 3) + 1)) 5) 2 (upd ((A_X5_digit_s0 (o_setI (o_setA M 2 (upd (M.2.2 2) od 0)) 3 ((M.1 3) + 1)) 5).2.2 2) od ((A_X5_digit_s0 (o_setI (o_setA M 2 (upd (M.2.2 2) od 0)) 3 ((M.1 3) + 1)) 5).1 5))) 59) 1 (upd ((A_X5_sign_s0 (o_setA (A_X5_digit_s0 (o_setI (o_setA M 2 (upd (M.2.2 2) od 0)) 3 ((M.1 3) + 1)) 5) 2 (upd ((A_X5_digit_s0 (o_setI (o_setA M 2 (upd (M.2.2 2) od 0)) 3 ((M.1 3) + 1)) 5).2.2 2) od ((A_X5_digit_s0 (o_setI (o_setA M 2 (upd (M.2.2 2) od 0)) 3 ((M.1 3) + 1)) 5).1 5))) 59).2.2 1) od (o_look M))) 3 (upd ((A_X5_sign_s0 (o_setA (A_X5_digit_s0 (o_setI (o_setA M 2 (upd (M.2.2 2) od 0)) 3 ((M.1 3) + 1)) 5) 2 (upd ((A_X5_digit_s0 (o_setI (o_setA M 2 (upd (M.2.2 2) od 0)) 3 ((M.1 3) + 1)) 5).2.2 2) od ((A_X5_digit_s0 (o_setI (o_setA M 2 (upd (M.2.2 2) od 0)) 3 ((M.1 3) + 1)) 5).1 5))) 59).2.2 3) od ((A_X5_sign_s0 (o_setA (A_X5_digit_s0 (o_setI (o_setA M 2 (upd (M.2.2 2) od 0)) 3 ((M.1 3) + 1)) 5) 2 (upd ((A_X5_digit_s0 (o_setI (o_setA M 2 (upd (M.2.2 2) od 0)) 3 ((M.1 3) + 1)) 5).2.2 2) od ((A_X5_digit_s0 (o_setI (o_setA M 2 (upd (M.2.2 2) od 0)) 3 ((M.1 3) + 1)) 5).1 5))) 59).1 5))) 6 (((A_X5_sign_s0 (o_setA (A_X5_digit_s0 (o_setI (o_setA M 2 (upd (M.2.2 2) od 0)) 3 ((M.1 3) + 1)) 5) 2 (upd ((A_X5_digit_s0 (o_setI (o_setA M 2 (upd (M.2.2 2) od 0)) 3 ((M.1 3) + 1)) 5).2.2 2) od ((A_X5_digit_s0 (o_setI (o_setA M 2 (upd (M.2.2 2) od 0)) 3 ((M.1 3) + 1)) 5).1 5))) 59).1 6) + 1) else (A_X5_sign_s0 (o_setA (A_X5_digit_s0 (o_setI (o_setA M 2 (upd (M.2.2 2) od 0)) 3 ((M.1 3) + 1)) 5) 2 (upd ((A_X5_digit_s0 (o_setI (o_setA M 2 (upd (M.2.2 2) od 0)) 3 ((M.1 3) + 1)) 5).2.2 2) od ((A_X5_digit_s0 (o_setI (o_setA M 2 (upd (M.2.2 2) od 0)) 3 ((M.1 3) + 1)) 5).1 5))) 59)) else (if o_look M = 121 then (if ((A_X5_sign_s0 (o_setA (A_X5_digit_s0 (o_setI (o_setA M 2 (upd (M.2.2 2) od 0)) 3 ((M.1 3) + 1)) 5) 2 (upd ((A_X5_digit_s0 (o_setI (o_setA M 2 (upd (M.2.2 2) od 0)) 3 ((M.1 3) + 1)) 5).2.2 2) od ((A_X5_digit_s0 (o_setI (o_setA M 2 (upd (M.2.2 2) od 0)) 3 ((M.1 3) + 1)) 5).1 5))) 59).1 4) = (-1) then o_setI (o_setA (o_setA (A_X5_sign_s0 (o_setA (A_X5_digit_s0 (o_setI (o_setA M 2 (upd (M.2.2 2) od 0)) 3 ((M.1 3) + 1)) 5) 2 (upd ((A_X5_digit_s0 (o_setI (o_setA M 2 (upd (M.2.2 2) od 0)) 3 ((M.1 3) + 1)) 5).2.2 2) od ((A_X5_digit_s0 (o_setI (o_setA M 2 (upd (M.2.2 2) od 0)) 3 ((M.1 3) + 1)) 5).1 5))) 59) 1 (upd ((A_X5_sign_s0 (o_setA (A_X5_digit_s0 (o_setI (o_setA M 2 (upd (M.2.2 2) od 0)) 3 ((M.1 3) + 1)) 5) 2 (upd ((A_X5_digit_s0 (o_setI (o_setA M 2 (upd (M.2.2 2) od 0)) 3 ((M.1 3) + 1)) 5).2.2 2) od ((A_X5_digit_s0 (o_setI (o_setA M 2 (upd (M.2.2 2) od 0)) 3 ((M.1 3) + 1)) 5).1 5))) 59).2.2 1) od (o_look M))) 3 (upd ((A_X5_sign_s0 (o_setA (A_X5_digit_s0 (o_setI (o_setA M 2 (upd (M.2.2 2) od 0)) 3 ((M.1 3) + 1)) 5) 2 (upd ((A_X5_digit_s0 (o_setI (o_setA M 2 (upd (M.2.2 2) od 0)) 3 ((M.1 3) + 1)) 5).2.2 2) od ((A_X5_digit_s0 (o_setI (o_setA M 2 (upd (M.2.2 2) od 0)) 3 ((M.1 3) + 1)) 5).1 5))) 59).2.2 3) od ((A_X5_sign_s0 (o_setA (A_X5_digit_s0 (o_setI (o_setA M 2 (upd (M.2.2 2) od 0)) 3 ((M.1 3) + 1)) 5) 2 (upd ((A_X5_digit_s0 (o_setI (o_setA M 2 (upd (M.2.2 2) od 0)) 3 ((M.1 3) + 1)) 5).2.2 2) od ((A_X5_digit_s0 (o_setI (o_setA M 2 (upd (M.2.2 2) od 0)) 3 ((M.1 3) + 1)) 5).1 5))) 59).1 5))) 6 (((A_X5_sign_s0 (o_setA (A_X5_digit_s0 (o_setI (o_setA M 2 (upd (M.2.2 2) od 0)) 3 ((M.1 3) + 1)) 5) 2 (upd ((A_X5_digit_s0 (o_setI (o_setA M 2 (upd (M.2.2 2) od 0)) 3 ((M.1 3) + 1)) 5).2.2 2) od ((A_X5_digit_s0 (o_setI (o_setA M 2 (upd (M.2.2 2) od 0)) 3 ((M.1 3) + 1)) 5).1 5))) 59).1 6) + 1) else (A_X5_sign_s0 (o_setA (A_X5_digit_s0 (o_setI (o_setA M 2 (upd (M.2.2 2) od 0)) 3 ((M.1 3) + 1)) 5) 2 (upd ((A_X5_digit_s0 (o_setI (o_setA M 2 (upd (M.2.2 2) od 0)) 3 ((M.1 3) + 1)) 5).2.2 2) od ((A_X5_digit_s0 (o_setI (o_setA M 2 (upd (M.2.2 2) od 0)) 3 ((M.1 3) + 1)) 5).1 5))) 59)) else (if ((A_X5_sign_s0 (o_fail (o_setI (o_setA M 2 (upd (M.2.2 2) od 0)) 3 ((M.1 3) + 1)) (((M.1 3) + 1) - 1)) 59).1 4) = (-1) then o_setI (o_setA (o_setA (A_X5_sign_s0 (o_fail (o_setI (o_setA M 2 (upd (M.2.2 2) od 0)) 3 ((M.1 3) + 1)) (((M.1 3) + 1) - 1)) 59) 1 (upd ((A_X5_sign_s0 (o_fail (o_setI (o_setA M 2 (upd (M.2.2 2) od 0)) 3 ((M.1 3) + 1)) (((M.1 3) + 1) - 1)) 59).2.2 1) od (o_look M))) 3 (upd ((A_X5_sign_s0 (o_fail (o_setI (o_setA M 2 (upd (M.2.2 2) od 0)) 3 ((M.1 3) + 1)) (((M.1 3) + 1) - 1)) 59).2.2 3) od ((A_X5_sign_s0 (o_fail (o_setI (o_setA M 2 (upd (M.2.2 2) od 0)) 3 ((M.1 3) + 1)) (((M.1 3) + 1) - 1)) 59).1 5))) 6 (((A_X5_sign_s0 (o_fail (o_setI (o_setA M 2 (upd (M.2.2 2) od 0)) 3 ((M.1 3) + 1)) (((M.1 3) + 1) - 1)) 59).1 6) + 1) else (A_X5_sign_s0 (o_fail (o_setI (o_setA M 2 (upd (M.2.2 2) od 0)) 3 ((M.1 3) + 1)) (((M.1 3) + 1) - 1)) 59)))))))
set_option maxHeartbeats 1000000 in
set_option maxRecDepth 100000 in
theorem c_X5_readsOrder (l : Launch) (D : va_G) (q : Nat → Nat) (cI cJ : ClassId) (M : MS) (od : Nat) (hod : M.1 6 = nI od) (hod1 : od < 34) (le : Nat) (hle : M.1 1 = nI le) (hle1 : le ≤ 100) (hav : tB M 100) : kV l yX5_readsOrder wsX5_readsOrder ({ frames := 4, cells := 0, slots := 0, locals := 88 } : Room) D [(cI, .int), (cJ, .long)] [.ref (q 0)] (moW q cI cJ M) (moW q cI cJ (A_X5_readsOrder_s0 M od)) := by
  refine kBody.met (cc := cX5_readsOrder) (maxL := 2) (ret := none) (by decide) rfl (Nat.le_of_ble_eq_true rfl) ?_
  intro p9 e9 s9 m9 below meth c9 A9 ls hx hb hr hml hts hown hlk hK hP hD hA hl
  have hown : s9.vm.findClass RX5 = some m9.cls := hown
  have inX5 : ∀ w ∈ wsX50, w ∈ wsX5_readsOrder := fun w h => List.mem_cons_of_mem _ (List.mem_append_right _ (h))
  have hS : va_S A9 s9.heap s9.heap [] := va_S.rf
  have hl : lv_has ls 2 [(0, .ref (q 0))] := hl
  refine lv_aload_n hx hb dX5_readsOrder_0 rfl (lv_at hl 0 rfl) ?_
  refine k_calli (a := []) (z := []) (wc := moW q cI cJ M) (wc' := moW q cI cJ M) (w' := moW q cI cJ M) (va_runV (As := []) (rest := []) ⟨hx, hb, hml, hown, hts⟩ (c_X5_look9 l D q cI cJ M le hle hle1 (tB_le hav (by decide)) _) (cwV 0 hts gX5_readsOrder_X5_look rfl rfl rfl (by decide +kernel) ⟨Nat.le_of_ble_eq_true rfl, Nat.le_of_ble_eq_true rfl⟩) ⟨kB_blind, va_recv hK hP (ci := 5) (q0 := 0) rfl rfl, k_pre (a := []) (z := []) (k_w0 _) hK hP hD⟩ rfl rfl hl.1 rfl (lv_room (Nat.le_of_ble_eq_true rfl)) dX5_readsOrder_1 ⟨Nat.zero_le _, Nat.zero_le _⟩) (k_w0 _) (k_w0 _) (moW_ad _ _ _ _ _) hP hD hS hA (fun H locs hP hD hS => ?_)
  refine lv_istore_n (lv' := [(1, .int (o_look M)), (0, .ref (q 0))]) hx hb dX5_readsOrder_4 rfl hl (by decide) rfl (fun ls hl => ?_)
  refine lv_aload_n hx hb dX5_readsOrder_5 rfl (lv_at hl 1 rfl) ?_
  refine va_get (D := D) (ci := 5) (v := .ref (q 6)) (C := RX5) (T := TX5) (N := 14) hx hb hts inX5 hown hK hP 0 rfl rfl 12 (by decide) (hts (.fieldLink RX5 26 "PumpOathsModel" "firsts" "[I") (List.mem_of_getElem? (i := 1) rfl)) (fun _ h9 => h9) rfl dX5_readsOrder_6 ?_
  refine lv_aload_n hx hb dX5_readsOrder_9 rfl (lv_at hl 1 rfl) ?_
  refine va_get (D := D) (ci := 5) (v := .int (M.1 6)) (C := RX5) (T := TX5) (N := 14) hx hb hts inX5 hown hK hP 0 rfl rfl 10 (by decide) (hts (.fieldLink RX5 196 "PumpOathsModel" "orders" "I") (List.mem_of_getElem? (i := 2) rfl)) (fun _ h9 => h9) rfl dX5_readsOrder_10 ?_
  refine lv_iconst (v := 0) hx hb dX5_readsOrder_13 (by decide) ?_
  refine va_iast (f := M.2.2 2) hx hb hK hP hD hS 6 0 rfl rfl (k_in (k := od) (hod) (by omega) (by decide)) dX5_readsOrder_14 (fun H locs hP hD hS => ?_)
  rw [show (M.1 6 : Int32).toNatClampNeg = od from k_cl (hod) (by omega)] at hP hD
  have hP : va_P D vwCl (moW q cI cJ (o_setA M 2 (upd (M.2.2 2) od 0))) H := hP
  have hD : va_D A9 (moW q cI cJ (o_setA M 2 (upd (M.2.2 2) od 0))) := hD
  obtain ⟨T_1, hT_1⟩ : ∃ T9, T9 = upd (M.2.2 2) od 0 := ⟨_, rfl⟩
  rw [← hT_1] at hP hD
  refine lv_aload_n hx hb dX5_readsOrder_15 rfl (lv_at hl 1 rfl) ?_
  refine lv_dup hx hb dX5_readsOrder_16 rfl ?_
  refine va_get (D := D) (ci := 5) (v := .int (M.1 3)) (C := RX5) (T := TX5) (N := 14) hx hb hts inX5 hown hK hP 0 rfl rfl 7 (by decide) (hts (.fieldLink RX5 170 "PumpOathsModel" "at" "I") (List.mem_of_getElem? (i := 3) rfl)) (fun _ h9 => h9) rfl dX5_readsOrder_17 ?_
  refine lv_iconst (v := 1) hx hb dX5_readsOrder_20 (by decide) ?_
  refine lv_iadd hx hb dX5_readsOrder_21 ?_
  refine va_put (D := D) (ci := 5) (v := .int ((M.1 3) + 1)) (ty := .int) (C := RX5) (T := TX5) (N := 14) hx hb hts inX5 tyX5 tyX5_ok nmX5 hown hK hP hD hS 0 rfl rfl 7 (by decide) (hts (.fieldLink RX5 170 "PumpOathsModel" "at" "I") (List.mem_of_getElem? (i := 3) rfl)) (fun _ h9 => h9) rfl (by decide +kernel) rfl rfl (Nat.le_of_ble_eq_true rfl) dX5_readsOrder_22 (fun H locs hP hD hS => ?_)
  have hP : va_P D vwCl (moW q cI cJ (o_setI (o_setA M 2 T_1) 3 ((M.1 3) + 1))) H := hP
  have hD : va_D A9 (moW q cI cJ (o_setI (o_setA M 2 T_1) 3 ((M.1 3) + 1))) := hD
  have hI : tI M (o_setI (o_setA M 2 T_1) 3 ((M.1 3) + 1)) 101 := ⟨rfl, rfl, tB_1 hav (Or.inr rfl)⟩
  refine lv_iload_n hx hb dX5_readsOrder_25 rfl (lv_at hl 0 rfl) ?_
  by_cases c_26_1 : o_look M = 100
  · refine lv_lookup (off := 118) (tgt := 144) hx hb dX5_readsOrder_26 (by decide) (by rw [c_26_1]; decide) (by decide) ?_
    refine lv_aload_n hx hb dX5_readsOrder_144 rfl (lv_at hl 1 rfl) ?_
    refine k_callv (a := []) (z := []) (wc := moW q cI cJ (o_setI (o_setA M 2 T_1) 3 ((M.1 3) + 1))) (wc' := moW q cI cJ (A_X5_readsHour_s0 (o_setI (o_setA M 2 T_1) 3 ((M.1 3) + 1)))) (w' := moW q cI cJ (A_X5_readsHour_s0 (o_setI (o_setA M 2 T_1) 3 ((M.1 3) + 1)))) (va_runV (As := []) (rest := []) ⟨hx, hb, hml, hown, hts⟩ (c_X5_readsHour l D q cI cJ (o_setI (o_setA M 2 T_1) 3 ((M.1 3) + 1)) le (hI.1.trans hle) hle1 (tB_le hI.2.2 (by decide)) _) (cwV 0 hts gX5_readsOrder_X5_readsHour rfl rfl rfl (by decide +kernel) ⟨Nat.le_of_ble_eq_true rfl, Nat.le_of_ble_eq_true rfl⟩) ⟨kB_blind, va_recv hK hP (ci := 5) (q0 := 0) rfl rfl, k_pre (a := []) (z := []) (k_w0 _) hK hP hD⟩ rfl rfl hl.1 rfl (lv_room (Nat.le_of_ble_eq_true rfl)) dX5_readsOrder_145 ⟨Nat.zero_le _, Nat.zero_le _⟩) (k_w0 _) (k_w0 _) (moW_ad _ _ _ _ _) hP hD hS hA (fun H locs hP hD hS => ?_)
    obtain ⟨T_3, hT_3⟩ : ∃ T9, T9 = A_X5_readsHour_s0 (o_setI (o_setA M 2 T_1) 3 ((M.1 3) + 1)) := ⟨_, rfl⟩
    rw [← hT_3] at hP hD
    have hI := tI_hour hI
    rw [← hT_3] at hI
    refine lv_aload_n hx hb dX5_readsOrder_148 rfl (lv_at hl 1 rfl) ?_
    refine va_get (D := D) (ci := 5) (v := .ref (q 6)) (C := RX5) (T := TX5) (N := 14) hx hb hts inX5 hown hK hP 0 rfl rfl 12 (by decide) (hts (.fieldLink RX5 26 "PumpOathsModel" "firsts" "[I") (List.mem_of_getElem? (i := 1) rfl)) (fun _ h9 => h9) rfl dX5_readsOrder_149 ?_
    refine lv_aload_n hx hb dX5_readsOrder_152 rfl (lv_at hl 1 rfl) ?_
    refine va_get (D := D) (ci := 5) (v := .int (T_3.1 6)) (C := RX5) (T := TX5) (N := 14) hx hb hts inX5 hown hK hP 0 rfl rfl 10 (by decide) (hts (.fieldLink RX5 196 "PumpOathsModel" "orders" "I") (List.mem_of_getElem? (i := 2) rfl)) (fun _ h9 => h9) rfl dX5_readsOrder_153 ?_
    refine lv_aload_n hx hb dX5_readsOrder_156 rfl (lv_at hl 1 rfl) ?_
    refine va_get (D := D) (ci := 5) (v := .int (T_3.1 5)) (C := RX5) (T := TX5) (N := 14) hx hb hts inX5 hown hK hP 0 rfl rfl 9 (by decide) (hts (.fieldLink RX5 186 "PumpOathsModel" "number" "I") (List.mem_of_getElem? (i := 4) rfl)) (fun _ h9 => h9) rfl dX5_readsOrder_157 ?_
    refine va_iast (f := T_3.2.2 2) hx hb hK hP hD hS 6 0 rfl rfl (k_in (k := od) (hI.2.1.trans hod) (by omega) (by decide)) dX5_readsOrder_160 (fun H locs hP hD hS => ?_)
    rw [show (T_3.1 6 : Int32).toNatClampNeg = od from k_cl (hI.2.1.trans hod) (by omega)] at hP hD
    have hP : va_P D vwCl (moW q cI cJ (o_setA T_3 2 (upd (T_3.2.2 2) od (T_3.1 5)))) H := hP
    have hD : va_D A9 (moW q cI cJ (o_setA T_3 2 (upd (T_3.2.2 2) od (T_3.1 5)))) := hD
    obtain ⟨T_4, hT_4⟩ : ∃ T9, T9 = upd (T_3.2.2 2) od (T_3.1 5) := ⟨_, rfl⟩
    rw [← hT_4] at hP hD
    have hI := tI_A (j := 2) (f := T_4) hI
    refine lv_aload_n hx hb dX5_readsOrder_161 rfl (lv_at hl 1 rfl) ?_
    refine lv_bipush (v := 61) hx hb dX5_readsOrder_162 (by decide) ?_
    refine k_callv (a := []) (z := []) (wc := moW q cI cJ (o_setA T_3 2 T_4)) (wc' := moW q cI cJ (A_X5_sign_s0 (o_setA T_3 2 T_4) 61)) (w' := moW q cI cJ (A_X5_sign_s0 (o_setA T_3 2 T_4) 61)) (va_runV (As := [.int 61]) (rest := []) ⟨hx, hb, hml, hown, hts⟩ (c_X5_sign l D q cI cJ (o_setA T_3 2 T_4) 61 le (hI.1.trans hle) hle1 (tB_le hI.2.2 (by decide)) _) (cwV 1 hts gX5_readsOrder_X5_sign rfl rfl rfl (by decide +kernel) ⟨Nat.le_of_ble_eq_true rfl, Nat.le_of_ble_eq_true rfl⟩) ⟨kB_blind, va_recv hK hP (ci := 5) (q0 := 0) rfl rfl, k_pre (a := []) (z := []) (k_w0 _) hK hP hD⟩ rfl rfl hl.1 rfl (lv_room (Nat.le_of_ble_eq_true rfl)) dX5_readsOrder_164 ⟨Nat.zero_le _, Nat.zero_le _⟩) (k_w0 _) (k_w0 _) (moW_ad _ _ _ _ _) hP hD hS hA (fun H locs hP hD hS => ?_)
    obtain ⟨T_5, hT_5⟩ : ∃ T9, T9 = A_X5_sign_s0 (o_setA T_3 2 T_4) 61 := ⟨_, rfl⟩
    rw [← hT_5] at hP hD
    have hI := tI_sign (x := 61) hI
    rw [← hT_5] at hI
    refine lv_aload_n hx hb dX5_readsOrder_167 rfl (lv_at hl 1 rfl) ?_
    refine lv_iconst (v := 4) hx hb dX5_readsOrder_168 (by decide) ?_
    refine lv_iconst (v := 0) hx hb dX5_readsOrder_169 (by decide) ?_
    refine lv_sipush (v := 1000) hx hb dX5_readsOrder_170 (by decide) ?_
    refine k_callv (a := []) (z := []) (wc := moW q cI cJ T_5) (wc' := moW q cI cJ (o_num T_5 4 0 1000)) (w' := moW q cI cJ (o_num T_5 4 0 1000)) (va_runV (As := [.int 4, .int 0, .int 1000]) (rest := []) ⟨hx, hb, hml, hown, hts⟩ (c_X5_readsNumber l D q cI cJ T_5 4 0 1000 (by decide) le (hI.1.trans hle) hle1 (tB_le hI.2.2 (by decide)) _) (cwV 3 hts gX5_readsOrder_X5_readsNumber rfl rfl rfl (by decide +kernel) ⟨Nat.le_of_ble_eq_true rfl, Nat.le_of_ble_eq_true rfl⟩) ⟨kB_blind, va_recv hK hP (ci := 5) (q0 := 0) rfl rfl, k_pre (a := []) (z := []) (k_w0 _) hK hP hD⟩ rfl rfl hl.1 rfl (lv_room (Nat.le_of_ble_eq_true rfl)) dX5_readsOrder_173 ⟨Nat.zero_le _, Nat.zero_le _⟩) (k_w0 _) (k_w0 _) (moW_ad _ _ _ _ _) hP hD hS hA (fun H locs hP hD hS => ?_)
    obtain ⟨T_6, hT_6⟩ : ∃ T9, T9 = o_num T_5 4 0 1000 := ⟨_, rfl⟩
    rw [← hT_6] at hP hD
    have hI := tI_num (dd := 4) (lo := 0) (hi := 1000) hI
    rw [← hT_6] at hI
    refine lv_goto (tgt := 189) hx hb dX5_readsOrder_176 (by decide) ?_
    have hI := (by first | exact hI | (rw [hT_6]; exact tI_fail hI) : tI M T_6 _)
    refine lv_aload_n hx hb dX5_readsOrder_189 rfl (lv_at hl 1 rfl) ?_
    refine lv_bipush (v := 59) hx hb dX5_readsOrder_190 (by decide) ?_
    refine k_callv (a := []) (z := []) (wc := moW q cI cJ T_6) (wc' := moW q cI cJ (A_X5_sign_s0 T_6 59)) (w' := moW q cI cJ (A_X5_sign_s0 T_6 59)) (va_runV (As := [.int 59]) (rest := []) ⟨hx, hb, hml, hown, hts⟩ (c_X5_sign l D q cI cJ T_6 59 le (hI.1.trans hle) hle1 (tB_le hI.2.2 (by decide)) _) (cwV 1 hts gX5_readsOrder_X5_sign rfl rfl rfl (by decide +kernel) ⟨Nat.le_of_ble_eq_true rfl, Nat.le_of_ble_eq_true rfl⟩) ⟨kB_blind, va_recv hK hP (ci := 5) (q0 := 0) rfl rfl, k_pre (a := []) (z := []) (k_w0 _) hK hP hD⟩ rfl rfl hl.1 rfl (lv_room (Nat.le_of_ble_eq_true rfl)) dX5_readsOrder_192 ⟨Nat.zero_le _, Nat.zero_le _⟩) (k_w0 _) (k_w0 _) (moW_ad _ _ _ _ _) hP hD hS hA (fun H locs hP hD hS => ?_)
    obtain ⟨T_7, hT_7⟩ : ∃ T9, T9 = A_X5_sign_s0 T_6 59 := ⟨_, rfl⟩
    rw [← hT_7] at hP hD
    have hI := tI_sign (x := 59) hI
    rw [← hT_7] at hI
    refine lv_aload_n hx hb dX5_readsOrder_195 rfl (lv_at hl 1 rfl) ?_
    refine va_get (D := D) (ci := 5) (v := .int (T_7.1 4)) (C := RX5) (T := TX5) (N := 14) hx hb hts inX5 hown hK hP 0 rfl rfl 8 (by decide) (hts (.fieldLink RX5 180 "PumpOathsModel" "wrong" "I") (List.mem_of_getElem? (i := 5) rfl)) (fun _ h9 => h9) rfl dX5_readsOrder_196 ?_
    refine lv_iconst (v := (-1)) hx hb dX5_readsOrder_199 (by decide) ?_
    refine lv_icmp_ne (tgt := 236) hx hb dX5_readsOrder_200 (by decide) (fun c_200_7 => ?_) (fun c_200_7 => ?_)
    · have c_200_7 : ¬ (T_7.1 4) = (-1) := c_200_7
      rw [hT_7] at c_200_7
      rw [hT_6] at c_200_7
      rw [hT_5] at c_200_7
      rw [hT_4] at c_200_7
      rw [hT_3] at c_200_7
      rw [hT_1] at c_200_7
      exact k_vret hx hb hr hlk hP hS dX5_readsOrder_236 (k_P (congrArg (fun T9 => moW q cI cJ T9) (show T_7 = (A_X5_readsOrder_s0 M od) from by rw [hT_7, hT_6, hT_5, hT_4, hT_3, hT_1, A_X5_readsOrder_s0, if_pos c_26_1, if_neg c_200_7])))
    · have c_200_7 : (T_7.1 4) = (-1) := c_200_7
      refine lv_aload_n hx hb dX5_readsOrder_203 rfl (lv_at hl 1 rfl) ?_
      refine va_get (D := D) (ci := 5) (v := .ref (q 5)) (C := RX5) (T := TX5) (N := 14) hx hb hts inX5 hown hK hP 0 rfl rfl 11 (by decide) (hts (.fieldLink RX5 23 "PumpOathsModel" "whats" "[I") (List.mem_of_getElem? (i := 6) rfl)) (fun _ h9 => h9) rfl dX5_readsOrder_204 ?_
      refine lv_aload_n hx hb dX5_readsOrder_207 rfl (lv_at hl 1 rfl) ?_
      refine va_get (D := D) (ci := 5) (v := .int (T_7.1 6)) (C := RX5) (T := TX5) (N := 14) hx hb hts inX5 hown hK hP 0 rfl rfl 10 (by decide) (hts (.fieldLink RX5 196 "PumpOathsModel" "orders" "I") (List.mem_of_getElem? (i := 2) rfl)) (fun _ h9 => h9) rfl dX5_readsOrder_208 ?_
      refine lv_iload_n hx hb dX5_readsOrder_211 rfl (lv_at hl 0 rfl) ?_
      refine va_iast (f := T_7.2.2 1) hx hb hK hP hD hS 5 0 rfl rfl (k_in (k := od) (hI.2.1.trans hod) (by omega) (by decide)) dX5_readsOrder_212 (fun H locs hP hD hS => ?_)
      rw [show (T_7.1 6 : Int32).toNatClampNeg = od from k_cl (hI.2.1.trans hod) (by omega)] at hP hD
      have hP : va_P D vwCl (moW q cI cJ (o_setA T_7 1 (upd (T_7.2.2 1) od (o_look M)))) H := hP
      have hD : va_D A9 (moW q cI cJ (o_setA T_7 1 (upd (T_7.2.2 1) od (o_look M)))) := hD
      obtain ⟨T_9, hT_9⟩ : ∃ T9, T9 = upd (T_7.2.2 1) od (o_look M) := ⟨_, rfl⟩
      rw [← hT_9] at hP hD
      refine lv_aload_n hx hb dX5_readsOrder_213 rfl (lv_at hl 1 rfl) ?_
      refine va_get (D := D) (ci := 5) (v := .ref (q 7)) (C := RX5) (T := TX5) (N := 14) hx hb hts inX5 hown hK hP 0 rfl rfl 13 (by decide) (hts (.fieldLink RX5 29 "PumpOathsModel" "seconds" "[I") (List.mem_of_getElem? (i := 7) rfl)) (fun _ h9 => h9) rfl dX5_readsOrder_214 ?_
      refine lv_aload_n hx hb dX5_readsOrder_217 rfl (lv_at hl 1 rfl) ?_
      refine va_get (D := D) (ci := 5) (v := .int (T_7.1 6)) (C := RX5) (T := TX5) (N := 14) hx hb hts inX5 hown hK hP 0 rfl rfl 10 (by decide) (hts (.fieldLink RX5 196 "PumpOathsModel" "orders" "I") (List.mem_of_getElem? (i := 2) rfl)) (fun _ h9 => h9) rfl dX5_readsOrder_218 ?_
      refine lv_aload_n hx hb dX5_readsOrder_221 rfl (lv_at hl 1 rfl) ?_
      refine va_get (D := D) (ci := 5) (v := .int (T_7.1 5)) (C := RX5) (T := TX5) (N := 14) hx hb hts inX5 hown hK hP 0 rfl rfl 9 (by decide) (hts (.fieldLink RX5 186 "PumpOathsModel" "number" "I") (List.mem_of_getElem? (i := 4) rfl)) (fun _ h9 => h9) rfl dX5_readsOrder_222 ?_
      refine va_iast (f := T_7.2.2 3) hx hb hK hP hD hS 7 0 rfl rfl (k_in (k := od) (hI.2.1.trans hod) (by omega) (by decide)) dX5_readsOrder_225 (fun H locs hP hD hS => ?_)
      rw [show (T_7.1 6 : Int32).toNatClampNeg = od from k_cl (hI.2.1.trans hod) (by omega)] at hP hD
      have hP : va_P D vwCl (moW q cI cJ (o_setA (o_setA T_7 1 T_9) 3 (upd (T_7.2.2 3) od (T_7.1 5)))) H := hP
      have hD : va_D A9 (moW q cI cJ (o_setA (o_setA T_7 1 T_9) 3 (upd (T_7.2.2 3) od (T_7.1 5)))) := hD
      obtain ⟨T_10, hT_10⟩ : ∃ T9, T9 = upd (T_7.2.2 3) od (T_7.1 5) := ⟨_, rfl⟩
      rw [← hT_10] at hP hD
      refine lv_aload_n hx hb dX5_readsOrder_226 rfl (lv_at hl 1 rfl) ?_
      refine lv_dup hx hb dX5_readsOrder_227 rfl ?_
      refine va_get (D := D) (ci := 5) (v := .int (T_7.1 6)) (C := RX5) (T := TX5) (N := 14) hx hb hts inX5 hown hK hP 0 rfl rfl 10 (by decide) (hts (.fieldLink RX5 196 "PumpOathsModel" "orders" "I") (List.mem_of_getElem? (i := 2) rfl)) (fun _ h9 => h9) rfl dX5_readsOrder_228 ?_
      refine lv_iconst (v := 1) hx hb dX5_readsOrder_231 (by decide) ?_
      refine lv_iadd hx hb dX5_readsOrder_232 ?_
      refine va_put (D := D) (ci := 5) (v := .int ((T_7.1 6) + 1)) (ty := .int) (C := RX5) (T := TX5) (N := 14) hx hb hts inX5 tyX5 tyX5_ok nmX5 hown hK hP hD hS 0 rfl rfl 10 (by decide) (hts (.fieldLink RX5 196 "PumpOathsModel" "orders" "I") (List.mem_of_getElem? (i := 2) rfl)) (fun _ h9 => h9) rfl (by decide +kernel) rfl rfl (Nat.le_of_ble_eq_true rfl) dX5_readsOrder_233 (fun H locs hP hD hS => ?_)
      have hP : va_P D vwCl (moW q cI cJ (o_setI (o_setA (o_setA T_7 1 T_9) 3 T_10) 6 ((T_7.1 6) + 1))) H := hP
      have hD : va_D A9 (moW q cI cJ (o_setI (o_setA (o_setA T_7 1 T_9) 3 T_10) 6 ((T_7.1 6) + 1))) := hD
      rw [hT_7] at c_200_7
      rw [hT_6] at c_200_7
      rw [hT_5] at c_200_7
      rw [hT_4] at c_200_7
      rw [hT_3] at c_200_7
      rw [hT_1] at c_200_7
      exact k_vret hx hb hr hlk hP hS dX5_readsOrder_236 (k_P (congrArg (fun T9 => moW q cI cJ T9) (show (o_setI (o_setA (o_setA T_7 1 T_9) 3 T_10) 6 ((T_7.1 6) + 1)) = (A_X5_readsOrder_s0 M od) from by rw [hT_10, hT_9, hT_7, hT_6, hT_5, hT_4, hT_3, hT_1, A_X5_readsOrder_s0, if_pos c_26_1, if_pos c_200_7])))
  by_cases c_26_10 : o_look M = 109
  · refine lv_lookup (off := 50) (tgt := 76) hx hb dX5_readsOrder_26 (by decide) (by rw [c_26_10]; decide) (by decide) ?_
    refine lv_aload_n hx hb dX5_readsOrder_76 rfl (lv_at hl 1 rfl) ?_
    refine lv_iconst (v := 3) hx hb dX5_readsOrder_77 (by decide) ?_
    refine lv_iconst (v := 1) hx hb dX5_readsOrder_78 (by decide) ?_
    refine lv_sipush (v := 720) hx hb dX5_readsOrder_79 (by decide) ?_
    refine k_callv (a := []) (z := []) (wc := moW q cI cJ (o_setI (o_setA M 2 T_1) 3 ((M.1 3) + 1))) (wc' := moW q cI cJ (o_num (o_setI (o_setA M 2 T_1) 3 ((M.1 3) + 1)) 3 1 720)) (w' := moW q cI cJ (o_num (o_setI (o_setA M 2 T_1) 3 ((M.1 3) + 1)) 3 1 720)) (va_runV (As := [.int 3, .int 1, .int 720]) (rest := []) ⟨hx, hb, hml, hown, hts⟩ (c_X5_readsNumber l D q cI cJ (o_setI (o_setA M 2 T_1) 3 ((M.1 3) + 1)) 3 1 720 (by decide) le (hI.1.trans hle) hle1 (tB_le hI.2.2 (by decide)) _) (cwV 3 hts gX5_readsOrder_X5_readsNumber rfl rfl rfl (by decide +kernel) ⟨Nat.le_of_ble_eq_true rfl, Nat.le_of_ble_eq_true rfl⟩) ⟨kB_blind, va_recv hK hP (ci := 5) (q0 := 0) rfl rfl, k_pre (a := []) (z := []) (k_w0 _) hK hP hD⟩ rfl rfl hl.1 rfl (lv_room (Nat.le_of_ble_eq_true rfl)) dX5_readsOrder_82 ⟨Nat.zero_le _, Nat.zero_le _⟩) (k_w0 _) (k_w0 _) (moW_ad _ _ _ _ _) hP hD hS hA (fun H locs hP hD hS => ?_)
    obtain ⟨T_12, hT_12⟩ : ∃ T9, T9 = o_num (o_setI (o_setA M 2 T_1) 3 ((M.1 3) + 1)) 3 1 720 := ⟨_, rfl⟩
    rw [← hT_12] at hP hD
    have hI := tI_num (dd := 3) (lo := 1) (hi := 720) hI
    rw [← hT_12] at hI
    refine lv_goto (tgt := 189) hx hb dX5_readsOrder_85 (by decide) ?_
    have hI := (by first | exact hI | (rw [hT_12]; exact tI_fail hI) : tI M T_12 _)
    refine lv_aload_n hx hb dX5_readsOrder_189 rfl (lv_at hl 1 rfl) ?_
    refine lv_bipush (v := 59) hx hb dX5_readsOrder_190 (by decide) ?_
    refine k_callv (a := []) (z := []) (wc := moW q cI cJ T_12) (wc' := moW q cI cJ (A_X5_sign_s0 T_12 59)) (w' := moW q cI cJ (A_X5_sign_s0 T_12 59)) (va_runV (As := [.int 59]) (rest := []) ⟨hx, hb, hml, hown, hts⟩ (c_X5_sign l D q cI cJ T_12 59 le (hI.1.trans hle) hle1 (tB_le hI.2.2 (by decide)) _) (cwV 1 hts gX5_readsOrder_X5_sign rfl rfl rfl (by decide +kernel) ⟨Nat.le_of_ble_eq_true rfl, Nat.le_of_ble_eq_true rfl⟩) ⟨kB_blind, va_recv hK hP (ci := 5) (q0 := 0) rfl rfl, k_pre (a := []) (z := []) (k_w0 _) hK hP hD⟩ rfl rfl hl.1 rfl (lv_room (Nat.le_of_ble_eq_true rfl)) dX5_readsOrder_192 ⟨Nat.zero_le _, Nat.zero_le _⟩) (k_w0 _) (k_w0 _) (moW_ad _ _ _ _ _) hP hD hS hA (fun H locs hP hD hS => ?_)
    obtain ⟨T_13, hT_13⟩ : ∃ T9, T9 = A_X5_sign_s0 T_12 59 := ⟨_, rfl⟩
    rw [← hT_13] at hP hD
    have hI := tI_sign (x := 59) hI
    rw [← hT_13] at hI
    refine lv_aload_n hx hb dX5_readsOrder_195 rfl (lv_at hl 1 rfl) ?_
    refine va_get (D := D) (ci := 5) (v := .int (T_13.1 4)) (C := RX5) (T := TX5) (N := 14) hx hb hts inX5 hown hK hP 0 rfl rfl 8 (by decide) (hts (.fieldLink RX5 180 "PumpOathsModel" "wrong" "I") (List.mem_of_getElem? (i := 5) rfl)) (fun _ h9 => h9) rfl dX5_readsOrder_196 ?_
    refine lv_iconst (v := (-1)) hx hb dX5_readsOrder_199 (by decide) ?_
    refine lv_icmp_ne (tgt := 236) hx hb dX5_readsOrder_200 (by decide) (fun c_200_13 => ?_) (fun c_200_13 => ?_)
    · have c_200_13 : ¬ (T_13.1 4) = (-1) := c_200_13
      rw [hT_13] at c_200_13
      rw [hT_12] at c_200_13
      rw [hT_1] at c_200_13
      exact k_vret hx hb hr hlk hP hS dX5_readsOrder_236 (k_P (congrArg (fun T9 => moW q cI cJ T9) (show T_13 = (A_X5_readsOrder_s0 M od) from by rw [hT_13, hT_12, hT_1, A_X5_readsOrder_s0, if_neg c_26_1, if_pos c_26_10, if_neg c_200_13])))
    · have c_200_13 : (T_13.1 4) = (-1) := c_200_13
      refine lv_aload_n hx hb dX5_readsOrder_203 rfl (lv_at hl 1 rfl) ?_
      refine va_get (D := D) (ci := 5) (v := .ref (q 5)) (C := RX5) (T := TX5) (N := 14) hx hb hts inX5 hown hK hP 0 rfl rfl 11 (by decide) (hts (.fieldLink RX5 23 "PumpOathsModel" "whats" "[I") (List.mem_of_getElem? (i := 6) rfl)) (fun _ h9 => h9) rfl dX5_readsOrder_204 ?_
      refine lv_aload_n hx hb dX5_readsOrder_207 rfl (lv_at hl 1 rfl) ?_
      refine va_get (D := D) (ci := 5) (v := .int (T_13.1 6)) (C := RX5) (T := TX5) (N := 14) hx hb hts inX5 hown hK hP 0 rfl rfl 10 (by decide) (hts (.fieldLink RX5 196 "PumpOathsModel" "orders" "I") (List.mem_of_getElem? (i := 2) rfl)) (fun _ h9 => h9) rfl dX5_readsOrder_208 ?_
      refine lv_iload_n hx hb dX5_readsOrder_211 rfl (lv_at hl 0 rfl) ?_
      refine va_iast (f := T_13.2.2 1) hx hb hK hP hD hS 5 0 rfl rfl (k_in (k := od) (hI.2.1.trans hod) (by omega) (by decide)) dX5_readsOrder_212 (fun H locs hP hD hS => ?_)
      rw [show (T_13.1 6 : Int32).toNatClampNeg = od from k_cl (hI.2.1.trans hod) (by omega)] at hP hD
      have hP : va_P D vwCl (moW q cI cJ (o_setA T_13 1 (upd (T_13.2.2 1) od (o_look M)))) H := hP
      have hD : va_D A9 (moW q cI cJ (o_setA T_13 1 (upd (T_13.2.2 1) od (o_look M)))) := hD
      obtain ⟨T_15, hT_15⟩ : ∃ T9, T9 = upd (T_13.2.2 1) od (o_look M) := ⟨_, rfl⟩
      rw [← hT_15] at hP hD
      refine lv_aload_n hx hb dX5_readsOrder_213 rfl (lv_at hl 1 rfl) ?_
      refine va_get (D := D) (ci := 5) (v := .ref (q 7)) (C := RX5) (T := TX5) (N := 14) hx hb hts inX5 hown hK hP 0 rfl rfl 13 (by decide) (hts (.fieldLink RX5 29 "PumpOathsModel" "seconds" "[I") (List.mem_of_getElem? (i := 7) rfl)) (fun _ h9 => h9) rfl dX5_readsOrder_214 ?_
      refine lv_aload_n hx hb dX5_readsOrder_217 rfl (lv_at hl 1 rfl) ?_
      refine va_get (D := D) (ci := 5) (v := .int (T_13.1 6)) (C := RX5) (T := TX5) (N := 14) hx hb hts inX5 hown hK hP 0 rfl rfl 10 (by decide) (hts (.fieldLink RX5 196 "PumpOathsModel" "orders" "I") (List.mem_of_getElem? (i := 2) rfl)) (fun _ h9 => h9) rfl dX5_readsOrder_218 ?_
      refine lv_aload_n hx hb dX5_readsOrder_221 rfl (lv_at hl 1 rfl) ?_
      refine va_get (D := D) (ci := 5) (v := .int (T_13.1 5)) (C := RX5) (T := TX5) (N := 14) hx hb hts inX5 hown hK hP 0 rfl rfl 9 (by decide) (hts (.fieldLink RX5 186 "PumpOathsModel" "number" "I") (List.mem_of_getElem? (i := 4) rfl)) (fun _ h9 => h9) rfl dX5_readsOrder_222 ?_
      refine va_iast (f := T_13.2.2 3) hx hb hK hP hD hS 7 0 rfl rfl (k_in (k := od) (hI.2.1.trans hod) (by omega) (by decide)) dX5_readsOrder_225 (fun H locs hP hD hS => ?_)
      rw [show (T_13.1 6 : Int32).toNatClampNeg = od from k_cl (hI.2.1.trans hod) (by omega)] at hP hD
      have hP : va_P D vwCl (moW q cI cJ (o_setA (o_setA T_13 1 T_15) 3 (upd (T_13.2.2 3) od (T_13.1 5)))) H := hP
      have hD : va_D A9 (moW q cI cJ (o_setA (o_setA T_13 1 T_15) 3 (upd (T_13.2.2 3) od (T_13.1 5)))) := hD
      obtain ⟨T_16, hT_16⟩ : ∃ T9, T9 = upd (T_13.2.2 3) od (T_13.1 5) := ⟨_, rfl⟩
      rw [← hT_16] at hP hD
      refine lv_aload_n hx hb dX5_readsOrder_226 rfl (lv_at hl 1 rfl) ?_
      refine lv_dup hx hb dX5_readsOrder_227 rfl ?_
      refine va_get (D := D) (ci := 5) (v := .int (T_13.1 6)) (C := RX5) (T := TX5) (N := 14) hx hb hts inX5 hown hK hP 0 rfl rfl 10 (by decide) (hts (.fieldLink RX5 196 "PumpOathsModel" "orders" "I") (List.mem_of_getElem? (i := 2) rfl)) (fun _ h9 => h9) rfl dX5_readsOrder_228 ?_
      refine lv_iconst (v := 1) hx hb dX5_readsOrder_231 (by decide) ?_
      refine lv_iadd hx hb dX5_readsOrder_232 ?_
      refine va_put (D := D) (ci := 5) (v := .int ((T_13.1 6) + 1)) (ty := .int) (C := RX5) (T := TX5) (N := 14) hx hb hts inX5 tyX5 tyX5_ok nmX5 hown hK hP hD hS 0 rfl rfl 10 (by decide) (hts (.fieldLink RX5 196 "PumpOathsModel" "orders" "I") (List.mem_of_getElem? (i := 2) rfl)) (fun _ h9 => h9) rfl (by decide +kernel) rfl rfl (Nat.le_of_ble_eq_true rfl) dX5_readsOrder_233 (fun H locs hP hD hS => ?_)
      have hP : va_P D vwCl (moW q cI cJ (o_setI (o_setA (o_setA T_13 1 T_15) 3 T_16) 6 ((T_13.1 6) + 1))) H := hP
      have hD : va_D A9 (moW q cI cJ (o_setI (o_setA (o_setA T_13 1 T_15) 3 T_16) 6 ((T_13.1 6) + 1))) := hD
      rw [hT_13] at c_200_13
      rw [hT_12] at c_200_13
      rw [hT_1] at c_200_13
      exact k_vret hx hb hr hlk hP hS dX5_readsOrder_236 (k_P (congrArg (fun T9 => moW q cI cJ T9) (show (o_setI (o_setA (o_setA T_13 1 T_15) 3 T_16) 6 ((T_13.1 6) + 1)) = (A_X5_readsOrder_s0 M od) from by rw [hT_16, hT_15, hT_13, hT_12, hT_1, A_X5_readsOrder_s0, if_neg c_26_1, if_pos c_26_10, if_pos c_200_13])))
  by_cases c_26_16 : o_look M = 111
  · refine lv_lookup (off := 62) (tgt := 88) hx hb dX5_readsOrder_26 (by decide) (by rw [c_26_16]; decide) (by decide) ?_
    refine lv_aload_n hx hb dX5_readsOrder_88 rfl (lv_at hl 1 rfl) ?_
    refine lv_iconst (v := 5) hx hb dX5_readsOrder_89 (by decide) ?_
    refine k_callv (a := []) (z := []) (wc := moW q cI cJ (o_setI (o_setA M 2 T_1) 3 ((M.1 3) + 1))) (wc' := moW q cI cJ (A_X5_digit_s0 (o_setI (o_setA M 2 T_1) 3 ((M.1 3) + 1)) 5)) (w' := moW q cI cJ (A_X5_digit_s0 (o_setI (o_setA M 2 T_1) 3 ((M.1 3) + 1)) 5)) (va_runV (As := [.int 5]) (rest := []) ⟨hx, hb, hml, hown, hts⟩ (c_X5_digit l D q cI cJ (o_setI (o_setA M 2 T_1) 3 ((M.1 3) + 1)) 5 le (hI.1.trans hle) hle1 (tB_le hI.2.2 (by decide)) _) (cwV 1 hts gX5_readsOrder_X5_digit rfl rfl rfl (by decide +kernel) ⟨Nat.le_of_ble_eq_true rfl, Nat.le_of_ble_eq_true rfl⟩) ⟨kB_blind, va_recv hK hP (ci := 5) (q0 := 0) rfl rfl, k_pre (a := []) (z := []) (k_w0 _) hK hP hD⟩ rfl rfl hl.1 rfl (lv_room (Nat.le_of_ble_eq_true rfl)) dX5_readsOrder_90 ⟨Nat.zero_le _, Nat.zero_le _⟩) (k_w0 _) (k_w0 _) (moW_ad _ _ _ _ _) hP hD hS hA (fun H locs hP hD hS => ?_)
    obtain ⟨T_18, hT_18⟩ : ∃ T9, T9 = A_X5_digit_s0 (o_setI (o_setA M 2 T_1) 3 ((M.1 3) + 1)) 5 := ⟨_, rfl⟩
    rw [← hT_18] at hP hD
    have hI := tI_digit (x := 5) hI
    rw [← hT_18] at hI
    refine lv_aload_n hx hb dX5_readsOrder_93 rfl (lv_at hl 1 rfl) ?_
    refine va_get (D := D) (ci := 5) (v := .ref (q 6)) (C := RX5) (T := TX5) (N := 14) hx hb hts inX5 hown hK hP 0 rfl rfl 12 (by decide) (hts (.fieldLink RX5 26 "PumpOathsModel" "firsts" "[I") (List.mem_of_getElem? (i := 1) rfl)) (fun _ h9 => h9) rfl dX5_readsOrder_94 ?_
    refine lv_aload_n hx hb dX5_readsOrder_97 rfl (lv_at hl 1 rfl) ?_
    refine va_get (D := D) (ci := 5) (v := .int (T_18.1 6)) (C := RX5) (T := TX5) (N := 14) hx hb hts inX5 hown hK hP 0 rfl rfl 10 (by decide) (hts (.fieldLink RX5 196 "PumpOathsModel" "orders" "I") (List.mem_of_getElem? (i := 2) rfl)) (fun _ h9 => h9) rfl dX5_readsOrder_98 ?_
    refine lv_aload_n hx hb dX5_readsOrder_101 rfl (lv_at hl 1 rfl) ?_
    refine va_get (D := D) (ci := 5) (v := .int (T_18.1 5)) (C := RX5) (T := TX5) (N := 14) hx hb hts inX5 hown hK hP 0 rfl rfl 9 (by decide) (hts (.fieldLink RX5 186 "PumpOathsModel" "number" "I") (List.mem_of_getElem? (i := 4) rfl)) (fun _ h9 => h9) rfl dX5_readsOrder_102 ?_
    refine va_iast (f := T_18.2.2 2) hx hb hK hP hD hS 6 0 rfl rfl (k_in (k := od) (hI.2.1.trans hod) (by omega) (by decide)) dX5_readsOrder_105 (fun H locs hP hD hS => ?_)
    rw [show (T_18.1 6 : Int32).toNatClampNeg = od from k_cl (hI.2.1.trans hod) (by omega)] at hP hD
    have hP : va_P D vwCl (moW q cI cJ (o_setA T_18 2 (upd (T_18.2.2 2) od (T_18.1 5)))) H := hP
    have hD : va_D A9 (moW q cI cJ (o_setA T_18 2 (upd (T_18.2.2 2) od (T_18.1 5)))) := hD
    obtain ⟨T_19, hT_19⟩ : ∃ T9, T9 = upd (T_18.2.2 2) od (T_18.1 5) := ⟨_, rfl⟩
    rw [← hT_19] at hP hD
    have hI := tI_A (j := 2) (f := T_19) hI
    refine lv_aload_n hx hb dX5_readsOrder_106 rfl (lv_at hl 1 rfl) ?_
    refine lv_bipush (v := 61) hx hb dX5_readsOrder_107 (by decide) ?_
    refine k_callv (a := []) (z := []) (wc := moW q cI cJ (o_setA T_18 2 T_19)) (wc' := moW q cI cJ (A_X5_sign_s0 (o_setA T_18 2 T_19) 61)) (w' := moW q cI cJ (A_X5_sign_s0 (o_setA T_18 2 T_19) 61)) (va_runV (As := [.int 61]) (rest := []) ⟨hx, hb, hml, hown, hts⟩ (c_X5_sign l D q cI cJ (o_setA T_18 2 T_19) 61 le (hI.1.trans hle) hle1 (tB_le hI.2.2 (by decide)) _) (cwV 1 hts gX5_readsOrder_X5_sign rfl rfl rfl (by decide +kernel) ⟨Nat.le_of_ble_eq_true rfl, Nat.le_of_ble_eq_true rfl⟩) ⟨kB_blind, va_recv hK hP (ci := 5) (q0 := 0) rfl rfl, k_pre (a := []) (z := []) (k_w0 _) hK hP hD⟩ rfl rfl hl.1 rfl (lv_room (Nat.le_of_ble_eq_true rfl)) dX5_readsOrder_109 ⟨Nat.zero_le _, Nat.zero_le _⟩) (k_w0 _) (k_w0 _) (moW_ad _ _ _ _ _) hP hD hS hA (fun H locs hP hD hS => ?_)
    obtain ⟨T_20, hT_20⟩ : ∃ T9, T9 = A_X5_sign_s0 (o_setA T_18 2 T_19) 61 := ⟨_, rfl⟩
    rw [← hT_20] at hP hD
    have hI := tI_sign (x := 61) hI
    rw [← hT_20] at hI
    refine lv_aload_n hx hb dX5_readsOrder_112 rfl (lv_at hl 1 rfl) ?_
    refine lv_iconst (v := 2) hx hb dX5_readsOrder_113 (by decide) ?_
    refine lv_iconst (v := 1) hx hb dX5_readsOrder_114 (by decide) ?_
    refine lv_bipush (v := 12) hx hb dX5_readsOrder_115 (by decide) ?_
    refine k_callv (a := []) (z := []) (wc := moW q cI cJ T_20) (wc' := moW q cI cJ (o_num T_20 2 1 12)) (w' := moW q cI cJ (o_num T_20 2 1 12)) (va_runV (As := [.int 2, .int 1, .int 12]) (rest := []) ⟨hx, hb, hml, hown, hts⟩ (c_X5_readsNumber l D q cI cJ T_20 2 1 12 (by decide) le (hI.1.trans hle) hle1 (tB_le hI.2.2 (by decide)) _) (cwV 3 hts gX5_readsOrder_X5_readsNumber rfl rfl rfl (by decide +kernel) ⟨Nat.le_of_ble_eq_true rfl, Nat.le_of_ble_eq_true rfl⟩) ⟨kB_blind, va_recv hK hP (ci := 5) (q0 := 0) rfl rfl, k_pre (a := []) (z := []) (k_w0 _) hK hP hD⟩ rfl rfl hl.1 rfl (lv_room (Nat.le_of_ble_eq_true rfl)) dX5_readsOrder_117 ⟨Nat.zero_le _, Nat.zero_le _⟩) (k_w0 _) (k_w0 _) (moW_ad _ _ _ _ _) hP hD hS hA (fun H locs hP hD hS => ?_)
    obtain ⟨T_21, hT_21⟩ : ∃ T9, T9 = o_num T_20 2 1 12 := ⟨_, rfl⟩
    rw [← hT_21] at hP hD
    have hI := tI_num (dd := 2) (lo := 1) (hi := 12) hI
    rw [← hT_21] at hI
    refine lv_goto (tgt := 189) hx hb dX5_readsOrder_120 (by decide) ?_
    have hI := (by first | exact hI | (rw [hT_21]; exact tI_fail hI) : tI M T_21 _)
    refine lv_aload_n hx hb dX5_readsOrder_189 rfl (lv_at hl 1 rfl) ?_
    refine lv_bipush (v := 59) hx hb dX5_readsOrder_190 (by decide) ?_
    refine k_callv (a := []) (z := []) (wc := moW q cI cJ T_21) (wc' := moW q cI cJ (A_X5_sign_s0 T_21 59)) (w' := moW q cI cJ (A_X5_sign_s0 T_21 59)) (va_runV (As := [.int 59]) (rest := []) ⟨hx, hb, hml, hown, hts⟩ (c_X5_sign l D q cI cJ T_21 59 le (hI.1.trans hle) hle1 (tB_le hI.2.2 (by decide)) _) (cwV 1 hts gX5_readsOrder_X5_sign rfl rfl rfl (by decide +kernel) ⟨Nat.le_of_ble_eq_true rfl, Nat.le_of_ble_eq_true rfl⟩) ⟨kB_blind, va_recv hK hP (ci := 5) (q0 := 0) rfl rfl, k_pre (a := []) (z := []) (k_w0 _) hK hP hD⟩ rfl rfl hl.1 rfl (lv_room (Nat.le_of_ble_eq_true rfl)) dX5_readsOrder_192 ⟨Nat.zero_le _, Nat.zero_le _⟩) (k_w0 _) (k_w0 _) (moW_ad _ _ _ _ _) hP hD hS hA (fun H locs hP hD hS => ?_)
    obtain ⟨T_22, hT_22⟩ : ∃ T9, T9 = A_X5_sign_s0 T_21 59 := ⟨_, rfl⟩
    rw [← hT_22] at hP hD
    have hI := tI_sign (x := 59) hI
    rw [← hT_22] at hI
    refine lv_aload_n hx hb dX5_readsOrder_195 rfl (lv_at hl 1 rfl) ?_
    refine va_get (D := D) (ci := 5) (v := .int (T_22.1 4)) (C := RX5) (T := TX5) (N := 14) hx hb hts inX5 hown hK hP 0 rfl rfl 8 (by decide) (hts (.fieldLink RX5 180 "PumpOathsModel" "wrong" "I") (List.mem_of_getElem? (i := 5) rfl)) (fun _ h9 => h9) rfl dX5_readsOrder_196 ?_
    refine lv_iconst (v := (-1)) hx hb dX5_readsOrder_199 (by decide) ?_
    refine lv_icmp_ne (tgt := 236) hx hb dX5_readsOrder_200 (by decide) (fun c_200_22 => ?_) (fun c_200_22 => ?_)
    · have c_200_22 : ¬ (T_22.1 4) = (-1) := c_200_22
      rw [hT_22] at c_200_22
      rw [hT_21] at c_200_22
      rw [hT_20] at c_200_22
      rw [hT_19] at c_200_22
      rw [hT_18] at c_200_22
      rw [hT_1] at c_200_22
      exact k_vret hx hb hr hlk hP hS dX5_readsOrder_236 (k_P (congrArg (fun T9 => moW q cI cJ T9) (show T_22 = (A_X5_readsOrder_s0 M od) from by rw [hT_22, hT_21, hT_20, hT_19, hT_18, hT_1, A_X5_readsOrder_s0, if_neg c_26_1, if_neg c_26_10, if_pos c_26_16, if_neg c_200_22])))
    · have c_200_22 : (T_22.1 4) = (-1) := c_200_22
      refine lv_aload_n hx hb dX5_readsOrder_203 rfl (lv_at hl 1 rfl) ?_
      refine va_get (D := D) (ci := 5) (v := .ref (q 5)) (C := RX5) (T := TX5) (N := 14) hx hb hts inX5 hown hK hP 0 rfl rfl 11 (by decide) (hts (.fieldLink RX5 23 "PumpOathsModel" "whats" "[I") (List.mem_of_getElem? (i := 6) rfl)) (fun _ h9 => h9) rfl dX5_readsOrder_204 ?_
      refine lv_aload_n hx hb dX5_readsOrder_207 rfl (lv_at hl 1 rfl) ?_
      refine va_get (D := D) (ci := 5) (v := .int (T_22.1 6)) (C := RX5) (T := TX5) (N := 14) hx hb hts inX5 hown hK hP 0 rfl rfl 10 (by decide) (hts (.fieldLink RX5 196 "PumpOathsModel" "orders" "I") (List.mem_of_getElem? (i := 2) rfl)) (fun _ h9 => h9) rfl dX5_readsOrder_208 ?_
      refine lv_iload_n hx hb dX5_readsOrder_211 rfl (lv_at hl 0 rfl) ?_
      refine va_iast (f := T_22.2.2 1) hx hb hK hP hD hS 5 0 rfl rfl (k_in (k := od) (hI.2.1.trans hod) (by omega) (by decide)) dX5_readsOrder_212 (fun H locs hP hD hS => ?_)
      rw [show (T_22.1 6 : Int32).toNatClampNeg = od from k_cl (hI.2.1.trans hod) (by omega)] at hP hD
      have hP : va_P D vwCl (moW q cI cJ (o_setA T_22 1 (upd (T_22.2.2 1) od (o_look M)))) H := hP
      have hD : va_D A9 (moW q cI cJ (o_setA T_22 1 (upd (T_22.2.2 1) od (o_look M)))) := hD
      obtain ⟨T_24, hT_24⟩ : ∃ T9, T9 = upd (T_22.2.2 1) od (o_look M) := ⟨_, rfl⟩
      rw [← hT_24] at hP hD
      refine lv_aload_n hx hb dX5_readsOrder_213 rfl (lv_at hl 1 rfl) ?_
      refine va_get (D := D) (ci := 5) (v := .ref (q 7)) (C := RX5) (T := TX5) (N := 14) hx hb hts inX5 hown hK hP 0 rfl rfl 13 (by decide) (hts (.fieldLink RX5 29 "PumpOathsModel" "seconds" "[I") (List.mem_of_getElem? (i := 7) rfl)) (fun _ h9 => h9) rfl dX5_readsOrder_214 ?_
      refine lv_aload_n hx hb dX5_readsOrder_217 rfl (lv_at hl 1 rfl) ?_
      refine va_get (D := D) (ci := 5) (v := .int (T_22.1 6)) (C := RX5) (T := TX5) (N := 14) hx hb hts inX5 hown hK hP 0 rfl rfl 10 (by decide) (hts (.fieldLink RX5 196 "PumpOathsModel" "orders" "I") (List.mem_of_getElem? (i := 2) rfl)) (fun _ h9 => h9) rfl dX5_readsOrder_218 ?_
      refine lv_aload_n hx hb dX5_readsOrder_221 rfl (lv_at hl 1 rfl) ?_
      refine va_get (D := D) (ci := 5) (v := .int (T_22.1 5)) (C := RX5) (T := TX5) (N := 14) hx hb hts inX5 hown hK hP 0 rfl rfl 9 (by decide) (hts (.fieldLink RX5 186 "PumpOathsModel" "number" "I") (List.mem_of_getElem? (i := 4) rfl)) (fun _ h9 => h9) rfl dX5_readsOrder_222 ?_
      refine va_iast (f := T_22.2.2 3) hx hb hK hP hD hS 7 0 rfl rfl (k_in (k := od) (hI.2.1.trans hod) (by omega) (by decide)) dX5_readsOrder_225 (fun H locs hP hD hS => ?_)
      rw [show (T_22.1 6 : Int32).toNatClampNeg = od from k_cl (hI.2.1.trans hod) (by omega)] at hP hD
      have hP : va_P D vwCl (moW q cI cJ (o_setA (o_setA T_22 1 T_24) 3 (upd (T_22.2.2 3) od (T_22.1 5)))) H := hP
      have hD : va_D A9 (moW q cI cJ (o_setA (o_setA T_22 1 T_24) 3 (upd (T_22.2.2 3) od (T_22.1 5)))) := hD
      obtain ⟨T_25, hT_25⟩ : ∃ T9, T9 = upd (T_22.2.2 3) od (T_22.1 5) := ⟨_, rfl⟩
      rw [← hT_25] at hP hD
      refine lv_aload_n hx hb dX5_readsOrder_226 rfl (lv_at hl 1 rfl) ?_
      refine lv_dup hx hb dX5_readsOrder_227 rfl ?_
      refine va_get (D := D) (ci := 5) (v := .int (T_22.1 6)) (C := RX5) (T := TX5) (N := 14) hx hb hts inX5 hown hK hP 0 rfl rfl 10 (by decide) (hts (.fieldLink RX5 196 "PumpOathsModel" "orders" "I") (List.mem_of_getElem? (i := 2) rfl)) (fun _ h9 => h9) rfl dX5_readsOrder_228 ?_
      refine lv_iconst (v := 1) hx hb dX5_readsOrder_231 (by decide) ?_
      refine lv_iadd hx hb dX5_readsOrder_232 ?_
      refine va_put (D := D) (ci := 5) (v := .int ((T_22.1 6) + 1)) (ty := .int) (C := RX5) (T := TX5) (N := 14) hx hb hts inX5 tyX5 tyX5_ok nmX5 hown hK hP hD hS 0 rfl rfl 10 (by decide) (hts (.fieldLink RX5 196 "PumpOathsModel" "orders" "I") (List.mem_of_getElem? (i := 2) rfl)) (fun _ h9 => h9) rfl (by decide +kernel) rfl rfl (Nat.le_of_ble_eq_true rfl) dX5_readsOrder_233 (fun H locs hP hD hS => ?_)
      have hP : va_P D vwCl (moW q cI cJ (o_setI (o_setA (o_setA T_22 1 T_24) 3 T_25) 6 ((T_22.1 6) + 1))) H := hP
      have hD : va_D A9 (moW q cI cJ (o_setI (o_setA (o_setA T_22 1 T_24) 3 T_25) 6 ((T_22.1 6) + 1))) := hD
      rw [hT_22] at c_200_22
      rw [hT_21] at c_200_22
      rw [hT_20] at c_200_22
      rw [hT_19] at c_200_22
      rw [hT_18] at c_200_22
      rw [hT_1] at c_200_22
      exact k_vret hx hb hr hlk hP hS dX5_readsOrder_236 (k_P (congrArg (fun T9 => moW q cI cJ T9) (show (o_setI (o_setA (o_setA T_22 1 T_24) 3 T_25) 6 ((T_22.1 6) + 1)) = (A_X5_readsOrder_s0 M od) from by rw [hT_25, hT_24, hT_22, hT_21, hT_20, hT_19, hT_18, hT_1, A_X5_readsOrder_s0, if_neg c_26_1, if_neg c_26_10, if_pos c_26_16, if_pos c_200_22])))
  by_cases c_26_25 : o_look M = 120
  · refine lv_lookup (off := 97) (tgt := 123) hx hb dX5_readsOrder_26 (by decide) (by rw [c_26_25]; decide) (by decide) ?_
    refine lv_aload_n hx hb dX5_readsOrder_123 rfl (lv_at hl 1 rfl) ?_
    refine lv_iconst (v := 5) hx hb dX5_readsOrder_124 (by decide) ?_
    refine k_callv (a := []) (z := []) (wc := moW q cI cJ (o_setI (o_setA M 2 T_1) 3 ((M.1 3) + 1))) (wc' := moW q cI cJ (A_X5_digit_s0 (o_setI (o_setA M 2 T_1) 3 ((M.1 3) + 1)) 5)) (w' := moW q cI cJ (A_X5_digit_s0 (o_setI (o_setA M 2 T_1) 3 ((M.1 3) + 1)) 5)) (va_runV (As := [.int 5]) (rest := []) ⟨hx, hb, hml, hown, hts⟩ (c_X5_digit l D q cI cJ (o_setI (o_setA M 2 T_1) 3 ((M.1 3) + 1)) 5 le (hI.1.trans hle) hle1 (tB_le hI.2.2 (by decide)) _) (cwV 1 hts gX5_readsOrder_X5_digit rfl rfl rfl (by decide +kernel) ⟨Nat.le_of_ble_eq_true rfl, Nat.le_of_ble_eq_true rfl⟩) ⟨kB_blind, va_recv hK hP (ci := 5) (q0 := 0) rfl rfl, k_pre (a := []) (z := []) (k_w0 _) hK hP hD⟩ rfl rfl hl.1 rfl (lv_room (Nat.le_of_ble_eq_true rfl)) dX5_readsOrder_125 ⟨Nat.zero_le _, Nat.zero_le _⟩) (k_w0 _) (k_w0 _) (moW_ad _ _ _ _ _) hP hD hS hA (fun H locs hP hD hS => ?_)
    obtain ⟨T_27, hT_27⟩ : ∃ T9, T9 = A_X5_digit_s0 (o_setI (o_setA M 2 T_1) 3 ((M.1 3) + 1)) 5 := ⟨_, rfl⟩
    rw [← hT_27] at hP hD
    have hI := tI_digit (x := 5) hI
    rw [← hT_27] at hI
    refine lv_aload_n hx hb dX5_readsOrder_128 rfl (lv_at hl 1 rfl) ?_
    refine va_get (D := D) (ci := 5) (v := .ref (q 6)) (C := RX5) (T := TX5) (N := 14) hx hb hts inX5 hown hK hP 0 rfl rfl 12 (by decide) (hts (.fieldLink RX5 26 "PumpOathsModel" "firsts" "[I") (List.mem_of_getElem? (i := 1) rfl)) (fun _ h9 => h9) rfl dX5_readsOrder_129 ?_
    refine lv_aload_n hx hb dX5_readsOrder_132 rfl (lv_at hl 1 rfl) ?_
    refine va_get (D := D) (ci := 5) (v := .int (T_27.1 6)) (C := RX5) (T := TX5) (N := 14) hx hb hts inX5 hown hK hP 0 rfl rfl 10 (by decide) (hts (.fieldLink RX5 196 "PumpOathsModel" "orders" "I") (List.mem_of_getElem? (i := 2) rfl)) (fun _ h9 => h9) rfl dX5_readsOrder_133 ?_
    refine lv_aload_n hx hb dX5_readsOrder_136 rfl (lv_at hl 1 rfl) ?_
    refine va_get (D := D) (ci := 5) (v := .int (T_27.1 5)) (C := RX5) (T := TX5) (N := 14) hx hb hts inX5 hown hK hP 0 rfl rfl 9 (by decide) (hts (.fieldLink RX5 186 "PumpOathsModel" "number" "I") (List.mem_of_getElem? (i := 4) rfl)) (fun _ h9 => h9) rfl dX5_readsOrder_137 ?_
    refine va_iast (f := T_27.2.2 2) hx hb hK hP hD hS 6 0 rfl rfl (k_in (k := od) (hI.2.1.trans hod) (by omega) (by decide)) dX5_readsOrder_140 (fun H locs hP hD hS => ?_)
    rw [show (T_27.1 6 : Int32).toNatClampNeg = od from k_cl (hI.2.1.trans hod) (by omega)] at hP hD
    have hP : va_P D vwCl (moW q cI cJ (o_setA T_27 2 (upd (T_27.2.2 2) od (T_27.1 5)))) H := hP
    have hD : va_D A9 (moW q cI cJ (o_setA T_27 2 (upd (T_27.2.2 2) od (T_27.1 5)))) := hD
    obtain ⟨T_28, hT_28⟩ : ∃ T9, T9 = upd (T_27.2.2 2) od (T_27.1 5) := ⟨_, rfl⟩
    rw [← hT_28] at hP hD
    have hI := tI_A (j := 2) (f := T_28) hI
    refine lv_goto (tgt := 189) hx hb dX5_readsOrder_141 (by decide) ?_
    have hI := (by first | exact hI | (rw [hT_28]; exact tI_fail hI) : tI M (o_setA T_27 2 T_28) _)
    refine lv_aload_n hx hb dX5_readsOrder_189 rfl (lv_at hl 1 rfl) ?_
    refine lv_bipush (v := 59) hx hb dX5_readsOrder_190 (by decide) ?_
    refine k_callv (a := []) (z := []) (wc := moW q cI cJ (o_setA T_27 2 T_28)) (wc' := moW q cI cJ (A_X5_sign_s0 (o_setA T_27 2 T_28) 59)) (w' := moW q cI cJ (A_X5_sign_s0 (o_setA T_27 2 T_28) 59)) (va_runV (As := [.int 59]) (rest := []) ⟨hx, hb, hml, hown, hts⟩ (c_X5_sign l D q cI cJ (o_setA T_27 2 T_28) 59 le (hI.1.trans hle) hle1 (tB_le hI.2.2 (by decide)) _) (cwV 1 hts gX5_readsOrder_X5_sign rfl rfl rfl (by decide +kernel) ⟨Nat.le_of_ble_eq_true rfl, Nat.le_of_ble_eq_true rfl⟩) ⟨kB_blind, va_recv hK hP (ci := 5) (q0 := 0) rfl rfl, k_pre (a := []) (z := []) (k_w0 _) hK hP hD⟩ rfl rfl hl.1 rfl (lv_room (Nat.le_of_ble_eq_true rfl)) dX5_readsOrder_192 ⟨Nat.zero_le _, Nat.zero_le _⟩) (k_w0 _) (k_w0 _) (moW_ad _ _ _ _ _) hP hD hS hA (fun H locs hP hD hS => ?_)
    obtain ⟨T_29, hT_29⟩ : ∃ T9, T9 = A_X5_sign_s0 (o_setA T_27 2 T_28) 59 := ⟨_, rfl⟩
    rw [← hT_29] at hP hD
    have hI := tI_sign (x := 59) hI
    rw [← hT_29] at hI
    refine lv_aload_n hx hb dX5_readsOrder_195 rfl (lv_at hl 1 rfl) ?_
    refine va_get (D := D) (ci := 5) (v := .int (T_29.1 4)) (C := RX5) (T := TX5) (N := 14) hx hb hts inX5 hown hK hP 0 rfl rfl 8 (by decide) (hts (.fieldLink RX5 180 "PumpOathsModel" "wrong" "I") (List.mem_of_getElem? (i := 5) rfl)) (fun _ h9 => h9) rfl dX5_readsOrder_196 ?_
    refine lv_iconst (v := (-1)) hx hb dX5_readsOrder_199 (by decide) ?_
    refine lv_icmp_ne (tgt := 236) hx hb dX5_readsOrder_200 (by decide) (fun c_200_29 => ?_) (fun c_200_29 => ?_)
    · have c_200_29 : ¬ (T_29.1 4) = (-1) := c_200_29
      rw [hT_29] at c_200_29
      rw [hT_28] at c_200_29
      rw [hT_27] at c_200_29
      rw [hT_1] at c_200_29
      exact k_vret hx hb hr hlk hP hS dX5_readsOrder_236 (k_P (congrArg (fun T9 => moW q cI cJ T9) (show T_29 = (A_X5_readsOrder_s0 M od) from by rw [hT_29, hT_28, hT_27, hT_1, A_X5_readsOrder_s0, if_neg c_26_1, if_neg c_26_10, if_neg c_26_16, if_pos c_26_25, if_neg c_200_29])))
    · have c_200_29 : (T_29.1 4) = (-1) := c_200_29
      refine lv_aload_n hx hb dX5_readsOrder_203 rfl (lv_at hl 1 rfl) ?_
      refine va_get (D := D) (ci := 5) (v := .ref (q 5)) (C := RX5) (T := TX5) (N := 14) hx hb hts inX5 hown hK hP 0 rfl rfl 11 (by decide) (hts (.fieldLink RX5 23 "PumpOathsModel" "whats" "[I") (List.mem_of_getElem? (i := 6) rfl)) (fun _ h9 => h9) rfl dX5_readsOrder_204 ?_
      refine lv_aload_n hx hb dX5_readsOrder_207 rfl (lv_at hl 1 rfl) ?_
      refine va_get (D := D) (ci := 5) (v := .int (T_29.1 6)) (C := RX5) (T := TX5) (N := 14) hx hb hts inX5 hown hK hP 0 rfl rfl 10 (by decide) (hts (.fieldLink RX5 196 "PumpOathsModel" "orders" "I") (List.mem_of_getElem? (i := 2) rfl)) (fun _ h9 => h9) rfl dX5_readsOrder_208 ?_
      refine lv_iload_n hx hb dX5_readsOrder_211 rfl (lv_at hl 0 rfl) ?_
      refine va_iast (f := T_29.2.2 1) hx hb hK hP hD hS 5 0 rfl rfl (k_in (k := od) (hI.2.1.trans hod) (by omega) (by decide)) dX5_readsOrder_212 (fun H locs hP hD hS => ?_)
      rw [show (T_29.1 6 : Int32).toNatClampNeg = od from k_cl (hI.2.1.trans hod) (by omega)] at hP hD
      have hP : va_P D vwCl (moW q cI cJ (o_setA T_29 1 (upd (T_29.2.2 1) od (o_look M)))) H := hP
      have hD : va_D A9 (moW q cI cJ (o_setA T_29 1 (upd (T_29.2.2 1) od (o_look M)))) := hD
      obtain ⟨T_31, hT_31⟩ : ∃ T9, T9 = upd (T_29.2.2 1) od (o_look M) := ⟨_, rfl⟩
      rw [← hT_31] at hP hD
      refine lv_aload_n hx hb dX5_readsOrder_213 rfl (lv_at hl 1 rfl) ?_
      refine va_get (D := D) (ci := 5) (v := .ref (q 7)) (C := RX5) (T := TX5) (N := 14) hx hb hts inX5 hown hK hP 0 rfl rfl 13 (by decide) (hts (.fieldLink RX5 29 "PumpOathsModel" "seconds" "[I") (List.mem_of_getElem? (i := 7) rfl)) (fun _ h9 => h9) rfl dX5_readsOrder_214 ?_
      refine lv_aload_n hx hb dX5_readsOrder_217 rfl (lv_at hl 1 rfl) ?_
      refine va_get (D := D) (ci := 5) (v := .int (T_29.1 6)) (C := RX5) (T := TX5) (N := 14) hx hb hts inX5 hown hK hP 0 rfl rfl 10 (by decide) (hts (.fieldLink RX5 196 "PumpOathsModel" "orders" "I") (List.mem_of_getElem? (i := 2) rfl)) (fun _ h9 => h9) rfl dX5_readsOrder_218 ?_
      refine lv_aload_n hx hb dX5_readsOrder_221 rfl (lv_at hl 1 rfl) ?_
      refine va_get (D := D) (ci := 5) (v := .int (T_29.1 5)) (C := RX5) (T := TX5) (N := 14) hx hb hts inX5 hown hK hP 0 rfl rfl 9 (by decide) (hts (.fieldLink RX5 186 "PumpOathsModel" "number" "I") (List.mem_of_getElem? (i := 4) rfl)) (fun _ h9 => h9) rfl dX5_readsOrder_222 ?_
      refine va_iast (f := T_29.2.2 3) hx hb hK hP hD hS 7 0 rfl rfl (k_in (k := od) (hI.2.1.trans hod) (by omega) (by decide)) dX5_readsOrder_225 (fun H locs hP hD hS => ?_)
      rw [show (T_29.1 6 : Int32).toNatClampNeg = od from k_cl (hI.2.1.trans hod) (by omega)] at hP hD
      have hP : va_P D vwCl (moW q cI cJ (o_setA (o_setA T_29 1 T_31) 3 (upd (T_29.2.2 3) od (T_29.1 5)))) H := hP
      have hD : va_D A9 (moW q cI cJ (o_setA (o_setA T_29 1 T_31) 3 (upd (T_29.2.2 3) od (T_29.1 5)))) := hD
      obtain ⟨T_32, hT_32⟩ : ∃ T9, T9 = upd (T_29.2.2 3) od (T_29.1 5) := ⟨_, rfl⟩
      rw [← hT_32] at hP hD
      refine lv_aload_n hx hb dX5_readsOrder_226 rfl (lv_at hl 1 rfl) ?_
      refine lv_dup hx hb dX5_readsOrder_227 rfl ?_
      refine va_get (D := D) (ci := 5) (v := .int (T_29.1 6)) (C := RX5) (T := TX5) (N := 14) hx hb hts inX5 hown hK hP 0 rfl rfl 10 (by decide) (hts (.fieldLink RX5 196 "PumpOathsModel" "orders" "I") (List.mem_of_getElem? (i := 2) rfl)) (fun _ h9 => h9) rfl dX5_readsOrder_228 ?_
      refine lv_iconst (v := 1) hx hb dX5_readsOrder_231 (by decide) ?_
      refine lv_iadd hx hb dX5_readsOrder_232 ?_
      refine va_put (D := D) (ci := 5) (v := .int ((T_29.1 6) + 1)) (ty := .int) (C := RX5) (T := TX5) (N := 14) hx hb hts inX5 tyX5 tyX5_ok nmX5 hown hK hP hD hS 0 rfl rfl 10 (by decide) (hts (.fieldLink RX5 196 "PumpOathsModel" "orders" "I") (List.mem_of_getElem? (i := 2) rfl)) (fun _ h9 => h9) rfl (by decide +kernel) rfl rfl (Nat.le_of_ble_eq_true rfl) dX5_readsOrder_233 (fun H locs hP hD hS => ?_)
      have hP : va_P D vwCl (moW q cI cJ (o_setI (o_setA (o_setA T_29 1 T_31) 3 T_32) 6 ((T_29.1 6) + 1))) H := hP
      have hD : va_D A9 (moW q cI cJ (o_setI (o_setA (o_setA T_29 1 T_31) 3 T_32) 6 ((T_29.1 6) + 1))) := hD
      rw [hT_29] at c_200_29
      rw [hT_28] at c_200_29
      rw [hT_27] at c_200_29
      rw [hT_1] at c_200_29
      exact k_vret hx hb hr hlk hP hS dX5_readsOrder_236 (k_P (congrArg (fun T9 => moW q cI cJ T9) (show (o_setI (o_setA (o_setA T_29 1 T_31) 3 T_32) 6 ((T_29.1 6) + 1)) = (A_X5_readsOrder_s0 M od) from by rw [hT_32, hT_31, hT_29, hT_28, hT_27, hT_1, A_X5_readsOrder_s0, if_neg c_26_1, if_neg c_26_10, if_neg c_26_16, if_pos c_26_25, if_pos c_200_29])))
  by_cases c_26_32 : o_look M = 121
  · refine lv_lookup (off := 97) (tgt := 123) hx hb dX5_readsOrder_26 (by decide) (by rw [c_26_32]; decide) (by decide) ?_
    refine lv_aload_n hx hb dX5_readsOrder_123 rfl (lv_at hl 1 rfl) ?_
    refine lv_iconst (v := 5) hx hb dX5_readsOrder_124 (by decide) ?_
    refine k_callv (a := []) (z := []) (wc := moW q cI cJ (o_setI (o_setA M 2 T_1) 3 ((M.1 3) + 1))) (wc' := moW q cI cJ (A_X5_digit_s0 (o_setI (o_setA M 2 T_1) 3 ((M.1 3) + 1)) 5)) (w' := moW q cI cJ (A_X5_digit_s0 (o_setI (o_setA M 2 T_1) 3 ((M.1 3) + 1)) 5)) (va_runV (As := [.int 5]) (rest := []) ⟨hx, hb, hml, hown, hts⟩ (c_X5_digit l D q cI cJ (o_setI (o_setA M 2 T_1) 3 ((M.1 3) + 1)) 5 le (hI.1.trans hle) hle1 (tB_le hI.2.2 (by decide)) _) (cwV 1 hts gX5_readsOrder_X5_digit rfl rfl rfl (by decide +kernel) ⟨Nat.le_of_ble_eq_true rfl, Nat.le_of_ble_eq_true rfl⟩) ⟨kB_blind, va_recv hK hP (ci := 5) (q0 := 0) rfl rfl, k_pre (a := []) (z := []) (k_w0 _) hK hP hD⟩ rfl rfl hl.1 rfl (lv_room (Nat.le_of_ble_eq_true rfl)) dX5_readsOrder_125 ⟨Nat.zero_le _, Nat.zero_le _⟩) (k_w0 _) (k_w0 _) (moW_ad _ _ _ _ _) hP hD hS hA (fun H locs hP hD hS => ?_)
    obtain ⟨T_34, hT_34⟩ : ∃ T9, T9 = A_X5_digit_s0 (o_setI (o_setA M 2 T_1) 3 ((M.1 3) + 1)) 5 := ⟨_, rfl⟩
    rw [← hT_34] at hP hD
    have hI := tI_digit (x := 5) hI
    rw [← hT_34] at hI
    refine lv_aload_n hx hb dX5_readsOrder_128 rfl (lv_at hl 1 rfl) ?_
    refine va_get (D := D) (ci := 5) (v := .ref (q 6)) (C := RX5) (T := TX5) (N := 14) hx hb hts inX5 hown hK hP 0 rfl rfl 12 (by decide) (hts (.fieldLink RX5 26 "PumpOathsModel" "firsts" "[I") (List.mem_of_getElem? (i := 1) rfl)) (fun _ h9 => h9) rfl dX5_readsOrder_129 ?_
    refine lv_aload_n hx hb dX5_readsOrder_132 rfl (lv_at hl 1 rfl) ?_
    refine va_get (D := D) (ci := 5) (v := .int (T_34.1 6)) (C := RX5) (T := TX5) (N := 14) hx hb hts inX5 hown hK hP 0 rfl rfl 10 (by decide) (hts (.fieldLink RX5 196 "PumpOathsModel" "orders" "I") (List.mem_of_getElem? (i := 2) rfl)) (fun _ h9 => h9) rfl dX5_readsOrder_133 ?_
    refine lv_aload_n hx hb dX5_readsOrder_136 rfl (lv_at hl 1 rfl) ?_
    refine va_get (D := D) (ci := 5) (v := .int (T_34.1 5)) (C := RX5) (T := TX5) (N := 14) hx hb hts inX5 hown hK hP 0 rfl rfl 9 (by decide) (hts (.fieldLink RX5 186 "PumpOathsModel" "number" "I") (List.mem_of_getElem? (i := 4) rfl)) (fun _ h9 => h9) rfl dX5_readsOrder_137 ?_
    refine va_iast (f := T_34.2.2 2) hx hb hK hP hD hS 6 0 rfl rfl (k_in (k := od) (hI.2.1.trans hod) (by omega) (by decide)) dX5_readsOrder_140 (fun H locs hP hD hS => ?_)
    rw [show (T_34.1 6 : Int32).toNatClampNeg = od from k_cl (hI.2.1.trans hod) (by omega)] at hP hD
    have hP : va_P D vwCl (moW q cI cJ (o_setA T_34 2 (upd (T_34.2.2 2) od (T_34.1 5)))) H := hP
    have hD : va_D A9 (moW q cI cJ (o_setA T_34 2 (upd (T_34.2.2 2) od (T_34.1 5)))) := hD
    obtain ⟨T_35, hT_35⟩ : ∃ T9, T9 = upd (T_34.2.2 2) od (T_34.1 5) := ⟨_, rfl⟩
    rw [← hT_35] at hP hD
    have hI := tI_A (j := 2) (f := T_35) hI
    refine lv_goto (tgt := 189) hx hb dX5_readsOrder_141 (by decide) ?_
    have hI := (by first | exact hI | (rw [hT_35]; exact tI_fail hI) : tI M (o_setA T_34 2 T_35) _)
    refine lv_aload_n hx hb dX5_readsOrder_189 rfl (lv_at hl 1 rfl) ?_
    refine lv_bipush (v := 59) hx hb dX5_readsOrder_190 (by decide) ?_
    refine k_callv (a := []) (z := []) (wc := moW q cI cJ (o_setA T_34 2 T_35)) (wc' := moW q cI cJ (A_X5_sign_s0 (o_setA T_34 2 T_35) 59)) (w' := moW q cI cJ (A_X5_sign_s0 (o_setA T_34 2 T_35) 59)) (va_runV (As := [.int 59]) (rest := []) ⟨hx, hb, hml, hown, hts⟩ (c_X5_sign l D q cI cJ (o_setA T_34 2 T_35) 59 le (hI.1.trans hle) hle1 (tB_le hI.2.2 (by decide)) _) (cwV 1 hts gX5_readsOrder_X5_sign rfl rfl rfl (by decide +kernel) ⟨Nat.le_of_ble_eq_true rfl, Nat.le_of_ble_eq_true rfl⟩) ⟨kB_blind, va_recv hK hP (ci := 5) (q0 := 0) rfl rfl, k_pre (a := []) (z := []) (k_w0 _) hK hP hD⟩ rfl rfl hl.1 rfl (lv_room (Nat.le_of_ble_eq_true rfl)) dX5_readsOrder_192 ⟨Nat.zero_le _, Nat.zero_le _⟩) (k_w0 _) (k_w0 _) (moW_ad _ _ _ _ _) hP hD hS hA (fun H locs hP hD hS => ?_)
    obtain ⟨T_36, hT_36⟩ : ∃ T9, T9 = A_X5_sign_s0 (o_setA T_34 2 T_35) 59 := ⟨_, rfl⟩
    rw [← hT_36] at hP hD
    have hI := tI_sign (x := 59) hI
    rw [← hT_36] at hI
    refine lv_aload_n hx hb dX5_readsOrder_195 rfl (lv_at hl 1 rfl) ?_
    refine va_get (D := D) (ci := 5) (v := .int (T_36.1 4)) (C := RX5) (T := TX5) (N := 14) hx hb hts inX5 hown hK hP 0 rfl rfl 8 (by decide) (hts (.fieldLink RX5 180 "PumpOathsModel" "wrong" "I") (List.mem_of_getElem? (i := 5) rfl)) (fun _ h9 => h9) rfl dX5_readsOrder_196 ?_
    refine lv_iconst (v := (-1)) hx hb dX5_readsOrder_199 (by decide) ?_
    refine lv_icmp_ne (tgt := 236) hx hb dX5_readsOrder_200 (by decide) (fun c_200_36 => ?_) (fun c_200_36 => ?_)
    · have c_200_36 : ¬ (T_36.1 4) = (-1) := c_200_36
      rw [hT_36] at c_200_36
      rw [hT_35] at c_200_36
      rw [hT_34] at c_200_36
      rw [hT_1] at c_200_36
      exact k_vret hx hb hr hlk hP hS dX5_readsOrder_236 (k_P (congrArg (fun T9 => moW q cI cJ T9) (show T_36 = (A_X5_readsOrder_s0 M od) from by rw [hT_36, hT_35, hT_34, hT_1, A_X5_readsOrder_s0, if_neg c_26_1, if_neg c_26_10, if_neg c_26_16, if_neg c_26_25, if_pos c_26_32, if_neg c_200_36])))
    · have c_200_36 : (T_36.1 4) = (-1) := c_200_36
      refine lv_aload_n hx hb dX5_readsOrder_203 rfl (lv_at hl 1 rfl) ?_
      refine va_get (D := D) (ci := 5) (v := .ref (q 5)) (C := RX5) (T := TX5) (N := 14) hx hb hts inX5 hown hK hP 0 rfl rfl 11 (by decide) (hts (.fieldLink RX5 23 "PumpOathsModel" "whats" "[I") (List.mem_of_getElem? (i := 6) rfl)) (fun _ h9 => h9) rfl dX5_readsOrder_204 ?_
      refine lv_aload_n hx hb dX5_readsOrder_207 rfl (lv_at hl 1 rfl) ?_
      refine va_get (D := D) (ci := 5) (v := .int (T_36.1 6)) (C := RX5) (T := TX5) (N := 14) hx hb hts inX5 hown hK hP 0 rfl rfl 10 (by decide) (hts (.fieldLink RX5 196 "PumpOathsModel" "orders" "I") (List.mem_of_getElem? (i := 2) rfl)) (fun _ h9 => h9) rfl dX5_readsOrder_208 ?_
      refine lv_iload_n hx hb dX5_readsOrder_211 rfl (lv_at hl 0 rfl) ?_
      refine va_iast (f := T_36.2.2 1) hx hb hK hP hD hS 5 0 rfl rfl (k_in (k := od) (hI.2.1.trans hod) (by omega) (by decide)) dX5_readsOrder_212 (fun H locs hP hD hS => ?_)
      rw [show (T_36.1 6 : Int32).toNatClampNeg = od from k_cl (hI.2.1.trans hod) (by omega)] at hP hD
      have hP : va_P D vwCl (moW q cI cJ (o_setA T_36 1 (upd (T_36.2.2 1) od (o_look M)))) H := hP
      have hD : va_D A9 (moW q cI cJ (o_setA T_36 1 (upd (T_36.2.2 1) od (o_look M)))) := hD
      obtain ⟨T_38, hT_38⟩ : ∃ T9, T9 = upd (T_36.2.2 1) od (o_look M) := ⟨_, rfl⟩
      rw [← hT_38] at hP hD
      refine lv_aload_n hx hb dX5_readsOrder_213 rfl (lv_at hl 1 rfl) ?_
      refine va_get (D := D) (ci := 5) (v := .ref (q 7)) (C := RX5) (T := TX5) (N := 14) hx hb hts inX5 hown hK hP 0 rfl rfl 13 (by decide) (hts (.fieldLink RX5 29 "PumpOathsModel" "seconds" "[I") (List.mem_of_getElem? (i := 7) rfl)) (fun _ h9 => h9) rfl dX5_readsOrder_214 ?_
      refine lv_aload_n hx hb dX5_readsOrder_217 rfl (lv_at hl 1 rfl) ?_
      refine va_get (D := D) (ci := 5) (v := .int (T_36.1 6)) (C := RX5) (T := TX5) (N := 14) hx hb hts inX5 hown hK hP 0 rfl rfl 10 (by decide) (hts (.fieldLink RX5 196 "PumpOathsModel" "orders" "I") (List.mem_of_getElem? (i := 2) rfl)) (fun _ h9 => h9) rfl dX5_readsOrder_218 ?_
      refine lv_aload_n hx hb dX5_readsOrder_221 rfl (lv_at hl 1 rfl) ?_
      refine va_get (D := D) (ci := 5) (v := .int (T_36.1 5)) (C := RX5) (T := TX5) (N := 14) hx hb hts inX5 hown hK hP 0 rfl rfl 9 (by decide) (hts (.fieldLink RX5 186 "PumpOathsModel" "number" "I") (List.mem_of_getElem? (i := 4) rfl)) (fun _ h9 => h9) rfl dX5_readsOrder_222 ?_
      refine va_iast (f := T_36.2.2 3) hx hb hK hP hD hS 7 0 rfl rfl (k_in (k := od) (hI.2.1.trans hod) (by omega) (by decide)) dX5_readsOrder_225 (fun H locs hP hD hS => ?_)
      rw [show (T_36.1 6 : Int32).toNatClampNeg = od from k_cl (hI.2.1.trans hod) (by omega)] at hP hD
      have hP : va_P D vwCl (moW q cI cJ (o_setA (o_setA T_36 1 T_38) 3 (upd (T_36.2.2 3) od (T_36.1 5)))) H := hP
      have hD : va_D A9 (moW q cI cJ (o_setA (o_setA T_36 1 T_38) 3 (upd (T_36.2.2 3) od (T_36.1 5)))) := hD
      obtain ⟨T_39, hT_39⟩ : ∃ T9, T9 = upd (T_36.2.2 3) od (T_36.1 5) := ⟨_, rfl⟩
      rw [← hT_39] at hP hD
      refine lv_aload_n hx hb dX5_readsOrder_226 rfl (lv_at hl 1 rfl) ?_
      refine lv_dup hx hb dX5_readsOrder_227 rfl ?_
      refine va_get (D := D) (ci := 5) (v := .int (T_36.1 6)) (C := RX5) (T := TX5) (N := 14) hx hb hts inX5 hown hK hP 0 rfl rfl 10 (by decide) (hts (.fieldLink RX5 196 "PumpOathsModel" "orders" "I") (List.mem_of_getElem? (i := 2) rfl)) (fun _ h9 => h9) rfl dX5_readsOrder_228 ?_
      refine lv_iconst (v := 1) hx hb dX5_readsOrder_231 (by decide) ?_
      refine lv_iadd hx hb dX5_readsOrder_232 ?_
      refine va_put (D := D) (ci := 5) (v := .int ((T_36.1 6) + 1)) (ty := .int) (C := RX5) (T := TX5) (N := 14) hx hb hts inX5 tyX5 tyX5_ok nmX5 hown hK hP hD hS 0 rfl rfl 10 (by decide) (hts (.fieldLink RX5 196 "PumpOathsModel" "orders" "I") (List.mem_of_getElem? (i := 2) rfl)) (fun _ h9 => h9) rfl (by decide +kernel) rfl rfl (Nat.le_of_ble_eq_true rfl) dX5_readsOrder_233 (fun H locs hP hD hS => ?_)
      have hP : va_P D vwCl (moW q cI cJ (o_setI (o_setA (o_setA T_36 1 T_38) 3 T_39) 6 ((T_36.1 6) + 1))) H := hP
      have hD : va_D A9 (moW q cI cJ (o_setI (o_setA (o_setA T_36 1 T_38) 3 T_39) 6 ((T_36.1 6) + 1))) := hD
      rw [hT_36] at c_200_36
      rw [hT_35] at c_200_36
      rw [hT_34] at c_200_36
      rw [hT_1] at c_200_36
      exact k_vret hx hb hr hlk hP hS dX5_readsOrder_236 (k_P (congrArg (fun T9 => moW q cI cJ T9) (show (o_setI (o_setA (o_setA T_36 1 T_38) 3 T_39) 6 ((T_36.1 6) + 1)) = (A_X5_readsOrder_s0 M od) from by rw [hT_39, hT_38, hT_36, hT_35, hT_34, hT_1, A_X5_readsOrder_s0, if_neg c_26_1, if_neg c_26_10, if_neg c_26_16, if_neg c_26_25, if_pos c_26_32, if_pos c_200_36])))
  refine lv_lookup (off := 153) (tgt := 179) hx hb dX5_readsOrder_26 (by decide) (k_look5 c_26_1 c_26_10 c_26_16 c_26_25 c_26_32) (by decide) ?_
  refine lv_aload_n hx hb dX5_readsOrder_179 rfl (lv_at hl 1 rfl) ?_
  refine lv_aload_n hx hb dX5_readsOrder_180 rfl (lv_at hl 1 rfl) ?_
  refine va_get (D := D) (ci := 5) (v := .int ((M.1 3) + 1)) (C := RX5) (T := TX5) (N := 14) hx hb hts inX5 hown hK hP 0 rfl rfl 7 (by decide) (hts (.fieldLink RX5 170 "PumpOathsModel" "at" "I") (List.mem_of_getElem? (i := 3) rfl)) (fun _ h9 => h9) rfl dX5_readsOrder_181 ?_
  refine lv_iconst (v := 1) hx hb dX5_readsOrder_184 (by decide) ?_
  refine lv_isub hx hb dX5_readsOrder_185 ?_
  refine k_callv (a := []) (z := []) (wc := moW q cI cJ (o_setI (o_setA M 2 T_1) 3 ((M.1 3) + 1))) (wc' := moW q cI cJ (o_fail (o_setI (o_setA M 2 T_1) 3 ((M.1 3) + 1)) (((M.1 3) + 1) - 1))) (w' := moW q cI cJ (o_fail (o_setI (o_setA M 2 T_1) 3 ((M.1 3) + 1)) (((M.1 3) + 1) - 1))) (va_runV (As := [.int (((M.1 3) + 1) - 1)]) (rest := []) ⟨hx, hb, hml, hown, hts⟩ (c_X5_fails l D q cI cJ (o_setI (o_setA M 2 T_1) 3 ((M.1 3) + 1)) (((M.1 3) + 1) - 1) _) (cwV 1 hts gX5_readsOrder_X5_fails rfl rfl rfl (by decide +kernel) ⟨Nat.le_of_ble_eq_true rfl, Nat.le_of_ble_eq_true rfl⟩) ⟨kB_blind, va_recv hK hP (ci := 5) (q0 := 0) rfl rfl, k_pre (a := []) (z := []) (k_w0 _) hK hP hD⟩ rfl rfl hl.1 rfl (lv_room (Nat.le_of_ble_eq_true rfl)) dX5_readsOrder_186 ⟨Nat.zero_le _, Nat.zero_le _⟩) (k_w0 _) (k_w0 _) (moW_ad _ _ _ _ _) hP hD hS hA (fun H locs hP hD hS => ?_)
  obtain ⟨T_40, hT_40⟩ : ∃ T9, T9 = o_fail (o_setI (o_setA M 2 T_1) 3 ((M.1 3) + 1)) (((M.1 3) + 1) - 1) := ⟨_, rfl⟩
  rw [← hT_40] at hP hD
  have hI := (by first | exact hI | (rw [hT_40]; exact tI_fail hI) : tI M T_40 _)
  refine lv_aload_n hx hb dX5_readsOrder_189 rfl (lv_at hl 1 rfl) ?_
  refine lv_bipush (v := 59) hx hb dX5_readsOrder_190 (by decide) ?_
  refine k_callv (a := []) (z := []) (wc := moW q cI cJ T_40) (wc' := moW q cI cJ (A_X5_sign_s0 T_40 59)) (w' := moW q cI cJ (A_X5_sign_s0 T_40 59)) (va_runV (As := [.int 59]) (rest := []) ⟨hx, hb, hml, hown, hts⟩ (c_X5_sign l D q cI cJ T_40 59 le (hI.1.trans hle) hle1 (tB_le hI.2.2 (by decide)) _) (cwV 1 hts gX5_readsOrder_X5_sign rfl rfl rfl (by decide +kernel) ⟨Nat.le_of_ble_eq_true rfl, Nat.le_of_ble_eq_true rfl⟩) ⟨kB_blind, va_recv hK hP (ci := 5) (q0 := 0) rfl rfl, k_pre (a := []) (z := []) (k_w0 _) hK hP hD⟩ rfl rfl hl.1 rfl (lv_room (Nat.le_of_ble_eq_true rfl)) dX5_readsOrder_192 ⟨Nat.zero_le _, Nat.zero_le _⟩) (k_w0 _) (k_w0 _) (moW_ad _ _ _ _ _) hP hD hS hA (fun H locs hP hD hS => ?_)
  obtain ⟨T_41, hT_41⟩ : ∃ T9, T9 = A_X5_sign_s0 T_40 59 := ⟨_, rfl⟩
  rw [← hT_41] at hP hD
  have hI := tI_sign (x := 59) hI
  rw [← hT_41] at hI
  refine lv_aload_n hx hb dX5_readsOrder_195 rfl (lv_at hl 1 rfl) ?_
  refine va_get (D := D) (ci := 5) (v := .int (T_41.1 4)) (C := RX5) (T := TX5) (N := 14) hx hb hts inX5 hown hK hP 0 rfl rfl 8 (by decide) (hts (.fieldLink RX5 180 "PumpOathsModel" "wrong" "I") (List.mem_of_getElem? (i := 5) rfl)) (fun _ h9 => h9) rfl dX5_readsOrder_196 ?_
  refine lv_iconst (v := (-1)) hx hb dX5_readsOrder_199 (by decide) ?_
  refine lv_icmp_ne (tgt := 236) hx hb dX5_readsOrder_200 (by decide) (fun c_200_41 => ?_) (fun c_200_41 => ?_)
  · have c_200_41 : ¬ (T_41.1 4) = (-1) := c_200_41
    rw [hT_41] at c_200_41
    rw [hT_40] at c_200_41
    rw [hT_1] at c_200_41
    exact k_vret hx hb hr hlk hP hS dX5_readsOrder_236 (k_P (congrArg (fun T9 => moW q cI cJ T9) (show T_41 = (A_X5_readsOrder_s0 M od) from by rw [hT_41, hT_40, hT_1, A_X5_readsOrder_s0, if_neg c_26_1, if_neg c_26_10, if_neg c_26_16, if_neg c_26_25, if_neg c_26_32, if_neg c_200_41])))
  · have c_200_41 : (T_41.1 4) = (-1) := c_200_41
    refine lv_aload_n hx hb dX5_readsOrder_203 rfl (lv_at hl 1 rfl) ?_
    refine va_get (D := D) (ci := 5) (v := .ref (q 5)) (C := RX5) (T := TX5) (N := 14) hx hb hts inX5 hown hK hP 0 rfl rfl 11 (by decide) (hts (.fieldLink RX5 23 "PumpOathsModel" "whats" "[I") (List.mem_of_getElem? (i := 6) rfl)) (fun _ h9 => h9) rfl dX5_readsOrder_204 ?_
    refine lv_aload_n hx hb dX5_readsOrder_207 rfl (lv_at hl 1 rfl) ?_
    refine va_get (D := D) (ci := 5) (v := .int (T_41.1 6)) (C := RX5) (T := TX5) (N := 14) hx hb hts inX5 hown hK hP 0 rfl rfl 10 (by decide) (hts (.fieldLink RX5 196 "PumpOathsModel" "orders" "I") (List.mem_of_getElem? (i := 2) rfl)) (fun _ h9 => h9) rfl dX5_readsOrder_208 ?_
    refine lv_iload_n hx hb dX5_readsOrder_211 rfl (lv_at hl 0 rfl) ?_
    refine va_iast (f := T_41.2.2 1) hx hb hK hP hD hS 5 0 rfl rfl (k_in (k := od) (hI.2.1.trans hod) (by omega) (by decide)) dX5_readsOrder_212 (fun H locs hP hD hS => ?_)
    rw [show (T_41.1 6 : Int32).toNatClampNeg = od from k_cl (hI.2.1.trans hod) (by omega)] at hP hD
    have hP : va_P D vwCl (moW q cI cJ (o_setA T_41 1 (upd (T_41.2.2 1) od (o_look M)))) H := hP
    have hD : va_D A9 (moW q cI cJ (o_setA T_41 1 (upd (T_41.2.2 1) od (o_look M)))) := hD
    obtain ⟨T_43, hT_43⟩ : ∃ T9, T9 = upd (T_41.2.2 1) od (o_look M) := ⟨_, rfl⟩
    rw [← hT_43] at hP hD
    refine lv_aload_n hx hb dX5_readsOrder_213 rfl (lv_at hl 1 rfl) ?_
    refine va_get (D := D) (ci := 5) (v := .ref (q 7)) (C := RX5) (T := TX5) (N := 14) hx hb hts inX5 hown hK hP 0 rfl rfl 13 (by decide) (hts (.fieldLink RX5 29 "PumpOathsModel" "seconds" "[I") (List.mem_of_getElem? (i := 7) rfl)) (fun _ h9 => h9) rfl dX5_readsOrder_214 ?_
    refine lv_aload_n hx hb dX5_readsOrder_217 rfl (lv_at hl 1 rfl) ?_
    refine va_get (D := D) (ci := 5) (v := .int (T_41.1 6)) (C := RX5) (T := TX5) (N := 14) hx hb hts inX5 hown hK hP 0 rfl rfl 10 (by decide) (hts (.fieldLink RX5 196 "PumpOathsModel" "orders" "I") (List.mem_of_getElem? (i := 2) rfl)) (fun _ h9 => h9) rfl dX5_readsOrder_218 ?_
    refine lv_aload_n hx hb dX5_readsOrder_221 rfl (lv_at hl 1 rfl) ?_
    refine va_get (D := D) (ci := 5) (v := .int (T_41.1 5)) (C := RX5) (T := TX5) (N := 14) hx hb hts inX5 hown hK hP 0 rfl rfl 9 (by decide) (hts (.fieldLink RX5 186 "PumpOathsModel" "number" "I") (List.mem_of_getElem? (i := 4) rfl)) (fun _ h9 => h9) rfl dX5_readsOrder_222 ?_
    refine va_iast (f := T_41.2.2 3) hx hb hK hP hD hS 7 0 rfl rfl (k_in (k := od) (hI.2.1.trans hod) (by omega) (by decide)) dX5_readsOrder_225 (fun H locs hP hD hS => ?_)
    rw [show (T_41.1 6 : Int32).toNatClampNeg = od from k_cl (hI.2.1.trans hod) (by omega)] at hP hD
    have hP : va_P D vwCl (moW q cI cJ (o_setA (o_setA T_41 1 T_43) 3 (upd (T_41.2.2 3) od (T_41.1 5)))) H := hP
    have hD : va_D A9 (moW q cI cJ (o_setA (o_setA T_41 1 T_43) 3 (upd (T_41.2.2 3) od (T_41.1 5)))) := hD
    obtain ⟨T_44, hT_44⟩ : ∃ T9, T9 = upd (T_41.2.2 3) od (T_41.1 5) := ⟨_, rfl⟩
    rw [← hT_44] at hP hD
    refine lv_aload_n hx hb dX5_readsOrder_226 rfl (lv_at hl 1 rfl) ?_
    refine lv_dup hx hb dX5_readsOrder_227 rfl ?_
    refine va_get (D := D) (ci := 5) (v := .int (T_41.1 6)) (C := RX5) (T := TX5) (N := 14) hx hb hts inX5 hown hK hP 0 rfl rfl 10 (by decide) (hts (.fieldLink RX5 196 "PumpOathsModel" "orders" "I") (List.mem_of_getElem? (i := 2) rfl)) (fun _ h9 => h9) rfl dX5_readsOrder_228 ?_
    refine lv_iconst (v := 1) hx hb dX5_readsOrder_231 (by decide) ?_
    refine lv_iadd hx hb dX5_readsOrder_232 ?_
    refine va_put (D := D) (ci := 5) (v := .int ((T_41.1 6) + 1)) (ty := .int) (C := RX5) (T := TX5) (N := 14) hx hb hts inX5 tyX5 tyX5_ok nmX5 hown hK hP hD hS 0 rfl rfl 10 (by decide) (hts (.fieldLink RX5 196 "PumpOathsModel" "orders" "I") (List.mem_of_getElem? (i := 2) rfl)) (fun _ h9 => h9) rfl (by decide +kernel) rfl rfl (Nat.le_of_ble_eq_true rfl) dX5_readsOrder_233 (fun H locs hP hD hS => ?_)
    have hP : va_P D vwCl (moW q cI cJ (o_setI (o_setA (o_setA T_41 1 T_43) 3 T_44) 6 ((T_41.1 6) + 1))) H := hP
    have hD : va_D A9 (moW q cI cJ (o_setI (o_setA (o_setA T_41 1 T_43) 3 T_44) 6 ((T_41.1 6) + 1))) := hD
    rw [hT_41] at c_200_41
    rw [hT_40] at c_200_41
    rw [hT_1] at c_200_41
    exact k_vret hx hb hr hlk hP hS dX5_readsOrder_236 (k_P (congrArg (fun T9 => moW q cI cJ T9) (show (o_setI (o_setA (o_setA T_41 1 T_43) 3 T_44) 6 ((T_41.1 6) + 1)) = (A_X5_readsOrder_s0 M od) from by rw [hT_44, hT_43, hT_41, hT_40, hT_1, A_X5_readsOrder_s0, if_neg c_26_1, if_neg c_26_10, if_neg c_26_16, if_neg c_26_25, if_neg c_26_32, if_pos c_200_41])))
