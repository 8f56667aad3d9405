/-! full copies of rows; a switch's other cases -/
theorem k_arr {cA : ClassId} {n : Nat} {f g : Nat → Value} (h : ∀ j, j < n → f j = g j) : arrV cA n f = arrV cA n g := by
  unfold arrV
  congr 1
  exact congrArg Array.ofFn (funext fun j => h j.val j.isLt)
theorem k_setP {D : va_G} {ws : va_W} {i : Nat} {x y : Nat × va_E} {H : Heap} (h : va_at D vwCl x H → va_at D vwCl y H) (hP : va_P D vwCl (ws.set i x) H) : va_P D vwCl (ws.set i y) H := by
  intro k q hk
  rw [List.getElem?_set] at hk
  have h1 := hP k
  rw [List.getElem?_set] at h1
  by_cases e : i = k
  · subst e
    rw [if_pos rfl] at hk h1
    by_cases hl : i < ws.length
    · rw [if_pos hl] at hk h1
      cases hk
      exact h (h1 x rfl)
    · rw [if_neg hl] at hk; cases hk
  · rw [if_neg e] at hk h1
    exact h1 q hk
theorem k_setD {A : Nat → Prop} {ws : va_W} {i a : Nat} {x y : va_E} (hD : va_D A (ws.set i (a, x))) : va_D A (ws.set i (a, y)) := k_D (by simp [List.map_set]) hD
theorem k_cpi {D : va_G} {a : Nat} {c : ClassId} {N : Nat} {f g : Nat → Int32} {n : Int32} {H : Heap} (hn : n.toNatClampNeg = N) (h : va_at D vwCl (a, .inl (c, N, .inl (va_cpy f g (0 : Int32).toNatClampNeg (0 : Int32).toNatClampNeg n.toNatClampNeg))) H) : va_at D vwCl (a, .inl (c, N, .inl f)) H := by
  have e : vp_cell c (N, .inl (va_cpy f g (0 : Int32).toNatClampNeg (0 : Int32).toNatClampNeg n.toNatClampNeg)) = vp_cell c (N, .inl f) := by
    rw [vp_cell_i, vp_cell_i, hn]
    refine k_arr (fun j hj => ?_)
    rw [show (0 : Int32).toNatClampNeg = 0 from rfl, pk_cpy_in (Nat.zero_le _) (by omega)]
    simp
  show H[a]? = some (vp_cell c (N, .inl f))
  rw [← e]
  exact h
theorem k_cpl {D : va_G} {a : Nat} {c : ClassId} {N : Nat} {f g : Nat → Int64} {n : Int32} {H : Heap} (hn : n.toNatClampNeg = N) (h : va_at D vwCl (a, .inl (c, N, .inr (.inl (va_cpy f g (0 : Int32).toNatClampNeg (0 : Int32).toNatClampNeg n.toNatClampNeg)))) H) : va_at D vwCl (a, .inl (c, N, .inr (.inl f))) H := by
  have e : vp_cell c (N, .inr (.inl (va_cpy f g (0 : Int32).toNatClampNeg (0 : Int32).toNatClampNeg n.toNatClampNeg))) = vp_cell c (N, .inr (.inl f)) := by
    rw [vp_cell_l, vp_cell_l, hn]
    refine k_arr (fun j hj => ?_)
    rw [show (0 : Int32).toNatClampNeg = 0 from rfl, pk_cpy_in (Nat.zero_le _) (by omega)]
    simp
  show H[a]? = some (vp_cell c (N, .inr (.inl f)))
  rw [← e]
  exact h
section KCP
variable {p : Program} {l : Launch} {e : Env} {R : Room} {s : State} {m : MethodId} {args : Array Value} {below : List Frame} {meth : Method} {c : Code} {H : Heap} {locs : List Loc} {cells slots : Nat} {Q : State → Prop}
variable {cc : ByteArray} {pc : Nat} {ls : Array Slot} {rest : List Value} {D : va_G} {A : Nat → Prop} {a : Nat} {tys : va_Ty} {ws : va_W} {H0 : Heap}
theorem k_copyi (hexec : p.tables.exec = Jvm.exec) (hb : c.code = cc) (hml : c.maxLocals = ls.size) {own : String} {index : Nat} (hown : s.vm.findClass own = some m.cls) (hlink : (Cond.methodLink own index arraycopyName).before args s = true) (hnat : (Cond.native arraycopyName).before args s = true) (hstat : (Cond.static arraycopyName).before args s = true) (hini : (Cond.initialized "java/lang/System").before args s = true)
    (hK : va_K D vwCl tys s) (hP : va_P D vwCl ws H) (hD : va_D A ws) (hS : va_S A H0 H locs) (q0 q1 t0 t1 : Nat) {a0 : Nat} {c0 c1 : ClassId} {N : Nat} {f g : Nat → Int32} (ha0 : ws[q0]? = some (a0, .inl (c0, N, .inl f))) (ha1 : ws[q1]? = some (a, .inl (c1, N, .inl g))) (ht0 : tys[t0]? = some (c0, .int)) (ht1 : tys[t1]? = some (c1, .int))
    {n : Int32} (h3 : ¬ n < 0) (hN : n.toNatClampNeg = N)
    (hframes : 1 ≤ R.frames) (hlocals : (rest.map fun v => v.category).sum + (nativeFrameWords "java/lang/System" "arraycopy" 5 + 11) ≤ R.locals) (hdg : decode cc pc = .ok (.invokestatic index, 3))
    (kk : ∀ (H1 : Heap) (locs1 : List Loc), va_P D vwCl (ws.set q1 (a, .inl (c1, N, .inl f))) H1 → va_D A (ws.set q1 (a, .inl (c1, N, .inl f))) → va_S A H0 H1 locs1 → W p l e R s m args below meth c H1 locs1 cells slots Q (F0 m (pc + 3) ls rest)) : W p l e R s m args below meth c H locs cells slots Q (F0 m pc ls (.int n :: .int 0 :: .ref a :: .int 0 :: .ref a0 :: rest)) :=
  va_copyi hexec hb hml hown hlink hnat hstat hini hK hP hD hS q0 q1 t0 t1 ha0 ha1 ht0 ht1 rfl (by decide) (by decide) h3 (by rw [hN]; simp) (by rw [hN]; simp) (fun _ _ => rfl) hframes hlocals hdg (fun H1 locs1 hP hD hS => kk H1 locs1 (k_setP (k_cpi hN) hP) (k_setD hD) hS)
theorem k_copyl (hexec : p.tables.exec = Jvm.exec) (hb : c.code = cc) (hml : c.maxLocals = ls.size) {own : String} {index : Nat} (hown : s.vm.findClass own = some m.cls) (hlink : (Cond.methodLink own index arraycopyName).before args s = true) (hnat : (Cond.native arraycopyName).before args s = true) (hstat : (Cond.static arraycopyName).before args s = true) (hini : (Cond.initialized "java/lang/System").before args s = true)
    (hK : va_K D vwCl tys s) (hP : va_P D vwCl ws H) (hD : va_D A ws) (hS : va_S A H0 H locs) (q0 q1 t0 t1 : Nat) {a0 : Nat} {c0 c1 : ClassId} {N : Nat} {f g : Nat → Int64} (ha0 : ws[q0]? = some (a0, .inl (c0, N, .inr (.inl f)))) (ha1 : ws[q1]? = some (a, .inl (c1, N, .inr (.inl g)))) (ht0 : tys[t0]? = some (c0, .long)) (ht1 : tys[t1]? = some (c1, .long))
    {n : Int32} (h3 : ¬ n < 0) (hN : n.toNatClampNeg = N)
    (hframes : 1 ≤ R.frames) (hlocals : (rest.map fun v => v.category).sum + (nativeFrameWords "java/lang/System" "arraycopy" 5 + 11) ≤ R.locals) (hdg : decode cc pc = .ok (.invokestatic index, 3))
    (kk : ∀ (H1 : Heap) (locs1 : List Loc), va_P D vwCl (ws.set q1 (a, .inl (c1, N, .inr (.inl f)))) H1 → va_D A (ws.set q1 (a, .inl (c1, N, .inr (.inl f)))) → va_S A H0 H1 locs1 → W p l e R s m args below meth c H1 locs1 cells slots Q (F0 m (pc + 3) ls rest)) : W p l e R s m args below meth c H locs cells slots Q (F0 m pc ls (.int n :: .int 0 :: .ref a :: .int 0 :: .ref a0 :: rest)) :=
  va_copyl hexec hb hml hown hlink hnat hstat hini hK hP hD hS q0 q1 t0 t1 ha0 ha1 ht0 ht1 rfl (by decide) (by decide) h3 (by rw [hN]; simp) (by rw [hN]; simp) (fun _ _ => rfl) hframes hlocals hdg (fun H1 locs1 hP hD hS => kk H1 locs1 (k_setP (k_cpl hN) hP) (k_setD hD) hS)
end KCP
theorem k_ne {x : Int32} {n : Int} {v : Int32} (h : ¬ x = v) (hv : v.toInt = n) : x.toInt ≠ n := fun e => h (Int32.toInt_inj.mp (e.trans hv.symm))
theorem k_out3 {x : Int32} (h0 : ¬ x = 0) (h1 : ¬ x = 1) (h2 : ¬ x = 2) : x.toInt < 0 ∨ 2 < x.toInt := by
  have := k_ne h0 (n := 0) rfl; have := k_ne h1 (n := 1) rfl; have := k_ne h2 (n := 2) rfl
  omega
theorem k_out7 {x : Int32} (h0 : ¬ x = 0) (h1 : ¬ x = 1) (h2 : ¬ x = 2) (h3 : ¬ x = 3) (h4 : ¬ x = 4) (h5 : ¬ x = 5) (h6 : ¬ x = 6) : x.toInt < 0 ∨ 6 < x.toInt := by
  have := k_ne h0 (n := 0) rfl; have := k_ne h1 (n := 1) rfl; have := k_ne h2 (n := 2) rfl; have := k_ne h3 (n := 3) rfl; have := k_ne h4 (n := 4) rfl; have := k_ne h5 (n := 5) rfl; have := k_ne h6 (n := 6) rfl
  omega
theorem k_out13 {x : Int32} (h0 : ¬ x = 0) (h1 : ¬ x = 1) (h2 : ¬ x = 2) (h3 : ¬ x = 3) (h4 : ¬ x = 4) (h5 : ¬ x = 5) (h6 : ¬ x = 6) (h7 : ¬ x = 7) (h8 : ¬ x = 8) (h9 : ¬ x = 9) (h10 : ¬ x = 10) (h11 : ¬ x = 11) (h12 : ¬ x = 12) : x.toInt < 0 ∨ 12 < x.toInt := by
  have := k_ne h0 (n := 0) rfl; have := k_ne h1 (n := 1) rfl; have := k_ne h2 (n := 2) rfl; have := k_ne h3 (n := 3) rfl; have := k_ne h4 (n := 4) rfl; have := k_ne h5 (n := 5) rfl; have := k_ne h6 (n := 6) rfl
  have := k_ne h7 (n := 7) rfl; have := k_ne h8 (n := 8) rfl; have := k_ne h9 (n := 9) rfl; have := k_ne h10 (n := 10) rfl; have := k_ne h11 (n := 11) rfl; have := k_ne h12 (n := 12) rfl
  omega
theorem k_ext {p : Nat → Prop} {k : Nat} (h : ∀ j, j < k → p j) (hk : p k) : ∀ j, j < k + 1 → p j := fun j hj => by
  rcases Nat.lt_or_ge j k with q | q
  · exact h j q
  · have e : j = k := by omega
    subst e
    exact hk
