/-! THE LAW'S ENTRY: what the Statement gives of the start -/
theorem lw_exact {args : Array Value} {s : State} {t : Term} {cls : String} (h : (Cond.exactly t cls).before args s = true) : ∃ a : Nat, t.eval args s none [] s = some (.ref a) := by
  obtain ⟨a, q0, cell, k, ha, -⟩ := Cond.exactly_spec h
  exact ⟨a, ha⟩
theorem lw_inDec : ∀ y ∈ kDec, Cond.declares y ∈ lw_tbl := by decide +kernel
theorem lw_inStr : ∀ q ∈ kStr, Cond.stringRef RX4 q.1 q.2 ∈ lw_tbl := by decide +kernel
theorem lw_inCast : ∀ X ∈ ["java/lang/IllegalArgumentException", "java/lang/IllegalStateException", "java/lang/IndexOutOfBoundsException"], Cond.castable X X ∈ lw_tbl := by decide +kernel
theorem lw_inEx : ∀ q ∈ kStr, Cond.exactly (.string RX4 q.1) "java/lang/String" ∈ flatC (Jvm.Cond.and given_1 narrow_1) := by decide +kernel
theorem lw_row {args : Array Value} {s : State} (n : String) (f : Nat → Int32) (hts : ∀ w ∈ lw_tbl, w.before args s = true) (h0 : Cond.laysStatic RX3 n "[I" ∈ lw_tbl) (h1 : Cond.initialized RX3 ∈ lw_tbl)
    (ha : (Cond.arrayOf (.static RX3 n "[I") .int).before args s = true) (hl : (Cond.eq (.length (.static RX3 n "[I")) (.int 3)).before args s = true) (he : ∀ j : Nat, j < 3 → (Cond.eq (.elem (.static RX3 n "[I") (.int (Int32.ofNat j))) (.int (f j))).before args s = true) :
    ∃ t : Nat, va_Z RX3 n "[I" (.ref t) (A0 s) s s.heap ∧ va_T .int t 3 (fun j => .int (f j)) (A0 s) s s.heap := by
  have hA : ∀ a : Nat, a < s.heap.size → ¬ A0 s a := fun a h => Nat.not_le.mpr h
  obtain ⟨t, h2, h3⟩ := va_Tof (N := 3) (f := fun j => .int (f j)) (A := A0 s) (by decide) ha (va_eqt hl) (fun j hj => va_eqt (he j hj)) hA
  exact ⟨t, va_Zof (hts _ h0) (hts _ h1) h2 hA, h3⟩
theorem lw_kT {p : Program} {s : State} {m : MethodId} {meth : Method} {c : Code} {b L : Nat} {xs : Nat → Int32} (C0 : lw_At p s m meth c b L xs) : kT (A0 s) s := by
  obtain ⟨hx, hb, hr, hml, hown, hts, hX, hbl, hlk, hgv⟩ := C0
  have hs := flat_of_before _ hgv
  have hA : ∀ a : Nat, a < s.heap.size → ¬ A0 s a := fun a h => Nat.not_le.mpr h
  refine ⟨fun y hy => va_Nw.of rfl (hts _ (lw_inDec y hy)), fun q hq => ?_, fun X hX => va_Nw.of rfl (hts _ (lw_inCast X hX)), ?_, ?_, ?_, ?_⟩
  · obtain ⟨a, ha⟩ := lw_exact (hs _ (lw_inEx q hq))
    exact ⟨a, vk_R.of (hts _ (lw_inStr q hq)) ha⟩
  · exact vx_Zqof (hts (.laysStatic Bundle.tN "UNASSIGNED_STACK" Bundle.steD) (by decide +kernel)) (hts (.initialized Bundle.tN) (by decide +kernel)) (hs (.isRef (.static Bundle.tN "UNASSIGNED_STACK" Bundle.steD)) (by decide +kernel)) hA
  · exact vx_Zqof (hts (.laysStatic Bundle.tN "SUPPRESSED_SENTINEL" Bundle.listD) (by decide +kernel)) (hts (.initialized Bundle.tN) (by decide +kernel)) (hs (.isRef (.static Bundle.tN "SUPPRESSED_SENTINEL" Bundle.listD)) (by decide +kernel)) hA
  · refine lw_row "LEAST_SETTING" c_least hts (by decide +kernel) (by decide +kernel) (hs _ (by decide +kernel)) (hs _ (by decide +kernel)) (fun j hj => ?_)
    match j, hj with
    | 0, _ => exact hs (.eq (.elem (.static RX3 "LEAST_SETTING" "[I") (.int 0)) (.int 1)) (by decide +kernel)
    | 1, _ => exact hs (.eq (.elem (.static RX3 "LEAST_SETTING" "[I") (.int 1)) (.int 0)) (by decide +kernel)
    | 2, _ => exact hs (.eq (.elem (.static RX3 "LEAST_SETTING" "[I") (.int 2)) (.int 0)) (by decide +kernel)
    | k + 3, h => omega
  · refine lw_row "GREATEST_SETTING" c_most hts (by decide +kernel) (by decide +kernel) (hs _ (by decide +kernel)) (hs _ (by decide +kernel)) (fun j hj => ?_)
    match j, hj with
    | 0, _ => exact hs (.eq (.elem (.static RX3 "GREATEST_SETTING" "[I") (.int 0)) (.int 5000)) (by decide +kernel)
    | 1, _ => exact hs (.eq (.elem (.static RX3 "GREATEST_SETTING" "[I") (.int 1)) (.int 100)) (by decide +kernel)
    | 2, _ => exact hs (.eq (.elem (.static RX3 "GREATEST_SETTING" "[I") (.int 2)) (.int 1)) (by decide +kernel)
    | k + 3, h => omega
theorem lw_kN3 {p : Program} {s : State} {m : MethodId} {meth : Method} {c : Code} {b L : Nat} {xs : Nat → Int32} (C0 : lw_At p s m meth c b L xs) : kN3 s := by
  obtain ⟨hx, hb, hr, hml, hown, hts, hX, hbl, hlk, hgv⟩ := C0
  have hs := flat_of_before _ hgv
  exact ⟨va_Nc.of (hs (.not (.castable ise iae)) (by decide +kernel)), va_Nc.of (hs (.not (.castable iae iob)) (by decide +kernel)), va_Nc.of (hs (.not (.castable ise iob)) (by decide +kernel))⟩
theorem lw_arr {args : Array Value} {s : State} {ty : FieldType} (hty : ty = .int ∨ ty = .long) (h : (Cond.arrayClass ty).before args s = true) : ∃ cA : ClassId, ArrOfT s cA ty ∧ va_RA s cA ty := by
  obtain ⟨cA, kA, comp, h1, h2, h3⟩ := Cond.arrayClass_spec h
  refine ⟨cA, fun n z => ⟨fun k h => (by cases h), kA, h2, comp, h3⟩, ?_⟩
  rcases hty with rfl | rfl
  · exact h1
  · exact h1
theorem lw_K {p : Program} {s : State} {m : MethodId} {meth : Method} {c : Code} {b L : Nat} {xs : Nat → Int32} (C0 : lw_At p s m meth c b L xs) : ∃ (D : va_G) (cI cJ : ClassId), va_K D vwCl [(cI, .int), (cJ, .long)] s := by
  obtain ⟨hx, hb, hr, hml, hown, hts, hX, hbl, hlk, hgv⟩ := C0
  obtain ⟨c0, i0, k0⟩ := u_known (C := RX0) (T := TX0) (N := 2) (n := 2) hts inX0 (hts _ (wsL_law_in _ (List.mem_of_getElem? (i := 43) rfl)))
  obtain ⟨c1, i1, k1⟩ := u_known (C := RX1) (T := TX1) (N := 6) (n := 6) hts inX1 (hts _ (wsL_law_in _ (List.mem_of_getElem? (i := 21) rfl)))
  obtain ⟨c2, i2, k2⟩ := u_known (C := RX2) (T := TX2) (N := 9) (n := 9) hts inX2 (hts _ (wsL_law_in _ (List.mem_of_getElem? (i := 39) rfl)))
  obtain ⟨c3, i3, k3⟩ := u_known (C := RX3) (T := TX3) (N := 15) (n := 15) hts inX3 (hts _ (wsL_law_in _ (List.mem_of_getElem? (i := 12) rfl)))
  obtain ⟨c4, i4, k4⟩ := u_known (C := RX4) (T := TX4) (N := 8) (n := 8) hts inX4 (hts _ (wsL_law_in _ (List.mem_of_getElem? (i := 1) rfl)))
  obtain ⟨cI, aI, rI⟩ := lw_arr (ty := .int) (Or.inl rfl) (hts _ (wsL_law_in _ (List.mem_of_getElem? (i := 33) rfl)))
  obtain ⟨cJ, aJ, rJ⟩ := lw_arr (ty := .long) (Or.inr rfl) (hts _ (wsL_law_in _ (List.mem_of_getElem? (i := 36) rfl)))
  refine ⟨(fun k => [c0, c1, c2, c3, c4].getD k c0, fun k => [i0, i1, i2, i3, i4].getD k i0), cI, cJ, ?_, ?_⟩
  · intro k q hq
    match k, hq with
    | 0, hq => cases hq; exact k0
    | 1, hq => cases hq; exact k1
    | 2, hq => cases hq; exact k2
    | 3, hq => cases hq; exact k3
    | 4, hq => cases hq; exact k4
    | k + 5, hq => cases hq
  · intro k q hq
    match k, hq with
    | 0, hq => cases hq; exact ⟨aI, rI⟩
    | 1, hq => cases hq; exact ⟨aJ, rJ⟩
    | k + 2, hq => cases hq
