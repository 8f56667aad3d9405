abbrev iae : String := "java/lang/IllegalArgumentException"
abbrev ise : String := "java/lang/IllegalStateException"
abbrev iob : String := "java/lang/IndexOutOfBoundsException"
/-! HELPERS OF THE LAW: they call a method that may throw, and catch what it throws -/
def kN3 (U : State) : Prop := va_Nc ise iae U ∧ va_Nc iae iob U ∧ va_Nc ise iob U
theorem kN3_moved {u U : State} (hvm : u.vm.Alike U.vm) (h : kN3 u) : kN3 U := ⟨va_Nc.moved hvm h.1, va_Nc.moved hvm h.2.1, va_Nc.moved hvm h.2.2⟩
def kBH (D : va_G) (tys : va_Ty) (w : va_W) (sz : Nat) (U : State) : Prop := kBT D tys w sz U ∧ kN3 U
theorem kBH_blind {av : List Value} {D : va_G} {tys : va_Ty} {w : va_W} {sz : Nat} : FrameBlind (va_Pc av (kBH D tys w sz)) := fun a U g mk q => by
  obtain ⟨q0, q1, q2⟩ := q
  obtain ⟨r0, r1⟩ := kBT_blind (av := av) (D := D) (tys := tys) (w := w) (sz := sz) a U g mk ⟨q0, q1⟩
  exact ⟨r0, r1, kN3_moved (u := U) (U := U.calling g mk a) (Vm.Alike.refl U.vm) q2⟩
def kH (l : Launch) (y : MethodName) (ws : List Cond) (rm : Room) (D : va_G) (tys : va_Ty) (av : List Value) (w : va_W) (R : Int32) (w' : va_W) : Prop :=
  ∀ sz : Nat, Met l y ws rm (va_Pc av (kBH D tys w sz)) (va_Qi (fun r (_ : Unit) => r = R) (fun _ t => va_P D vwCl w' t.heap) (va_A w sz)) 1 6 (va_A w sz)
theorem k_preH {s : State} {H : Heap} {locs : List Loc} {D : va_G} {tys : va_Ty} {A : Nat → Prop} {av : List Value} {a z wc w : va_W} (hw : w = a ++ (wc ++ z)) (hK : va_K D vwCl tys s) (hP : va_P D vwCl w H) (hD : va_D A w) (hS : va_S A s.heap H locs) (hA : ∀ q : Nat, s.heap.size ≤ q → A q) (hT : kT A s) (hN : kN3 s) : ∀ U : State, U.heap = H → s.WarmedH U.vm → va_Pc av (kBH D tys wc H.size) av.toArray U := fun U hU hW => by
  obtain ⟨q0, q1⟩ := k_preT (av := av) hw hK hP hD hS hA hT U hU hW
  exact ⟨q0, q1, kN3_moved hW.alike hN⟩
def kHBody (y : MethodName) (ws : List Cond) (rm : Room) (D : va_G) (tys : va_Ty) (av : List Value) (w : va_W) (cc : ByteArray) (maxL : Nat) (ret : Option FieldType) (hh : List (Nat × Nat × Nat × Nat)) (l : Launch) (Qc : (Nat → Prop) → Array Value → State → Outcome → State → Prop) : Prop :=
  ∀ (p : Program) (e : Env) (s : State) (m : MethodId) (below : List Frame) (meth : Method) (c : Code) (A : Nat → Prop) (ls : Array Slot),
    p.tables.exec = Jvm.exec → c.code = cc → meth.sig.returnType = ret → c.maxLocals = maxL → (∀ q ∈ ws, q.before av.toArray s = true) → s.vm.findClass y.cls = some m.cls → meth.locks = false →
    va_K D vwCl tys s → va_P D vwCl w s.heap → va_D A w → (∀ q : Nat, s.heap.size ≤ q → A q) → kT A s → kN3 s → c.exceptionTable.toList = tableOf hh → lv_has ls maxL (lv_args 0 av) →
    W p l e rm s m av.toArray below meth c s.heap [] 0 0 (MQ below (Qc A) av.toArray s 1 6 A) (F0 m 0 ls [])
theorem kHBody.met {y : MethodName} {ws ws' : List Cond} {rm : Room} {D : va_G} {tys : va_Ty} {av : List Value} {w : va_W} {cc : ByteArray} {maxL : Nat} {ret : Option FieldType} {hh : List (Nat × Nat × Nat × Nat)} {l : Launch} {Qc : (Nat → Prop) → Array Value → State → Outcome → State → Prop} (hy : plainName y.cls = true) (hw : ws = Cond.codeWith y cc maxL ret hh :: ws') (hn : (lg_sl av).length ≤ maxL)
    (h : kHBody y ws rm D tys av w cc maxL ret hh l Qc) (sz : Nat) : Met l y ws rm (va_Pc av (kBH D tys w sz)) (Qc (va_A w sz)) 1 6 (va_A w sz) := by
  refine MetFree.of_bodyS (code := cc) (maxLocals := maxL) (ret := ret) hy ?_ ?_
  · intro args s m h hn
    obtain ⟨m9, meth, c, hn9, h1, h2, h3, h4, -, h5, h6, -⟩ := Cond.codeWith_spec (atoms_spec (ws := ws) h _ (by rw [hw]; exact List.mem_cons_self))
    cases hn.symm.trans hn9
    exact ⟨meth, c, h1, h2, h3, h4, h5, h6⟩
  · intro p e s m args below meth c s₁ B hml hv _
    have hh0 : s₁.heap = s.heap := by rw [B.state]; rfl
    obtain ⟨rfl, ⟨⟨hsz, hP, hK, hD0⟩, hT⟩, hN⟩ := hv
    have hts := atoms_spec (ws := ws) B.pre
    have htb := vx_table (x := y) B (hts _ (by rw [hw]; exact List.mem_cons_self))
    have hown : s.vm.findClass y.cls = some m.cls := findClass_of_methodNamed B.named
    subst hsz
    have hD := hD0.self (sz := s.heap.size)
    have hl := lv_entry av hn
    have K : W p l e rm s m av.toArray below meth c s.heap [] 0 0 (MQ below (Qc (va_A w s.heap.size)) av.toArray s 1 6 (va_A w s.heap.size)) (entryFrame m av.toArray maxL) := by
      rw [lg_entry_eq]
      exact h p e s m below meth c _ _ B.exec B.bytes B.returns hml hts hown B.notSynchronized hK hP hD (fun q h => Or.inr h) hT hN htb hl
    obtain ⟨t, a1, o, b1, b2, b3⟩ := K s₁ hh0 (Stand.of_body B)
    exact ⟨t, o, a1, b1, b2, ⟨b3.1, b3.2⟩⟩
/-- the number that a helper answers -/
def k_code (e1 : String) (th : Option String) : Int32 := if th = none then 0 else if th = some e1 then 1 else 2
theorem k_code_0 (e1 : String) : k_code e1 none = 0 := if_pos rfl
theorem k_code_1 (e1 : String) : k_code e1 (some e1) = 1 := (if_neg (fun h => nomatch h)).trans (if_pos rfl)
theorem k_code_2 {e1 e2 : String} (h : e2 ≠ e1) : k_code e1 (some e2) = 2 := (if_neg (fun h => nomatch h)).trans (if_neg (fun q => h (Option.some.inj q)))
section KHC
variable {p : Program} {l : Launch} {e : Env} {R : Room} {s : State} {m : MethodId} {args : Array Value} {below : List Frame} {meth : Method} {c : Code} {H : Heap} {locs : List Loc} {cells slots : Nat} {Q : State → Prop} {D : va_G} {tys : va_Ty} {cc : ByteArray} {A : Nat → Prop} {pc : Nat} {ls : Array Slot}
theorem k_hret {v r9 : Int32} {w1 w' : va_W} (h1 : cells ≤ 1) (h6 : slots ≤ 6) (hx : p.tables.exec = Jvm.exec) (hb : c.code = cc) (hr : meth.sig.returnType = some .int) (hlk : meth.locks = false) (hP : va_P D vwCl w1 H) (hS : va_S A s.heap H locs) (hdg : decode cc pc = .ok (.ireturn, 1)) (hv : v = r9) (hw : w1 = w') :
    W p l e R s m args below meth c H locs cells slots (MQ below (va_Qi (fun r (_ : Unit) => r = r9) (fun _ t => va_P D vwCl w' t.heap) A) args s 1 6 A) (F0 m pc ls [.int v]) :=
  W.widen h1 h6 (W.iret hx hb hr (fun t ht hW => ⟨⟨v, (), rfl, hv, by show va_P D vwCl w' t.heap; rw [ht, ← hw]; exact hP⟩, hS.F ht⟩) hS.2.2 hdg hlk)
theorem k_hcalli {a z wc wc' w : va_W} {r9 : Int32} {th : Option String} {st0 rest As : List Value} (hr : vx_Run p l e R s m args below meth c H locs cells slots 1 6 (F0 m pc ls st0) rest (va_Qi (fun r (_ : Unit) => th = none ∧ r = r9) (fun _ t => va_P D vwCl wc' t.heap) (va_A wc H.size) As.toArray) (vx_X (fun (_ : Unit) => True) (fun E _ t => th = some E ∧ va_P D vwCl wc t.heap) (va_A wc H.size)) (va_A wc H.size))
    (hw : w = a ++ (wc ++ z)) (hadr : wc'.map Prod.fst = wc.map Prod.fst) (hP : va_P D vwCl w H) (hD : va_D A w) (hS : va_S A s.heap H locs) (hA : ∀ q : Nat, s.heap.size ≤ q → A q)
    (kx : ∀ (E : String) (ce : Cell) (q9 : Addr) (H1 : Heap) (locs1 : List Loc), th = some E → va_P D vwCl w H1 → va_D A w → va_S A s.heap H1 locs1 → H1[q9]? = some ce → ce.vm = .none → s.vm.findClass E = some ce.cls → vx_W p l e R s m args below meth c H1 locs1 (cells + 1) (slots + 6) Q (F0 m pc ls rest) q9)
    (kk : ∀ (H1 : Heap) (locs1 : List Loc), th = none → va_P D vwCl (a ++ (wc' ++ z)) H1 → va_D A (a ++ (wc' ++ z)) → va_S A s.heap H1 locs1 → W p l e R s m args below meth c H1 locs1 (cells + 1) (slots + 6) Q (F0 m (pc + 3) ls (.int r9 :: rest))) : W p l e R s m args below meth c H locs cells slots Q (F0 m pc ls st0) := by
  have hFc := k_free hw hD hS hA
  refine vx_calli hr hS (fun q _ h => hFc q h) hFc (fun q _ h => hFc q h) (fun E ce q9 u t H1 locs1 ht hvm hpx hB hz hk hS1 hce hcv hcl => ?_) (fun r u t H1 locs1 ht hvm hv hB hz hk hS1 => ?_)
  · obtain ⟨hP1, hD1⟩ := k_back (H0 := H) hw hw rfl hP hD hk (by rw [← ht]; exact hB.2)
    exact kx E ce q9 H1 locs1 hB.1 hP1 hD1 hS1 hce hcv hcl
  · obtain ⟨hv1, rfl⟩ := hv
    obtain ⟨hP1, hD1⟩ := k_back (H0 := H) hw rfl hadr hP hD hk (by rw [← ht]; exact hB)
    exact kk H1 locs1 hv1 hP1 hD1 hS1
theorem k_hcalll {a z wc wc' w : va_W} {r9 : Int64} {th : Option String} {st0 rest As : List Value} (hr : vx_Run p l e R s m args below meth c H locs cells slots 1 6 (F0 m pc ls st0) rest (va_Ql (fun r (_ : Unit) => th = none ∧ r = r9) (fun _ t => va_P D vwCl wc' t.heap) (va_A wc H.size) As.toArray) (vx_X (fun (_ : Unit) => True) (fun E _ t => th = some E ∧ va_P D vwCl wc t.heap) (va_A wc H.size)) (va_A wc H.size))
    (hw : w = a ++ (wc ++ z)) (hadr : wc'.map Prod.fst = wc.map Prod.fst) (hP : va_P D vwCl w H) (hD : va_D A w) (hS : va_S A s.heap H locs) (hA : ∀ q : Nat, s.heap.size ≤ q → A q)
    (kx : ∀ (E : String) (ce : Cell) (q9 : Addr) (H1 : Heap) (locs1 : List Loc), th = some E → va_P D vwCl w H1 → va_D A w → va_S A s.heap H1 locs1 → H1[q9]? = some ce → ce.vm = .none → s.vm.findClass E = some ce.cls → vx_W p l e R s m args below meth c H1 locs1 (cells + 1) (slots + 6) Q (F0 m pc ls rest) q9)
    (kk : ∀ (H1 : Heap) (locs1 : List Loc), th = none → va_P D vwCl (a ++ (wc' ++ z)) H1 → va_D A (a ++ (wc' ++ z)) → va_S A s.heap H1 locs1 → W p l e R s m args below meth c H1 locs1 (cells + 1) (slots + 6) Q (F0 m (pc + 3) ls (.long r9 :: rest))) : W p l e R s m args below meth c H locs cells slots Q (F0 m pc ls st0) := by
  have hFc := k_free hw hD hS hA
  refine vx_calll hr hS (fun q _ h => hFc q h) hFc (fun q _ h => hFc q h) (fun E ce q9 u t H1 locs1 ht hvm hpx hB hz hk hS1 hce hcv hcl => ?_) (fun r u t H1 locs1 ht hvm hv hB hz hk hS1 => ?_)
  · obtain ⟨hP1, hD1⟩ := k_back (H0 := H) hw hw rfl hP hD hk (by rw [← ht]; exact hB.2)
    exact kx E ce q9 H1 locs1 hB.1 hP1 hD1 hS1 hce hcv hcl
  · obtain ⟨hv1, rfl⟩ := hv
    obtain ⟨hP1, hD1⟩ := k_back (H0 := H) hw rfl hadr hP hD hk (by rw [← ht]; exact hB)
    exact kk H1 locs1 hv1 hP1 hD1 hS1
/-- a call of a helper -/
theorem k_callH {a z wc wc' w w' : va_W} {r9 : Int32} {st0 rest As : List Value} (hr : va_Run p l e R s m args below meth c H locs cells slots 1 6 (F0 m pc ls st0) rest (va_Qi (fun r (_ : Unit) => r = r9) (fun _ t => va_P D vwCl wc' t.heap) (va_A wc H.size) As.toArray) (va_A wc H.size)) (hw : w = a ++ (wc ++ z)) (hw' : w' = a ++ (wc' ++ z)) (hadr : wc'.map Prod.fst = wc.map Prod.fst) (hP : va_P D vwCl w H) (hD : va_D A w) (hS : va_S A s.heap H locs) (hA : ∀ q : Nat, s.heap.size ≤ q → A q)
    (kk : ∀ (H1 : Heap) (locs1 : List Loc), va_P D vwCl w' H1 → va_D A w' → va_S A s.heap H1 locs1 → W p l e R s m args below meth c H1 locs1 (cells + 1) (slots + 6) Q (F0 m (pc + 3) ls (.int r9 :: rest))) : W p l e R s m args below meth c H locs cells slots Q (F0 m pc ls st0) := by
  have hFc := k_free hw hD hS hA
  refine va_calli hr hS (fun q _ h => hFc q h) hFc (fun r u t H1 locs1 ht hvm hv hB hz hk hS1 => ?_)
  subst hv
  obtain ⟨hP1, hD1⟩ := k_back (H0 := H) hw hw' hadr hP hD hk (by rw [← ht]; exact hB)
  exact kk H1 locs1 hP1 hD1 hS1
end KHC
/-- the class' world -/
abbrev poW (o : Nat) (q1 q2 q3 q4 q5 q6 qt : Nat → Nat) (cI cJ : ClassId) (S1 S2 S3 S4 S5 S6 : SS) (T : TS) (sv : Int32) : va_W :=
  poC o q1 q2 q3 q4 q5 q6 qt sv ++ (stW q1 cI cJ S1 ++ (stW q2 cI cJ S2 ++ (stW q3 cI cJ S3 ++ (stW q4 cI cJ S4 ++ (stW q5 cI cJ S5 ++ (stW q6 cI cJ S6 ++ txW qt cI T))))))
theorem poW_ad (o : Nat) (q1 q2 q3 q4 q5 q6 qt : Nat → Nat) (cI cJ : ClassId) (S1 S2 S3 S4 S5 S6 : SS) (T : TS) (sv : Int32) (S1' S2' S3' S4' S5' S6' : SS) (T' : TS) (sv' : Int32) : (poW o q1 q2 q3 q4 q5 q6 qt cI cJ S1 S2 S3 S4 S5 S6 T sv).map Prod.fst = (poW o q1 q2 q3 q4 q5 q6 qt cI cJ S1' S2' S3' S4' S5' S6' T' sv').map Prod.fst :=
  k_ad2 (poC_ad _ _ _ _ _ _ _ _ _ _) (k_ad2 (stW_ad _ _ _ _ _) (k_ad2 (stW_ad _ _ _ _ _) (k_ad2 (stW_ad _ _ _ _ _) (k_ad2 (stW_ad _ _ _ _ _) (k_ad2 (stW_ad _ _ _ _ _) (k_ad2 (stW_ad _ _ _ _ _) (txW_ad _ _ _ _)))))))
abbrev ouW (oa : Nat) (cJ : ClassId) (f : Nat → Int64) : va_W := [(oa, .inl (cJ, 1, .inr (.inl f)))]

section KCD
variable {p : Program} {l : Launch} {e : Env} {R : Room} {s : State} {m : MethodId} {args : Array Value} {below : List Frame} {meth : Method} {c : Code} {H : Heap} {locs : List Loc} {cells slots : Nat} {Q : State → Prop} {D : va_G} {A : Nat → Prop} {pc : Nat} {ls : Array Slot}
theorem k_calld {a z wc wc' w w' : va_W} {r9 : UInt64} {st0 rest As : List Value} (hr : kRunD p l e R s m args below meth c H locs cells slots D wc wc' r9 (F0 m pc ls st0) rest As) (hw : w = a ++ (wc ++ z)) (hw' : w' = a ++ (wc' ++ z)) (hadr : wc'.map Prod.fst = wc.map Prod.fst) (hP : va_P D vwCl w H) (hD : va_D A w) (hS : va_S A s.heap H locs) (hA : ∀ q : Nat, s.heap.size ≤ q → A q)
    (kk : ∀ (H1 : Heap) (locs1 : List Loc), va_P D vwCl w' H1 → va_D A w' → va_S A s.heap H1 locs1 → W p l e R s m args below meth c H1 locs1 cells slots Q (F0 m (pc + 3) ls (.double r9 :: rest))) : W p l e R s m args below meth c H locs cells slots Q (F0 m pc ls st0) := by
  have hFc := k_free hw hD hS hA
  refine va_calld hr hS (fun q _ h => hFc q h) hFc (fun r u t H1 locs1 ht hvm hv hB hz hk hS1 => ?_)
  subst hv
  obtain ⟨hP1, hD1⟩ := k_back (H0 := H) hw hw' hadr hP hD hk (by rw [← ht]; exact hB)
  exact kk H1 locs1 hP1 hD1 hS1
end KCD

/-! HELPERS OF THE LAW: bodies with a table of handlers, where nothing is thrown; the law's methods that make some cells -/
theorem kBody.metW {y : MethodName} {ws ws' : List Cond} {rm : Room} {D : va_G} {tys : va_Ty} {av : List Value} {w : va_W} {cc : ByteArray} {maxL : Nat} {ret : Option FieldType} {hh : List (Nat × Nat × Nat × Nat)} {l : Launch} {Qc : (Nat → Prop) → Array Value → State → Outcome → State → Prop} (hy : plainName y.cls = true) (hw : ws = Cond.codeWith y cc maxL ret hh :: ws') (hn : (lg_sl av).length ≤ maxL)
    (h : kBody y ws rm D tys av w cc maxL ret l Qc) (sz : Nat) : Met l y ws rm (va_Pc av (kB D tys w sz)) (Qc (va_A w sz)) 0 0 (va_A w sz) := by
  refine MetFree.of_bodyS (code := cc) (maxLocals := maxL) (ret := ret) hy ?_ ?_
  · intro args s m h hn
    obtain ⟨m9, meth, c, hn9, h1, h2, h3, h4, -, h5, h6, -⟩ := Cond.codeWith_spec (atoms_spec (ws := ws) h _ (by rw [hw]; exact List.mem_cons_self))
    cases hn.symm.trans hn9
    exact ⟨meth, c, h1, h2, h3, h4, h5, h6⟩
  · intro p e s m args below meth c s₁ B hml hv _
    have hh0 : s₁.heap = s.heap := by rw [B.state]; rfl
    obtain ⟨rfl, hsz, hP, hK, hD0⟩ := hv
    have hts := atoms_spec (ws := ws) B.pre
    have hown : s.vm.findClass y.cls = some m.cls := findClass_of_methodNamed B.named
    subst hsz
    have hD := hD0.self (sz := s.heap.size)
    have hl := lv_entry av hn
    have K : W p l e rm s m av.toArray below meth c s.heap [] 0 0 (MQ below (Qc (va_A w s.heap.size)) av.toArray s 0 0 (va_A w s.heap.size)) (entryFrame m av.toArray maxL) := by
      rw [lg_entry_eq]
      exact h p e s m below meth c _ _ B.exec B.bytes B.returns hml hts hown B.notSynchronized hK hP hD (fun q h => Or.inr h) hl
    obtain ⟨t, a1, o, b1, b2, b3⟩ := K s₁ hh0 (Stand.of_body B)
    exact ⟨t, o, a1, b1, b2, ⟨b3.1, b3.2⟩⟩
theorem kTBody.metW {y : MethodName} {ws ws' : List Cond} {rm : Room} {D : va_G} {tys : va_Ty} {av : List Value} {w : va_W} {cc : ByteArray} {maxL : Nat} {ret : Option FieldType} {hh : List (Nat × Nat × Nat × Nat)} {l : Launch} {Qc : (Nat → Prop) → Array Value → State → Outcome → State → Prop} (hy : plainName y.cls = true) (hw : ws = Cond.codeWith y cc maxL ret hh :: ws') (hn : (lg_sl av).length ≤ maxL)
    (h : kTBody y ws rm D tys av w cc maxL ret l Qc) (sz : Nat) : Met l y ws rm (va_Pc av (kBT D tys w sz)) (Qc (va_A w sz)) 0 0 (va_A w sz) := by
  refine MetFree.of_bodyS (code := cc) (maxLocals := maxL) (ret := ret) hy ?_ ?_
  · intro args s m h hn
    obtain ⟨m9, meth, c, hn9, h1, h2, h3, h4, -, h5, h6, -⟩ := Cond.codeWith_spec (atoms_spec (ws := ws) h _ (by rw [hw]; exact List.mem_cons_self))
    cases hn.symm.trans hn9
    exact ⟨meth, c, h1, h2, h3, h4, h5, h6⟩
  · intro p e s m args below meth c s₁ B hml hv _
    have hh0 : s₁.heap = s.heap := by rw [B.state]; rfl
    obtain ⟨rfl, ⟨hsz, hP, hK, hD0⟩, hT⟩ := hv
    have hts := atoms_spec (ws := ws) B.pre
    have hown : s.vm.findClass y.cls = some m.cls := findClass_of_methodNamed B.named
    subst hsz
    have hD := hD0.self (sz := s.heap.size)
    have hl := lv_entry av hn
    have K : W p l e rm s m av.toArray below meth c s.heap [] 0 0 (MQ below (Qc (va_A w s.heap.size)) av.toArray s 0 0 (va_A w s.heap.size)) (entryFrame m av.toArray maxL) := by
      rw [lg_entry_eq]
      exact h p e s m below meth c _ _ B.exec B.bytes B.returns hml hts hown B.notSynchronized hK hP hD (fun q h => Or.inr h) hT hl
    obtain ⟨t, a1, o, b1, b2, b3⟩ := K s₁ hh0 (Stand.of_body B)
    exact ⟨t, o, a1, b1, b2, ⟨b3.1, b3.2⟩⟩
/-- a method that makes mc cells of ms slots at most: it calls what throws, and catches it -/
def kHn (l : Launch) (y : MethodName) (ws : List Cond) (rm : Room) (mc ms : Nat) (D : va_G) (tys : va_Ty) (av : List Value) (w : va_W) (R : Int32) (w' : va_W) : Prop :=
  ∀ sz : Nat, Met l y ws rm (va_Pc av (kBH D tys w sz)) (va_Qi (fun r (_ : Unit) => r = R) (fun _ t => va_P D vwCl w' t.heap) (va_A w sz)) mc ms (va_A w sz)
def kHnBody (y : MethodName) (ws : List Cond) (rm : Room) (mc ms : Nat) (D : va_G) (tys : va_Ty) (av : List Value) (w : va_W) (cc : ByteArray) (maxL : Nat) (ret : Option FieldType) (l : Launch) (Qc : (Nat → Prop) → Array Value → State → Outcome → State → Prop) : Prop :=
  ∀ (p : Program) (e : Env) (s : State) (m : MethodId) (below : List Frame) (meth : Method) (c : Code) (A : Nat → Prop) (ls : Array Slot),
    p.tables.exec = Jvm.exec → c.code = cc → meth.sig.returnType = ret → c.maxLocals = maxL → (∀ q ∈ ws, q.before av.toArray s = true) → s.vm.findClass y.cls = some m.cls → meth.locks = false →
    va_K D vwCl tys s → va_P D vwCl w s.heap → va_D A w → (∀ q : Nat, s.heap.size ≤ q → A q) → kT A s → kN3 s → lv_has ls maxL (lv_args 0 av) →
    W p l e rm s m av.toArray below meth c s.heap [] 0 0 (MQ below (Qc A) av.toArray s mc ms A) (F0 m 0 ls [])
theorem kHnBody.met {y : MethodName} {ws ws' : List Cond} {rm : Room} {mc ms : Nat} {D : va_G} {tys : va_Ty} {av : List Value} {w : va_W} {cc : ByteArray} {maxL : Nat} {ret : Option FieldType} {l : Launch} {Qc : (Nat → Prop) → Array Value → State → Outcome → State → Prop} (hy : plainName y.cls = true) (hw : ws = Cond.code y cc maxL ret :: ws') (hn : (lg_sl av).length ≤ maxL)
    (h : kHnBody y ws rm mc ms D tys av w cc maxL ret l Qc) (sz : Nat) : Met l y ws rm (va_Pc av (kBH D tys w sz)) (Qc (va_A w sz)) mc ms (va_A w sz) := by
  refine Met.ofW (cc := cc) (maxL := maxL) (ret := ret) hy hw ?_
  intro p e s m args below meth c s₁ B hml hv
  obtain ⟨rfl, ⟨⟨hsz, hP, hK, hD0⟩, hT⟩, hN⟩ := hv
  have hts := atoms_spec (ws := ws) B.pre
  have hown : s.vm.findClass y.cls = some m.cls := findClass_of_methodNamed B.named
  subst hsz
  have hD := hD0.self (sz := s.heap.size)
  have hl := lv_entry av hn
  rw [lg_entry_eq]
  exact h p e s m below meth c _ _ B.exec B.bytes B.returns hml hts hown B.notSynchronized hK hP hD (fun q h => Or.inr h) hT hN hl
section KHN
variable {p : Program} {l : Launch} {e : Env} {R : Room} {s : State} {m : MethodId} {args : Array Value} {below : List Frame} {meth : Method} {c : Code} {H : Heap} {locs : List Loc} {cells slots mc ms : Nat} {Q : State → Prop} {D : va_G} {tys : va_Ty} {cc : ByteArray} {A : Nat → Prop} {pc : Nat} {ls : Array Slot}
theorem k_hnret {v r9 : Int32} {ty : FieldType} {w1 w' : va_W} (h1 : cells ≤ mc) (h6 : slots ≤ ms) (hx : p.tables.exec = Jvm.exec) (hb : c.code = cc) (hr : meth.sig.returnType = some ty) (hlk : meth.locks = false) (hP : va_P D vwCl w1 H) (hS : va_S A s.heap H locs) (hdg : decode cc pc = .ok (.ireturn, 1)) (hn : narrow ty (.int v) = .int v) (hv : v = r9) (hw : va_P D vwCl w1 H → va_P D vwCl w' H) :
    W p l e R s m args below meth c H locs cells slots (MQ below (va_Qi (fun r (_ : Unit) => r = r9) (fun _ t => va_P D vwCl w' t.heap) A) args s mc ms A) (F0 m pc ls [.int v]) :=
  W.widen h1 h6 (W.zret (ty := ty) hx hb hr hn (fun t ht hW => ⟨⟨v, (), rfl, hv, by show va_P D vwCl w' t.heap; rw [ht]; exact hw hP⟩, hS.F ht⟩) hS.2.2 hdg hlk)
/-- a call of such a method -/
theorem k_callHn {a z wc wc' w w' : va_W} {r9 : Int32} {st0 rest As : List Value} (hr : va_Run p l e R s m args below meth c H locs cells slots mc ms (F0 m pc ls st0) rest (va_Qi (fun r (_ : Unit) => r = r9) (fun _ t => va_P D vwCl wc' t.heap) (va_A wc H.size) As.toArray) (va_A wc H.size)) (hw : w = a ++ (wc ++ z)) (hw' : w' = a ++ (wc' ++ z)) (hadr : wc'.map Prod.fst = wc.map Prod.fst) (hP : va_P D vwCl w H) (hD : va_D A w) (hS : va_S A s.heap H locs) (hA : ∀ q : Nat, s.heap.size ≤ q → A q)
    (kk : ∀ (H1 : Heap) (locs1 : List Loc), va_P D vwCl w' H1 → va_D A w' → va_S A s.heap H1 locs1 → W p l e R s m args below meth c H1 locs1 (cells + mc) (slots + ms) Q (F0 m (pc + 3) ls (.int r9 :: rest))) : W p l e R s m args below meth c H locs cells slots Q (F0 m pc ls st0) := by
  have hFc := k_free hw hD hS hA
  refine va_calli hr hS (fun q _ h => hFc q h) hFc (fun r u t H1 locs1 ht hvm hv hB hz hk hS1 => ?_)
  subst hv
  obtain ⟨hP1, hD1⟩ := k_back (H0 := H) hw hw' hadr hP hD hk (by rw [← ht]; exact hB)
  exact kk H1 locs1 hP1 hD1 hS1
end KHN

theorem sn_0 (S : SS) (n : Nat) : s_num S n 0 = S.1 0 := by simp [s_num]
theorem sn_1 (S : SS) (n : Nat) : s_num S n 1 = S.1 1 := by simp [s_num]
theorem sn_2 (S : SS) (n : Nat) : s_num S n 2 = S.1 2 := by simp [s_num]
theorem sn_3 (S : SS) (n : Nat) : s_num S n 3 = S.1 3 := by simp [s_num]
theorem sn_4 (S : SS) (n : Nat) : s_num S n 4 = S.1 8 := by simp [s_num]
theorem sn_5 (S : SS) (n : Nat) : s_num S n 5 = p_count S n 1 := by simp [s_num]
theorem sn_6 (S : SS) (n : Nat) : s_num S n 6 = p_count S n 2 := by simp [s_num]
theorem sn_7 (S : SS) (n : Nat) : s_num S n 7 = S.1 4 := by simp [s_num]
theorem sn_8 (S : SS) (n : Nat) : s_num S n 8 = s_hour S := by simp [s_num]
theorem sn_9 (S : SS) (n : Nat) : s_num S n 9 = S.1 5 := by simp [s_num]
theorem sn_10 (S : SS) (n : Nat) : s_num S n 10 = S.1 6 := by simp [s_num]
theorem sn_11 (S : SS) (n : Nat) : s_num S n 11 = p_lead S n := by simp [s_num]
theorem sn_12 (S : SS) (n : Nat) : s_num S n 12 = S.1 7 := by simp [s_num]
theorem sn_13 (S : SS) (n : Nat) : s_num S n 13 = S.1 9 := by simp [s_num]

theorem pg_0 {S : SS} {x : Int32} (hp : p_has S x = true) : p_fact S x 0 = S.2.2.1 2 x.toNatClampNeg := by simp [p_fact, hp]
theorem pf_0 {S : SS} {k : Nat} (hp : p_has S (nI k) = true) (hk : k < 2 ^ 31) : p_fact S (nI k) 0 = S.2.2.1 2 k := by rw [pg_0 hp, nI_clamp hk]
theorem pg_1 {S : SS} {x : Int32} (hp : p_has S x = true) : p_fact S x 1 = S.2.2.1 3 x.toNatClampNeg := by simp [p_fact, hp]
theorem pf_1 {S : SS} {k : Nat} (hp : p_has S (nI k) = true) (hk : k < 2 ^ 31) : p_fact S (nI k) 1 = S.2.2.1 3 k := by rw [pg_1 hp, nI_clamp hk]
theorem pg_2 {S : SS} {x : Int32} (hp : p_has S x = true) : p_fact S x 2 = S.2.2.1 4 x.toNatClampNeg := by simp [p_fact, hp]
theorem pf_2 {S : SS} {k : Nat} (hp : p_has S (nI k) = true) (hk : k < 2 ^ 31) : p_fact S (nI k) 2 = S.2.2.1 4 k := by rw [pg_2 hp, nI_clamp hk]
theorem pg_3 {S : SS} {x : Int32} (hp : p_has S x = true) : p_fact S x 3 = S.2.2.1 5 x.toNatClampNeg := by simp [p_fact, hp]
theorem pf_3 {S : SS} {k : Nat} (hp : p_has S (nI k) = true) (hk : k < 2 ^ 31) : p_fact S (nI k) 3 = S.2.2.1 5 k := by rw [pg_3 hp, nI_clamp hk]
theorem pg_4 {S : SS} {x : Int32} (hp : p_has S x = true) : p_fact S x 4 = S.2.2.1 6 x.toNatClampNeg := by simp [p_fact, hp]
theorem pf_4 {S : SS} {k : Nat} (hp : p_has S (nI k) = true) (hk : k < 2 ^ 31) : p_fact S (nI k) 4 = S.2.2.1 6 k := by rw [pg_4 hp, nI_clamp hk]
theorem pg_5 {S : SS} {x : Int32} (hp : p_has S x = true) : p_fact S x 5 = S.2.2.1 7 x.toNatClampNeg := by simp [p_fact, hp]
theorem pf_5 {S : SS} {k : Nat} (hp : p_has S (nI k) = true) (hk : k < 2 ^ 31) : p_fact S (nI k) 5 = S.2.2.1 7 k := by rw [pg_5 hp, nI_clamp hk]
theorem pg_6 {S : SS} {x : Int32} (hp : p_has S x = true) : p_fact S x 6 = S.2.2.1 8 x.toNatClampNeg := by simp [p_fact, hp]
theorem pf_6 {S : SS} {k : Nat} (hp : p_has S (nI k) = true) (hk : k < 2 ^ 31) : p_fact S (nI k) 6 = S.2.2.1 8 k := by rw [pg_6 hp, nI_clamp hk]
theorem pg_7 {S : SS} {x : Int32} (hp : p_has S x = true) : p_fact S x 7 = S.2.2.1 9 x.toNatClampNeg := by simp [p_fact, hp]
theorem pf_7 {S : SS} {k : Nat} (hp : p_has S (nI k) = true) (hk : k < 2 ^ 31) : p_fact S (nI k) 7 = S.2.2.1 9 k := by rw [pg_7 hp, nI_clamp hk]

theorem bp_0 (S : SS) {k : Nat} (hk : k < 12) : b_part S (nI k) 0 = S.2.2.1 10 (3 * k + 0) := by
  have e : nI k * 3 + 0 = nI (3 * k + 0) := k_t3 k 0
  rw [b_part, e, nI_clamp (by omega), if_pos ⟨nI_pos (by omega), nI_ge (a := 3 * k + 0) (b := 36) (by omega) (by decide)⟩]
theorem bp_1 (S : SS) {k : Nat} (hk : k < 12) : b_part S (nI k) 1 = S.2.2.1 10 (3 * k + 1) := by
  have e : nI k * 3 + 1 = nI (3 * k + 1) := k_t3 k 1
  rw [b_part, e, nI_clamp (by omega), if_pos ⟨nI_pos (by omega), nI_ge (a := 3 * k + 1) (b := 36) (by omega) (by decide)⟩]
theorem bp_2 (S : SS) {k : Nat} (hk : k < 12) : b_part S (nI k) 2 = S.2.2.1 10 (3 * k + 2) := by
  have e : nI k * 3 + 2 = nI (3 * k + 2) := k_t3 k 2
  rw [b_part, e, nI_clamp (by omega), if_pos ⟨nI_pos (by omega), nI_ge (a := 3 * k + 2) (b := 36) (by omega) (by decide)⟩]
