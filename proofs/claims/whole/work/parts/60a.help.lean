/-! HELPERS OF THE LAW: they call a method that may throw, and catch what it throws -/
def kN3 (U : State) : Prop := va_Nc ise iae U ∧ va_Nc iae iob U ∧ va_Nc ise iob U
theorem kN3_moved {u U : State} (hvm : u.vm.Alike U.vm) (h : kN3 u) : kN3 U := ⟨va_Nc.moved hvm h.1, va_Nc.moved hvm h.2.1, va_Nc.moved hvm h.2.2⟩
def kBH (D : va_G) (tys : va_Ty) (w : va_W) (sz : Nat) (U : State) : Prop := kBT D tys w sz U ∧ kN3 U
theorem kBH_blind {av : List Value} {D : va_G} {tys : va_Ty} {w : va_W} {sz : Nat} : FrameBlind (va_Pc av (kBH D tys w sz)) := fun a U g mk q => by
  obtain ⟨q0, q1, q2⟩ := q
  obtain ⟨r0, r1⟩ := kBT_blind (av := av) (D := D) (tys := tys) (w := w) (sz := sz) a U g mk ⟨q0, q1⟩
  exact ⟨r0, r1, kN3_moved (u := U) (U := U.calling g mk a) (Vm.Alike.refl U.vm) q2⟩
def kH (l : Launch) (y : MethodName) (ws : List Cond) (rm : Room) (D : va_G) (tys : va_Ty) (av : List Value) (w : va_W) (R : Int32) (w' : va_W) : Prop :=
  ∀ sz : Nat, Met l y ws rm (va_Pc av (kBH D tys w sz)) (va_Qi (fun r (_ : Unit) => r = R) (fun _ t => va_P D vwCl w' t.heap) (va_A w sz)) 1 6 (va_A w sz)
theorem k_preH {s : State} {H : Heap} {locs : List Loc} {D : va_G} {tys : va_Ty} {A : Nat → Prop} {av : List Value} {a z wc w : va_W} (hw : w = a ++ (wc ++ z)) (hK : va_K D vwCl tys s) (hP : va_P D vwCl w H) (hD : va_D A w) (hS : va_S A s.heap H locs) (hA : ∀ q : Nat, s.heap.size ≤ q → A q) (hT : kT A s) (hN : kN3 s) : ∀ U : State, U.heap = H → s.WarmedH U.vm → va_Pc av (kBH D tys wc H.size) av.toArray U := fun U hU hW => by
  obtain ⟨q0, q1⟩ := k_preT (av := av) hw hK hP hD hS hA hT U hU hW
  exact ⟨q0, q1, kN3_moved hW.alike hN⟩
def kHBody (y : MethodName) (ws : List Cond) (rm : Room) (D : va_G) (tys : va_Ty) (av : List Value) (w : va_W) (cc : ByteArray) (maxL : Nat) (ret : Option FieldType) (hh : List (Nat × Nat × Nat × Nat)) (l : Launch) (Qc : (Nat → Prop) → Array Value → State → Outcome → State → Prop) : Prop :=
  ∀ (p : Program) (e : Env) (s : State) (m : MethodId) (below : List Frame) (meth : Method) (c : Code) (A : Nat → Prop) (ls : Array Slot),
    p.tables.exec = Jvm.exec → c.code = cc → meth.sig.returnType = ret → c.maxLocals = maxL → (∀ q ∈ ws, q.before av.toArray s = true) → s.vm.findClass y.cls = some m.cls → meth.locks = false →
    va_K D vwCl tys s → va_P D vwCl w s.heap → va_D A w → (∀ q : Nat, s.heap.size ≤ q → A q) → kT A s → kN3 s → c.exceptionTable.toList = tableOf hh → lv_has ls maxL (lv_args 0 av) →
    W p l e rm s m av.toArray below meth c s.heap [] 0 0 (MQ below (Qc A) av.toArray s 1 6 A) (F0 m 0 ls [])
theorem kHBody.met {y : MethodName} {ws ws' : List Cond} {rm : Room} {D : va_G} {tys : va_Ty} {av : List Value} {w : va_W} {cc : ByteArray} {maxL : Nat} {ret : Option FieldType} {hh : List (Nat × Nat × Nat × Nat)} {l : Launch} {Qc : (Nat → Prop) → Array Value → State → Outcome → State → Prop} (hy : plainName y.cls = true) (hw : ws = Cond.codeWith y cc maxL ret hh :: ws') (hn : (lg_sl av).length ≤ maxL)
    (h : kHBody y ws rm D tys av w cc maxL ret hh l Qc) (sz : Nat) : Met l y ws rm (va_Pc av (kBH D tys w sz)) (Qc (va_A w sz)) 1 6 (va_A w sz) := by
  refine MetFree.of_bodyS (code := cc) (maxLocals := maxL) (ret := ret) hy ?_ ?_
  · intro args s m h hn
    obtain ⟨m9, meth, c, hn9, h1, h2, h3, h4, -, h5, h6, -⟩ := Cond.codeWith_spec (atoms_spec (ws := ws) h _ (by rw [hw]; exact List.mem_cons_self))
    cases hn.symm.trans hn9
    exact ⟨meth, c, h1, h2, h3, h4, h5, h6⟩
  · intro p e s m args below meth c s₁ B hml hv _
    have hh0 : s₁.heap = s.heap := by rw [B.state]; rfl
    obtain ⟨rfl, ⟨⟨hsz, hP, hK, hD0⟩, hT⟩, hN⟩ := hv
    have hts := atoms_spec (ws := ws) B.pre
    have htb := vx_table (x := y) B (hts _ (by rw [hw]; exact List.mem_cons_self))
    have hown : s.vm.findClass y.cls = some m.cls := findClass_of_methodNamed B.named
    subst hsz
    have hD := hD0.self (sz := s.heap.size)
    have hl := lv_entry av hn
    have K : W p l e rm s m av.toArray below meth c s.heap [] 0 0 (MQ below (Qc (va_A w s.heap.size)) av.toArray s 1 6 (va_A w s.heap.size)) (entryFrame m av.toArray maxL) := by
      rw [lg_entry_eq]
      exact h p e s m below meth c _ _ B.exec B.bytes B.returns hml hts hown B.notSynchronized hK hP hD (fun q h => Or.inr h) hT hN htb hl
    obtain ⟨t, a1, o, b1, b2, b3⟩ := K s₁ hh0 (Stand.of_body B)
    exact ⟨t, o, a1, b1, b2, ⟨b3.1, b3.2⟩⟩
/-- the number that a helper answers -/
def k_code (e1 : String) (th : Option String) : Int32 := if th = none then 0 else if th = some e1 then 1 else 2
theorem k_code_0 (e1 : String) : k_code e1 none = 0 := if_pos rfl
theorem k_code_1 (e1 : String) : k_code e1 (some e1) = 1 := (if_neg (fun h => nomatch h)).trans (if_pos rfl)
theorem k_code_2 {e1 e2 : String} (h : e2 ≠ e1) : k_code e1 (some e2) = 2 := (if_neg (fun h => nomatch h)).trans (if_neg (fun q => h (Option.some.inj q)))
section KHC
variable {p : Program} {l : Launch} {e : Env} {R : Room} {s : State} {m : MethodId} {args : Array Value} {below : List Frame} {meth : Method} {c : Code} {H : Heap} {locs : List Loc} {cells slots : Nat} {Q : State → Prop} {D : va_G} {tys : va_Ty} {cc : ByteArray} {A : Nat → Prop} {pc : Nat} {ls : Array Slot}
theorem k_hret {v r9 : Int32} {w1 w' : va_W} (h1 : cells ≤ 1) (h6 : slots ≤ 6) (hx : p.tables.exec = Jvm.exec) (hb : c.code = cc) (hr : meth.sig.returnType = some .int) (hlk : meth.locks = false) (hP : va_P D vwCl w1 H) (hS : va_S A s.heap H locs) (hdg : decode cc pc = .ok (.ireturn, 1)) (hv : v = r9) (hw : w1 = w') :
    W p l e R s m args below meth c H locs cells slots (MQ below (va_Qi (fun r (_ : Unit) => r = r9) (fun _ t => va_P D vwCl w' t.heap) A) args s 1 6 A) (F0 m pc ls [.int v]) :=
  W.widen h1 h6 (W.iret hx hb hr (fun t ht hW => ⟨⟨v, (), rfl, hv, by show va_P D vwCl w' t.heap; rw [ht, ← hw]; exact hP⟩, hS.F ht⟩) hS.2.2 hdg hlk)
theorem k_hcalli {a z wc wc' w : va_W} {r9 : Int32} {th : Option String} {st0 rest As : List Value} (hr : vx_Run p l e R s m args below meth c H locs cells slots 1 6 (F0 m pc ls st0) rest (va_Qi (fun r (_ : Unit) => th = none ∧ r = r9) (fun _ t => va_P D vwCl wc' t.heap) (va_A wc H.size) As.toArray) (vx_X (fun (_ : Unit) => True) (fun E _ t => th = some E ∧ va_P D vwCl wc t.heap) (va_A wc H.size)) (va_A wc H.size))
    (hw : w = a ++ (wc ++ z)) (hadr : wc'.map Prod.fst = wc.map Prod.fst) (hP : va_P D vwCl w H) (hD : va_D A w) (hS : va_S A s.heap H locs) (hA : ∀ q : Nat, s.heap.size ≤ q → A q)
    (kx : ∀ (E : String) (ce : Cell) (q9 : Addr) (H1 : Heap) (locs1 : List Loc), th = some E → va_P D vwCl w H1 → va_D A w → va_S A s.heap H1 locs1 → H1[q9]? = some ce → ce.vm = .none → s.vm.findClass E = some ce.cls → vx_W p l e R s m args below meth c H1 locs1 (cells + 1) (slots + 6) Q (F0 m pc ls rest) q9)
    (kk : ∀ (H1 : Heap) (locs1 : List Loc), th = none → va_P D vwCl (a ++ (wc' ++ z)) H1 → va_D A (a ++ (wc' ++ z)) → va_S A s.heap H1 locs1 → W p l e R s m args below meth c H1 locs1 (cells + 1) (slots + 6) Q (F0 m (pc + 3) ls (.int r9 :: rest))) : W p l e R s m args below meth c H locs cells slots Q (F0 m pc ls st0) := by
  have hFc := k_free hw hD hS hA
  refine vx_calli hr hS (fun q _ h => hFc q h) hFc (fun q _ h => hFc q h) (fun E ce q9 u t H1 locs1 ht hvm hpx hB hz hk hS1 hce hcv hcl => ?_) (fun r u t H1 locs1 ht hvm hv hB hz hk hS1 => ?_)
  · obtain ⟨hP1, hD1⟩ := k_back (H0 := H) hw hw rfl hP hD hk (by rw [← ht]; exact hB.2)
    exact kx E ce q9 H1 locs1 hB.1 hP1 hD1 hS1 hce hcv hcl
  · obtain ⟨hv1, rfl⟩ := hv
    obtain ⟨hP1, hD1⟩ := k_back (H0 := H) hw rfl hadr hP hD hk (by rw [← ht]; exact hB)
    exact kk H1 locs1 hv1 hP1 hD1 hS1
theorem k_hcalll {a z wc wc' w : va_W} {r9 : Int64} {th : Option String} {st0 rest As : List Value} (hr : vx_Run p l e R s m args below meth c H locs cells slots 1 6 (F0 m pc ls st0) rest (va_Ql (fun r (_ : Unit) => th = none ∧ r = r9) (fun _ t => va_P D vwCl wc' t.heap) (va_A wc H.size) As.toArray) (vx_X (fun (_ : Unit) => True) (fun E _ t => th = some E ∧ va_P D vwCl wc t.heap) (va_A wc H.size)) (va_A wc H.size))
    (hw : w = a ++ (wc ++ z)) (hadr : wc'.map Prod.fst = wc.map Prod.fst) (hP : va_P D vwCl w H) (hD : va_D A w) (hS : va_S A s.heap H locs) (hA : ∀ q : Nat, s.heap.size ≤ q → A q)
    (kx : ∀ (E : String) (ce : Cell) (q9 : Addr) (H1 : Heap) (locs1 : List Loc), th = some E → va_P D vwCl w H1 → va_D A w → va_S A s.heap H1 locs1 → H1[q9]? = some ce → ce.vm = .none → s.vm.findClass E = some ce.cls → vx_W p l e R s m args below meth c H1 locs1 (cells + 1) (slots + 6) Q (F0 m pc ls rest) q9)
    (kk : ∀ (H1 : Heap) (locs1 : List Loc), th = none → va_P D vwCl (a ++ (wc' ++ z)) H1 → va_D A (a ++ (wc' ++ z)) → va_S A s.heap H1 locs1 → W p l e R s m args below meth c H1 locs1 (cells + 1) (slots + 6) Q (F0 m (pc + 3) ls (.long r9 :: rest))) : W p l e R s m args below meth c H locs cells slots Q (F0 m pc ls st0) := by
  have hFc := k_free hw hD hS hA
  refine vx_calll hr hS (fun q _ h => hFc q h) hFc (fun q _ h => hFc q h) (fun E ce q9 u t H1 locs1 ht hvm hpx hB hz hk hS1 hce hcv hcl => ?_) (fun r u t H1 locs1 ht hvm hv hB hz hk hS1 => ?_)
  · obtain ⟨hP1, hD1⟩ := k_back (H0 := H) hw hw rfl hP hD hk (by rw [← ht]; exact hB.2)
    exact kx E ce q9 H1 locs1 hB.1 hP1 hD1 hS1 hce hcv hcl
  · obtain ⟨hv1, rfl⟩ := hv
    obtain ⟨hP1, hD1⟩ := k_back (H0 := H) hw rfl hadr hP hD hk (by rw [← ht]; exact hB)
    exact kk H1 locs1 hv1 hP1 hD1 hS1
/-- a call of a helper -/
theorem k_callH {a z wc wc' w w' : va_W} {r9 : Int32} {st0 rest As : List Value} (hr : va_Run p l e R s m args below meth c H locs cells slots 1 6 (F0 m pc ls st0) rest (va_Qi (fun r (_ : Unit) => r = r9) (fun _ t => va_P D vwCl wc' t.heap) (va_A wc H.size) As.toArray) (va_A wc H.size)) (hw : w = a ++ (wc ++ z)) (hw' : w' = a ++ (wc' ++ z)) (hadr : wc'.map Prod.fst = wc.map Prod.fst) (hP : va_P D vwCl w H) (hD : va_D A w) (hS : va_S A s.heap H locs) (hA : ∀ q : Nat, s.heap.size ≤ q → A q)
    (kk : ∀ (H1 : Heap) (locs1 : List Loc), va_P D vwCl w' H1 → va_D A w' → va_S A s.heap H1 locs1 → W p l e R s m args below meth c H1 locs1 (cells + 1) (slots + 6) Q (F0 m (pc + 3) ls (.int r9 :: rest))) : W p l e R s m args below meth c H locs cells slots Q (F0 m pc ls st0) := by
  have hFc := k_free hw hD hS hA
  refine va_calli hr hS (fun q _ h => hFc q h) hFc (fun r u t H1 locs1 ht hvm hv hB hz hk hS1 => ?_)
  subst hv
  obtain ⟨hP1, hD1⟩ := k_back (H0 := H) hw hw' hadr hP hD hk (by rw [← ht]; exact hB)
  exact kk H1 locs1 hP1 hD1 hS1
end KHC
/-- the class' world -/
abbrev poW (o : Nat) (q1 q2 q3 q4 q5 q6 qt : Nat → Nat) (cI cJ : ClassId) (S1 S2 S3 S4 S5 S6 : SS) (T : TS) (sv : Int32) : va_W :=
  poC o q1 q2 q3 q4 q5 q6 qt sv ++ (stW q1 cI cJ S1 ++ (stW q2 cI cJ S2 ++ (stW q3 cI cJ S3 ++ (stW q4 cI cJ S4 ++ (stW q5 cI cJ S5 ++ (stW q6 cI cJ S6 ++ txW qt cI T))))))
theorem poW_ad (o : Nat) (q1 q2 q3 q4 q5 q6 qt : Nat → Nat) (cI cJ : ClassId) (S1 S2 S3 S4 S5 S6 : SS) (T : TS) (sv : Int32) (S1' S2' S3' S4' S5' S6' : SS) (T' : TS) (sv' : Int32) : (poW o q1 q2 q3 q4 q5 q6 qt cI cJ S1 S2 S3 S4 S5 S6 T sv).map Prod.fst = (poW o q1 q2 q3 q4 q5 q6 qt cI cJ S1' S2' S3' S4' S5' S6' T' sv').map Prod.fst :=
  k_ad2 (poC_ad _ _ _ _ _ _ _ _ _ _) (k_ad2 (stW_ad _ _ _ _ _) (k_ad2 (stW_ad _ _ _ _ _) (k_ad2 (stW_ad _ _ _ _ _) (k_ad2 (stW_ad _ _ _ _ _) (k_ad2 (stW_ad _ _ _ _ _) (k_ad2 (stW_ad _ _ _ _ _) (txW_ad _ _ _ _)))))))
abbrev ouW (oa : Nat) (cJ : ClassId) (f : Nat → Int64) : va_W := [(oa, .inl (cJ, 1, .inr (.inl f)))]
