/-! MY OWN WORDS: a world that is only written in, contracts of methods that make nothing, and one row a call -/
abbrev va_Ty : Type := List (ClassId × FieldType)
def kB (D : va_G) (tys : va_Ty) (w : va_W) (sz : Nat) (U : State) : Prop := U.heap.size = sz ∧ va_P D vwCl w U.heap ∧ va_K D vwCl tys U ∧ va_D (fun _ => True) w
theorem kB_blind {av : List Value} {D : va_G} {tys : va_Ty} {w : va_W} {sz : Nat} : FrameBlind (va_Pc av (kB D tys w sz)) := fun a U g mk q => by
  obtain ⟨q0, q1, qP, qK, qD⟩ := q
  exact ⟨q0, q1, qP, va_K.moved (u := U) (U := U.calling g mk a) (Vm.Alike.refl U.vm) qK, qD⟩
/-- a method that makes nothing, its answer an int, its world w then w' -/
def kI (l : Launch) (y : MethodName) (ws : List Cond) (rm : Room) (D : va_G) (tys : va_Ty) (av : List Value) (w : va_W) (R : Int32) (w' : va_W) : Prop :=
  ∀ sz : Nat, Met l y ws rm (va_Pc av (kB D tys w sz)) (va_Qi (fun r (_ : Unit) => r = R) (fun _ t => va_P D vwCl w' t.heap) (va_A w sz)) 0 0 (va_A w sz)
def kL (l : Launch) (y : MethodName) (ws : List Cond) (rm : Room) (D : va_G) (tys : va_Ty) (av : List Value) (w : va_W) (R : Int64) (w' : va_W) : Prop :=
  ∀ sz : Nat, Met l y ws rm (va_Pc av (kB D tys w sz)) (va_Ql (fun r (_ : Unit) => r = R) (fun _ t => va_P D vwCl w' t.heap) (va_A w sz)) 0 0 (va_A w sz)
def kV (l : Launch) (y : MethodName) (ws : List Cond) (rm : Room) (D : va_G) (tys : va_Ty) (av : List Value) (w : va_W) (w' : va_W) : Prop :=
  ∀ sz : Nat, Met l y ws rm (va_Pc av (kB D tys w sz)) (va_Qv (fun (_ : Unit) => True) (fun _ t => va_P D vwCl w' t.heap) (va_A w sz)) 0 0 (va_A w sz)
/-- what a walk begins with -/
def kBody (y : MethodName) (ws : List Cond) (rm : Room) (D : va_G) (tys : va_Ty) (av : List Value) (w : va_W) (cc : ByteArray) (maxL : Nat) (ret : Option FieldType) (l : Launch) (Qc : (Nat → Prop) → Array Value → State → Outcome → State → Prop) : Prop :=
  ∀ (p : Program) (e : Env) (s : State) (m : MethodId) (below : List Frame) (meth : Method) (c : Code) (A : Nat → Prop) (ls : Array Slot),
    p.tables.exec = Jvm.exec → c.code = cc → meth.sig.returnType = ret → c.maxLocals = maxL → (∀ q ∈ ws, q.before av.toArray s = true) → s.vm.findClass y.cls = some m.cls → meth.locks = false →
    va_K D vwCl tys s → va_P D vwCl w s.heap → va_D A w → (∀ q : Nat, s.heap.size ≤ q → A q) → lv_has ls maxL (lv_args 0 av) →
    W p l e rm s m av.toArray below meth c s.heap [] 0 0 (MQ below (Qc A) av.toArray s 0 0 A) (F0 m 0 ls [])
theorem kBody.met {y : MethodName} {ws ws' : List Cond} {rm : Room} {D : va_G} {tys : va_Ty} {av : List Value} {w : va_W} {cc : ByteArray} {maxL : Nat} {ret : Option FieldType} {l : Launch} {Qc : (Nat → Prop) → Array Value → State → Outcome → State → Prop} (hy : plainName y.cls = true) (hw : ws = Cond.code y cc maxL ret :: ws') (hn : (lg_sl av).length ≤ maxL)
    (h : kBody y ws rm D tys av w cc maxL ret l Qc) (sz : Nat) : Met l y ws rm (va_Pc av (kB D tys w sz)) (Qc (va_A w sz)) 0 0 (va_A w sz) := by
  refine Met.ofW (cc := cc) (maxL := maxL) (ret := ret) hy hw ?_
  intro p e s m args below meth c s₁ B hml hv
  obtain ⟨rfl, hsz, hP, hK, hD0⟩ := hv
  have hts := atoms_spec (ws := ws) B.pre
  have hown : s.vm.findClass y.cls = some m.cls := findClass_of_methodNamed B.named
  subst hsz
  have hD := hD0.self (sz := s.heap.size)
  have hl := lv_entry av hn
  rw [lg_entry_eq]
  exact h p e s m below meth c _ _ B.exec B.bytes B.returns hml hts hown B.notSynchronized hK hP hD (fun q h => Or.inr h) hl
section KE
variable {p : Program} {l : Launch} {e : Env} {R : Room} {s : State} {m : MethodId} {args : Array Value} {below : List Frame} {meth : Method} {c : Code} {H : Heap} {locs : List Loc} {D : va_G} {cc : ByteArray} {A : Nat → Prop} {pc : Nat} {ls : Array Slot} {w1 w' : va_W}
theorem k_iret {v r9 : Int32} {ty : FieldType} (hx : p.tables.exec = Jvm.exec) (hb : c.code = cc) (hr : meth.sig.returnType = some ty) (hlk : meth.locks = false) (hP : va_P D vwCl w1 H) (hS : va_S A s.heap H locs) (hdg : decode cc pc = .ok (.ireturn, 1)) (hn : narrow ty (.int v) = .int v) (hv : v = r9) (hw : va_P D vwCl w1 H → va_P D vwCl w' H) :
    W p l e R s m args below meth c H locs 0 0 (MQ below (va_Qi (fun r (_ : Unit) => r = r9) (fun _ t => va_P D vwCl w' t.heap) A) args s 0 0 A) (F0 m pc ls [.int v]) :=
  W.zret (ty := ty) hx hb hr hn (fun t ht hW => ⟨⟨v, (), rfl, hv, by show va_P D vwCl w' t.heap; rw [ht]; exact hw hP⟩, hS.F ht⟩) hS.2.2 hdg hlk
theorem k_lret {v r9 : Int64} (hx : p.tables.exec = Jvm.exec) (hb : c.code = cc) (hr : meth.sig.returnType = some .long) (hlk : meth.locks = false) (hP : va_P D vwCl w1 H) (hS : va_S A s.heap H locs) (hdg : decode cc pc = .ok (.lreturn, 1)) (hv : v = r9) (hw : va_P D vwCl w1 H → va_P D vwCl w' H) :
    W p l e R s m args below meth c H locs 0 0 (MQ below (va_Ql (fun r (_ : Unit) => r = r9) (fun _ t => va_P D vwCl w' t.heap) A) args s 0 0 A) (F0 m pc ls [.long v]) :=
  W.lret hx hb hr (fun t ht hW => ⟨⟨v, (), rfl, hv, by show va_P D vwCl w' t.heap; rw [ht]; exact hw hP⟩, hS.F ht⟩) hS.2.2 hdg hlk
theorem k_vret (hx : p.tables.exec = Jvm.exec) (hb : c.code = cc) (hr : meth.sig.returnType = none) (hlk : meth.locks = false) (hP : va_P D vwCl w1 H) (hS : va_S A s.heap H locs) (hdg : decode cc pc = .ok (.return_, 1)) (hw : va_P D vwCl w1 H → va_P D vwCl w' H) :
    W p l e R s m args below meth c H locs 0 0 (MQ below (va_Qv (fun (_ : Unit) => True) (fun _ t => va_P D vwCl w' t.heap) A) args s 0 0 A) (F0 m pc ls []) :=
  W.vret hx hb hr (fun t ht hW => ⟨⟨(), rfl, trivial, by show va_P D vwCl w' t.heap; rw [ht]; exact hw hP⟩, hS.F ht⟩) hS.2.2 hdg hlk
end KE
theorem k_P {D : va_G} {w w' : va_W} {H : Heap} (h : w = w') (hP : va_P D vwCl w H) : va_P D vwCl w' H := h ▸ hP
theorem k_D {A : Nat → Prop} {w w' : va_W} (h : w'.map Prod.fst = w.map Prod.fst) (hD : va_D A w) : va_D A w' := by
  have hg : ∀ (k : Nat) (q : Nat × va_E), w'[k]? = some q → ∃ q', w[k]? = some q' ∧ q'.1 = q.1 := by
    intro k q hq
    have h1 : (w'.map Prod.fst)[k]? = some q.1 := by rw [List.getElem?_map, hq]; rfl
    rw [h, List.getElem?_map] at h1
    cases h2 : w[k]? with
    | none => rw [h2] at h1; cases h1
    | some q' => rw [h2] at h1; exact ⟨q', rfl, Option.some.inj h1⟩
  refine ⟨fun i j p q hp hq he => ?_, fun k q hq => ?_⟩
  · obtain ⟨p', a1, a2⟩ := hg i p hp
    obtain ⟨q', b1, b2⟩ := hg j q hq
    exact hD.1 i j p' q' a1 b1 (by rw [a2, b2, he])
  · obtain ⟨q', b1, b2⟩ := hg k q hq
    rw [← b2]
    exact hD.2 k q' b1
theorem va_P_app {D : va_G} {a b : va_W} {H : Heap} : va_P D vwCl (a ++ b) H ↔ va_P D vwCl a H ∧ va_P D vwCl b H := by
  constructor
  · intro h
    refine ⟨fun k q hk => h k q ?_, fun k q hk => h (a.length + k) q ?_⟩
    · rw [List.getElem?_append_left (List.getElem?_eq_some_iff.mp hk).1]; exact hk
    · rw [List.getElem?_append_right (Nat.le_add_right _ _), Nat.add_sub_cancel_left]; exact hk
  · rintro ⟨h1, h2⟩ k q hk
    rcases Nat.lt_or_ge k a.length with hlt | hge
    · rw [List.getElem?_append_left hlt] at hk; exact h1 k q hk
    · rw [List.getElem?_append_right hge] at hk; exact h2 _ q hk
theorem va_D_app {A : Nat → Prop} {a b : va_W} (h : va_D A (a ++ b)) : va_D A a ∧ va_D A b ∧ ∀ (i j : Nat) (p q : Nat × va_E), a[i]? = some p → b[j]? = some q → p.1 ≠ q.1 := by
  have ha : ∀ (k : Nat) (q : Nat × va_E), a[k]? = some q → (a ++ b)[k]? = some q ∧ k < a.length := fun k q hk => by
    have h1 := (List.getElem?_eq_some_iff.mp hk).1
    exact ⟨by rw [List.getElem?_append_left h1]; exact hk, h1⟩
  have hb : ∀ (k : Nat) (q : Nat × va_E), b[k]? = some q → (a ++ b)[a.length + k]? = some q := fun k q hk => by
    rw [List.getElem?_append_right (Nat.le_add_right _ _), Nat.add_sub_cancel_left]; exact hk
  refine ⟨⟨fun i j p q hp hq he => h.1 i j p q (ha i p hp).1 (ha j q hq).1 he, fun k q hk => h.2 k q (ha k q hk).1⟩, ⟨fun i j p q hp hq he => ?_, fun k q hk => h.2 _ q (hb k q hk)⟩, fun i j p q hp hq he => ?_⟩
  · have := h.1 _ _ p q (hb i p hp) (hb j q hq) he
    omega
  · have h1 := h.1 _ _ p q (ha i p hp).1 (hb j q hq) he
    have h2 := (ha i p hp).2
    omega
/-- what lies beside the callee's world stays -/
theorem va_P_beside {D : va_G} {A0 : Nat → Prop} {a b wc : va_W} {H H1 : Heap} {sz : Nat} (hP : va_P D vwCl a H) (hk : ∀ q : Nat, q < sz → ¬ va_A wc sz q → H1[q]? = H[q]?) (hsz : H.size = sz) (hne : ∀ (i j : Nat) (p q : Nat × va_E), a[i]? = some p → wc[j]? = some q → p.1 ≠ q.1) : va_P D vwCl a H1 := by
  intro k q hq
  have h1 := hP k q hq
  have hlt : q.1 < H.size := by
    unfold va_at at h1
    split at h1
    · exact (Array.getElem?_eq_some_iff.mp h1).1
    · obtain ⟨r, -, ⟨cell, hc, -⟩⟩ := h1
      exact (Array.getElem?_eq_some_iff.mp hc).1
  have he : H1[q.1]? = H[q.1]? := hk q.1 (by omega) (by
    rintro (⟨j, e, hj⟩ | h)
    · exact hne k j q (q.1, e) hq hj rfl
    · omega)
  unfold va_at at h1 ⊢
  split at h1
  · rw [he]; exact h1
  · obtain ⟨r, hr, hO⟩ := h1
    exact ⟨r, hr, hO.kept he⟩
section KC
variable {p : Program} {l : Launch} {e : Env} {R : Room} {s : State} {m : MethodId} {args : Array Value} {below : List Frame} {meth : Method} {c : Code} {H : Heap} {locs : List Loc} {cells slots : Nat} {Q : State → Prop} {D : va_G} {tys : va_Ty} {cc : ByteArray} {A : Nat → Prop} {pc : Nat} {ls : Array Slot}
/-- behind a callee: the worlds beside each other again -/
theorem k_back {H0 : Heap} {a z wc wc' w w' : va_W} {H1 : Heap} (hw : w = a ++ (wc ++ z)) (hw' : w' = a ++ (wc' ++ z)) (hadr : wc'.map Prod.fst = wc.map Prod.fst) (hP : va_P D vwCl w H) (hD : va_D A w) (hk : ∀ q : Nat, q < H.size → ¬ va_A wc H.size q → H1[q]? = H[q]?) (hP1 : va_P D vwCl wc' H1) : va_P D vwCl w' H1 ∧ va_D A w' := by
  subst hw; subst hw'
  obtain ⟨pa, pq⟩ := va_P_app.mp hP
  obtain ⟨pc, pz⟩ := va_P_app.mp pq
  obtain ⟨da, dq, n1⟩ := va_D_app hD
  obtain ⟨dc, dz, n2⟩ := va_D_app dq
  refine ⟨va_P_app.mpr ⟨va_P_beside (A0 := A) (b := []) pa hk rfl (fun i j p q hp hq => n1 i j p q hp (by rw [List.getElem?_append_left (List.getElem?_eq_some_iff.mp hq).1]; exact hq)), va_P_app.mpr ⟨hP1, va_P_beside (A0 := A) (b := []) pz hk rfl (fun i j p q hp hq he => n2 j i q p hq hp he.symm)⟩⟩, k_D (by simp [hadr]) hD⟩
theorem k_free {H0 : Heap} {a z wc w : va_W} (hw : w = a ++ (wc ++ z)) (hD : va_D A w) (hS : va_S A H0 H locs) (hA : ∀ q : Nat, H0.size ≤ q → A q) : ∀ q, va_A wc H.size q → A q := by
  subst hw
  obtain ⟨da, dq, n1⟩ := va_D_app hD
  obtain ⟨dc, dz, n2⟩ := va_D_app dq
  rintro q (⟨k, e, h⟩ | h)
  · exact dc.2 k (q, e) h
  · exact hA q (Nat.le_trans hS.1 h)
theorem k_pre {av : List Value} {a z wc w : va_W} (hw : w = a ++ (wc ++ z)) (hK : va_K D vwCl tys s) (hP : va_P D vwCl w H) (hD : va_D A w) : ∀ U : State, U.heap = H → s.WarmedH U.vm → va_Pc av (kB D tys wc H.size) av.toArray U := by
  intro U hU hW
  subst hw
  obtain ⟨pa, pq⟩ := va_P_app.mp hP
  obtain ⟨pc, pz⟩ := va_P_app.mp pq
  obtain ⟨da, dq, n1⟩ := va_D_app hD
  obtain ⟨dc, dz, n2⟩ := va_D_app dq
  exact ⟨rfl, by rw [hU], by rw [hU]; exact pc, va_K.moved hW.alike hK, dc.weaken (fun _ _ _ _ => trivial)⟩
abbrev kRunI (p : Program) (l : Launch) (e : Env) (R : Room) (s : State) (m : MethodId) (args : Array Value) (below : List Frame) (meth : Method) (c : Code) (H : Heap) (locs : List Loc) (cells slots : Nat) (D : va_G) (wc wc' : va_W) (r9 : Int32) (g : JFrame) (rest As : List Value) : Prop :=
  va_Run p l e R s m args below meth c H locs cells slots 0 0 g rest (va_Qi (fun r (_ : Unit) => r = r9) (fun _ t => va_P D vwCl wc' t.heap) (va_A wc H.size) As.toArray) (va_A wc H.size)
abbrev kRunL (p : Program) (l : Launch) (e : Env) (R : Room) (s : State) (m : MethodId) (args : Array Value) (below : List Frame) (meth : Method) (c : Code) (H : Heap) (locs : List Loc) (cells slots : Nat) (D : va_G) (wc wc' : va_W) (r9 : Int64) (g : JFrame) (rest As : List Value) : Prop :=
  va_Run p l e R s m args below meth c H locs cells slots 0 0 g rest (va_Ql (fun r (_ : Unit) => r = r9) (fun _ t => va_P D vwCl wc' t.heap) (va_A wc H.size) As.toArray) (va_A wc H.size)
abbrev kRunV (p : Program) (l : Launch) (e : Env) (R : Room) (s : State) (m : MethodId) (args : Array Value) (below : List Frame) (meth : Method) (c : Code) (H : Heap) (locs : List Loc) (cells slots : Nat) (D : va_G) (wc wc' : va_W) (g : JFrame) (rest As : List Value) : Prop :=
  va_Run p l e R s m args below meth c H locs cells slots 0 0 g rest (va_Qv (fun (_ : Unit) => True) (fun _ t => va_P D vwCl wc' t.heap) (va_A wc H.size) As.toArray) (va_A wc H.size)
theorem k_calli {a z wc wc' w w' : va_W} {r9 : Int32} {st0 rest As : List Value} (hr : kRunI p l e R s m args below meth c H locs cells slots D wc wc' r9 (F0 m pc ls st0) rest As) (hw : w = a ++ (wc ++ z)) (hw' : w' = a ++ (wc' ++ z)) (hadr : wc'.map Prod.fst = wc.map Prod.fst) (hP : va_P D vwCl w H) (hD : va_D A w) (hS : va_S A s.heap H locs) (hA : ∀ q : Nat, s.heap.size ≤ q → A q)
    (kk : ∀ (H1 : Heap) (locs1 : List Loc), va_P D vwCl w' H1 → va_D A w' → va_S A s.heap H1 locs1 → W p l e R s m args below meth c H1 locs1 cells slots Q (F0 m (pc + 3) ls (.int r9 :: rest))) : W p l e R s m args below meth c H locs cells slots Q (F0 m pc ls st0) := by
  have hFc := k_free hw hD hS hA
  refine va_calli hr hS (fun q _ h => hFc q h) hFc (fun r u t H1 locs1 ht hvm hv hB hz hk hS1 => ?_)
  subst hv
  obtain ⟨hP1, hD1⟩ := k_back (H0 := H) hw hw' hadr hP hD hk (by rw [← ht]; exact hB)
  exact kk H1 locs1 hP1 hD1 hS1
theorem k_calll {a z wc wc' w w' : va_W} {r9 : Int64} {st0 rest As : List Value} (hr : kRunL p l e R s m args below meth c H locs cells slots D wc wc' r9 (F0 m pc ls st0) rest As) (hw : w = a ++ (wc ++ z)) (hw' : w' = a ++ (wc' ++ z)) (hadr : wc'.map Prod.fst = wc.map Prod.fst) (hP : va_P D vwCl w H) (hD : va_D A w) (hS : va_S A s.heap H locs) (hA : ∀ q : Nat, s.heap.size ≤ q → A q)
    (kk : ∀ (H1 : Heap) (locs1 : List Loc), va_P D vwCl w' H1 → va_D A w' → va_S A s.heap H1 locs1 → W p l e R s m args below meth c H1 locs1 cells slots Q (F0 m (pc + 3) ls (.long r9 :: rest))) : W p l e R s m args below meth c H locs cells slots Q (F0 m pc ls st0) := by
  have hFc := k_free hw hD hS hA
  refine va_calll hr hS (fun q _ h => hFc q h) hFc (fun r u t H1 locs1 ht hvm hv hB hz hk hS1 => ?_)
  subst hv
  obtain ⟨hP1, hD1⟩ := k_back (H0 := H) hw hw' hadr hP hD hk (by rw [← ht]; exact hB)
  exact kk H1 locs1 hP1 hD1 hS1
theorem k_callv {a z wc wc' w w' : va_W} {st0 rest As : List Value} (hr : kRunV p l e R s m args below meth c H locs cells slots D wc wc' (F0 m pc ls st0) rest As) (hw : w = a ++ (wc ++ z)) (hw' : w' = a ++ (wc' ++ z)) (hadr : wc'.map Prod.fst = wc.map Prod.fst) (hP : va_P D vwCl w H) (hD : va_D A w) (hS : va_S A s.heap H locs) (hA : ∀ q : Nat, s.heap.size ≤ q → A q)
    (kk : ∀ (H1 : Heap) (locs1 : List Loc), va_P D vwCl w' H1 → va_D A w' → va_S A s.heap H1 locs1 → W p l e R s m args below meth c H1 locs1 cells slots Q (F0 m (pc + 3) ls rest)) : W p l e R s m args below meth c H locs cells slots Q (F0 m pc ls st0) := by
  have hFc := k_free hw hD hS hA
  refine va_callv hr hS (fun q _ h => hFc q h) hFc (fun u t H1 locs1 ht hvm hv hB hz hk hS1 => ?_)
  obtain ⟨hP1, hD1⟩ := k_back (H0 := H) hw hw' hadr hP hD hk (by rw [← ht]; exact hB)
  exact kk H1 locs1 hP1 hD1 hS1
end KC
/-- n steps of a body that knows the number of the step -/
def itr {σ : Type} (f : Nat → σ → σ) : Nat → σ → σ
  | 0, x => x
  | n + 1, x => f n (itr f n x)
theorem itr_s {σ : Type} (f : Nat → σ → σ) (n : Nat) (x : σ) : itr f (n + 1) x = f n (itr f n x) := rfl
theorem k_lt {k : Nat} {c : Int32} (hk : k < 2 ^ 31) : nI k < c ↔ k < c.toNatClampNeg := by
  have h1 := nI_toInt hk
  rw [Int32.lt_iff_toInt_lt, h1]
  have h2 : (c.toNatClampNeg : Int) = max c.toInt 0 := by
    show ((c.toInt.toNat : Nat) : Int) = _
    omega
  omega
theorem k_in {k N : Nat} {i : Int32} (hi : i = nI k) (h : k < N) (hN : N < 2 ^ 31) : vp_in i N := by subst hi; exact vp_in_nI h hN
theorem k_cl {k : Nat} {i : Int32} (hi : i = nI k) (hk : k < 2 ^ 31) : i.toNatClampNeg = k := by subst hi; exact nI_clamp hk
def bi (b : Bool) : Int32 := if b then 1 else 0
theorem bi_0 {b : Bool} : bi b = 0 ↔ b = false := by cases b <;> simp [bi]
theorem bi_n {b : Bool} : ¬ bi b = 0 ↔ b = true := by cases b <;> simp [bi]
theorem bi_nar (b : Bool) : narrow .boolean (.int (bi b)) = .int (bi b) := by cases b <;> rfl
theorem bi_t : bi true = 1 := rfl
theorem bi_f : bi false = 0 := rfl
theorem k_w0 (w : va_W) : w = [] ++ (w ++ []) := by simp
theorem k_clt (c : Int32) : c.toNatClampNeg < 2147483648 := by
  have h1 := Int32.toInt_lt c
  simp only [Int32.toNatClampNeg]
  omega
theorem k_body {k : Nat} {c : Int32} (h : ¬ c ≤ nI k) (hk : k ≤ c.toNatClampNeg) : k < c.toNatClampNeg := by
  have h1 := k_clt c
  exact (k_lt (by omega)).mp (Int32.not_le.mp h)
theorem k_exit {k : Nat} {c : Int32} (h : c ≤ nI k) (hk : k ≤ c.toNatClampNeg) : k = c.toNatClampNeg := by
  have h1 := k_clt c
  have h2 := mt (k_lt (c := c) (k := k) (by omega)).mpr (Int32.not_lt.mpr h)
  omega
/-! THE STATION'S STATE: numbers (size level low high time broken below nights, pumps' count, log's count), longs (dusk, leak), rows (settings demands, capacity oath mode place hourStarts starts minutes broken, log), waters -/
abbrev SS : Type := (Nat → Int32) × (Nat → Int64) × (Nat → Nat → Int32) × (Nat → Int64)
def setI (S : SS) (k : Nat) (v : Int32) : SS := (upd S.1 k v, S.2)
def setL (S : SS) (k : Nat) (v : Int64) : SS := (S.1, vp_updL S.2.1 k v, S.2.2)
def setA (S : SS) (j : Nat) (f : Nat → Int32) : SS := (S.1, S.2.1, (fun i => if i = j then f else S.2.2.1 i), S.2.2.2)
def setV (S : SS) (f : Nat → Int64) : SS := (S.1, S.2.1, S.2.2.1, f)
abbrev stW (q : Nat → Nat) (cI cJ : ClassId) (S : SS) : va_W :=
  [(q 0, .inr (3, [.int (S.1 0), .int (S.1 1), .int (S.1 2), .int (S.1 3), .int (S.1 4), .int (S.1 5), .int (S.1 6), .int (S.1 7), .long (S.2.1 0), .long (S.2.1 1), .ref (q 1), .ref (q 2), .ref (q 3), .ref (q 4), .ref (q 13)])),
   (q 1, .inl (cI, 3, .inl (S.2.2.1 0))), (q 2, .inl (cI, 24, .inl (S.2.2.1 1))), (q 3, .inl (cJ, 5, .inr (.inl S.2.2.2))),
   (q 4, .inr (2, [.int (S.1 8), .ref (q 5), .ref (q 6), .ref (q 7), .ref (q 8), .ref (q 9), .ref (q 10), .ref (q 11), .ref (q 12)])),
   (q 5, .inl (cI, 6, .inl (S.2.2.1 2))), (q 6, .inl (cI, 6, .inl (S.2.2.1 3))), (q 7, .inl (cI, 6, .inl (S.2.2.1 4))), (q 8, .inl (cI, 6, .inl (S.2.2.1 5))), (q 9, .inl (cI, 6, .inl (S.2.2.1 6))), (q 10, .inl (cI, 6, .inl (S.2.2.1 7))), (q 11, .inl (cI, 6, .inl (S.2.2.1 8))), (q 12, .inl (cI, 6, .inl (S.2.2.1 9))),
   (q 13, .inr (0, [.ref (q 14), .int (S.1 9)])), (q 14, .inl (cI, 36, .inl (S.2.2.1 10)))]
