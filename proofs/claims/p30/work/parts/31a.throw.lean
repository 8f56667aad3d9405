theorem bi_nt {b : Bool} (h : b = false) : ¬ b = true := by rw [h]; decide
/-! METHODS THAT THROW: what a throw needs of the start, and their contracts -/
def kStr : List (Nat × String) := [(49, "size is out of range"), (62, "the level or the band is above the size"), (71, "this is no band"), (73, "the band is above the size"), (78, "level is negative"), (80, "the level is above the size"), (86, "what or value is out of range"), (98, "there is no such hour"), (101, "demand is out of range"), (109, "an argument is out of range"), (120, "there are 6 pumps"), (128, "there is no such pump"), (130, "oath is out of range"), (139, "it is so already"), (144, "minutes is out of range"), (149, "the time would be too great"), (158, "what is out of range"), (193, "not so many entries are kept"), (237, "there is no saved state")]
theorem va_Nw_warmD {y : MethodName} {s U : State} (hW : s.WarmedH U.vm) (hZ : va_Nw (.declares y) s) : va_Nw (.declares y) U := va_tabs rfl (rfl : (s.setVm U.vm).vm = U.vm) (by rw [Cond.declares_setVm hW.alike]; exact hZ)
/-- the station's two rows of limits -/
def c_least (j : Nat) : Int32 := if j = 0 then 1 else 0
def c_most (j : Nat) : Int32 := if j = 0 then 5000 else if j = 1 then 100 else 1
def kZ (A : Nat → Prop) (U : State) : Prop := (∃ t : Nat, va_Z RX3 "LEAST_SETTING" "[I" (.ref t) A U U.heap ∧ va_T .int t 3 (fun j => .int (c_least j)) A U U.heap) ∧ (∃ t : Nat, va_Z RX3 "GREATEST_SETTING" "[I" (.ref t) A U U.heap ∧ va_T .int t 3 (fun j => .int (c_most j)) A U U.heap)
/-- what a throw in the class needs: the chain's constructors, its texts, the three classes' chains, two statics of Throwable's outside what may be written -/
def kDec : List MethodName := [Bundle.initS "java/lang/RuntimeException", Bundle.initS "java/lang/Exception", Bundle.initS Bundle.tN]
def kT (A : Nat → Prop) (U : State) : Prop := (∀ y ∈ kDec, va_Nw (.declares y) U) ∧ (∀ q ∈ kStr, ∃ a : Nat, vk_R RX4 q.1 q.2 a U) ∧ (∀ X ∈ ["java/lang/IllegalArgumentException", "java/lang/IllegalStateException", "java/lang/IndexOutOfBoundsException"], va_Nw (.castable X X) U) ∧ vx_Zq Bundle.tN "UNASSIGNED_STACK" Bundle.steD A U U.heap ∧ vx_Zq Bundle.tN "SUPPRESSED_SENTINEL" Bundle.listD A U U.heap ∧ kZ A U
theorem kT_warm {A B : Nat → Prop} {s U : State} {H : Heap} (h : kT A s) (hW : s.WarmedH U.vm) (hU : U.heap = H) (hq : ∀ a : Nat, a < s.heap.size → ¬ A a → H[a]? = s.heap[a]?) (hAB : ∀ q, B q → A q) : kT B U := by
  obtain ⟨h0, h1, h2, h3, h4, ⟨t5, z5, a5⟩, ⟨t6, z6, a6⟩⟩ := h
  refine ⟨fun y hy => va_Nw_warmD hW (h0 y hy), fun q hq => ?_, fun X hX => va_Nw.warmC hW (h2 X hX), ?_, ?_, ⟨t5, ?_, ?_⟩, ⟨t6, ?_, ?_⟩⟩
  · obtain ⟨a, ha⟩ := h1 q hq
    exact ⟨a, vk_R.warm hW ha⟩
  · rw [hU]; exact (vx_Zq.moved hW.alike (h3.kept hq)).narrow hAB
  · rw [hU]; exact (vx_Zq.moved hW.alike (h4.kept hq)).narrow hAB
  · rw [hU]; exact (va_Z.moved hW.alike (z5.kept hq)).narrow hAB
  · rw [hU]; exact (va_T.moved hW.alike (a5.kept hq)).narrow hAB
  · rw [hU]; exact (va_Z.moved hW.alike (z6.kept hq)).narrow hAB
  · rw [hU]; exact (va_T.moved hW.alike (a6.kept hq)).narrow hAB
def kBT (D : va_G) (tys : va_Ty) (w : va_W) (sz : Nat) (U : State) : Prop := kB D tys w sz U ∧ kT (va_A w sz) U
theorem kBT_blind {av : List Value} {D : va_G} {tys : va_Ty} {w : va_W} {sz : Nat} : FrameBlind (va_Pc av (kBT D tys w sz)) := fun a U g mk q => by
  obtain ⟨q0, ⟨q1, qP, qK, qD⟩, qT⟩ := q
  exact ⟨q0, ⟨q1, qP, va_K.moved (u := U) (U := U.calling g mk a) (Vm.Alike.refl U.vm) qK, qD⟩, kT_warm (s := U) (U := U.calling g mk a) (H := U.heap) qT (State.WarmedH.refl U) rfl (fun _ _ _ => rfl) (fun _ h => h)⟩
/-- a method that answers an int where th is none (its world w then w'), and throws th otherwise, its world as before -/
def kxI (l : Launch) (y : MethodName) (ws : List Cond) (rm : Room) (D : va_G) (tys : va_Ty) (av : List Value) (w : va_W) (th : Option String) (R : Int32) (w' : va_W) : Prop :=
  ∀ sz : Nat, vx_Met l y ws rm (va_Pc av (kBT D tys w sz)) (va_Qi (fun r (_ : Unit) => th = none ∧ r = R) (fun _ t => va_P D vwCl w' t.heap) (va_A w sz)) (vx_X (fun (_ : Unit) => True) (fun E _ t => th = some E ∧ va_P D vwCl w t.heap) (va_A w sz)) 1 6 (va_A w sz)
def kxL (l : Launch) (y : MethodName) (ws : List Cond) (rm : Room) (D : va_G) (tys : va_Ty) (av : List Value) (w : va_W) (th : Option String) (R : Int64) (w' : va_W) : Prop :=
  ∀ sz : Nat, vx_Met l y ws rm (va_Pc av (kBT D tys w sz)) (va_Ql (fun r (_ : Unit) => th = none ∧ r = R) (fun _ t => va_P D vwCl w' t.heap) (va_A w sz)) (vx_X (fun (_ : Unit) => True) (fun E _ t => th = some E ∧ va_P D vwCl w t.heap) (va_A w sz)) 1 6 (va_A w sz)
/-- a method that makes nothing and throws nothing, but reads what kT gives -/
def kTI (l : Launch) (y : MethodName) (ws : List Cond) (rm : Room) (D : va_G) (tys : va_Ty) (av : List Value) (w : va_W) (R : Int32) (w' : va_W) : Prop :=
  ∀ sz : Nat, Met l y ws rm (va_Pc av (kBT D tys w sz)) (va_Qi (fun r (_ : Unit) => r = R) (fun _ t => va_P D vwCl w' t.heap) (va_A w sz)) 0 0 (va_A w sz)
theorem k_preT {s : State} {H : Heap} {locs : List Loc} {D : va_G} {tys : va_Ty} {A : Nat → Prop} {av : List Value} {a z wc w : va_W} (hw : w = a ++ (wc ++ z)) (hK : va_K D vwCl tys s) (hP : va_P D vwCl w H) (hD : va_D A w) (hS : va_S A s.heap H locs) (hA : ∀ q : Nat, s.heap.size ≤ q → A q) (hT : kT A s) : ∀ U : State, U.heap = H → s.WarmedH U.vm → va_Pc av (kBT D tys wc H.size) av.toArray U := fun U hU hW => by
  obtain ⟨q0, q1⟩ := k_pre (av := av) hw hK hP hD U hU hW
  exact ⟨q0, q1, kT_warm hT hW hU hS.2.1 (k_free (H0 := s.heap) hw hD hS hA)⟩
def kTBody (y : MethodName) (ws : List Cond) (rm : Room) (D : va_G) (tys : va_Ty) (av : List Value) (w : va_W) (cc : ByteArray) (maxL : Nat) (ret : Option FieldType) (l : Launch) (Qc : (Nat → Prop) → Array Value → State → Outcome → State → Prop) : Prop :=
  ∀ (p : Program) (e : Env) (s : State) (m : MethodId) (below : List Frame) (meth : Method) (c : Code) (A : Nat → Prop) (ls : Array Slot),
    p.tables.exec = Jvm.exec → c.code = cc → meth.sig.returnType = ret → c.maxLocals = maxL → (∀ q ∈ ws, q.before av.toArray s = true) → s.vm.findClass y.cls = some m.cls → meth.locks = false →
    va_K D vwCl tys s → va_P D vwCl w s.heap → va_D A w → (∀ q : Nat, s.heap.size ≤ q → A q) → kT A s → lv_has ls maxL (lv_args 0 av) →
    W p l e rm s m av.toArray below meth c s.heap [] 0 0 (MQ below (Qc A) av.toArray s 0 0 A) (F0 m 0 ls [])
theorem kTBody.met {y : MethodName} {ws ws' : List Cond} {rm : Room} {D : va_G} {tys : va_Ty} {av : List Value} {w : va_W} {cc : ByteArray} {maxL : Nat} {ret : Option FieldType} {l : Launch} {Qc : (Nat → Prop) → Array Value → State → Outcome → State → Prop} (hy : plainName y.cls = true) (hw : ws = Cond.code y cc maxL ret :: ws') (hn : (lg_sl av).length ≤ maxL)
    (h : kTBody y ws rm D tys av w cc maxL ret l Qc) (sz : Nat) : Met l y ws rm (va_Pc av (kBT D tys w sz)) (Qc (va_A w sz)) 0 0 (va_A w sz) := by
  refine Met.ofW (cc := cc) (maxL := maxL) (ret := ret) hy hw ?_
  intro p e s m args below meth c s₁ B hml hv
  obtain ⟨rfl, ⟨hsz, hP, hK, hD0⟩, hT⟩ := hv
  have hts := atoms_spec (ws := ws) B.pre
  have hown : s.vm.findClass y.cls = some m.cls := findClass_of_methodNamed B.named
  subst hsz
  have hD := hD0.self (sz := s.heap.size)
  have hl := lv_entry av hn
  rw [lg_entry_eq]
  exact h p e s m below meth c _ _ B.exec B.bytes B.returns hml hts hown B.notSynchronized hK hP hD (fun q h => Or.inr h) hT hl
def kxBody (y : MethodName) (ws : List Cond) (rm : Room) (D : va_G) (tys : va_Ty) (av : List Value) (w : va_W) (cc : ByteArray) (maxL : Nat) (ret : Option FieldType) (l : Launch) (Qc : (Nat → Prop) → Array Value → State → Outcome → State → Prop) (XC : (Nat → Prop) → String → State → State → Prop) : Prop :=
  ∀ (p : Program) (e : Env) (s : State) (m : MethodId) (below : List Frame) (meth : Method) (c : Code) (A : Nat → Prop) (ls : Array Slot),
    p.tables.exec = Jvm.exec → c.code = cc → meth.sig.returnType = ret → c.maxLocals = maxL → (∀ q ∈ ws, q.before av.toArray s = true) → s.vm.findClass y.cls = some m.cls → meth.locks = false →
    va_K D vwCl tys s → va_P D vwCl w s.heap → va_D A w → (∀ q : Nat, s.heap.size ≤ q → A q) → kT A s → (∀ x ∈ c.exceptionTable.toList, False) → lv_has ls maxL (lv_args 0 av) →
    W p l e rm s m av.toArray below meth c s.heap [] 0 0 (vx_MQ below (Qc A) (XC A) av.toArray s 1 6 A) (F0 m 0 ls [])
theorem kxBody.met {y : MethodName} {ws ws' : List Cond} {rm : Room} {D : va_G} {tys : va_Ty} {av : List Value} {w : va_W} {cc : ByteArray} {maxL : Nat} {ret : Option FieldType} {l : Launch} {Qc : (Nat → Prop) → Array Value → State → Outcome → State → Prop} {XC : (Nat → Prop) → String → State → State → Prop} (hy : plainName y.cls = true) (hw : ws = Cond.code y cc maxL ret :: ws') (hn : (lg_sl av).length ≤ maxL)
    (h : kxBody y ws rm D tys av w cc maxL ret l Qc XC) (sz : Nat) : vx_Met l y ws rm (va_Pc av (kBT D tys w sz)) (Qc (va_A w sz)) (XC (va_A w sz)) 1 6 (va_A w sz) := by
  refine vx_ofW (cc := cc) (maxL := maxL) (ret := ret) hy hw ?_
  intro p e s m args below meth c s₁ B hml htb hv
  obtain ⟨rfl, ⟨hsz, hP, hK, hD0⟩, hT⟩ := hv
  have hts := atoms_spec (ws := ws) B.pre
  have hown : s.vm.findClass y.cls = some m.cls := findClass_of_methodNamed B.named
  subst hsz
  have hD := hD0.self (sz := s.heap.size)
  have hl := lv_entry av hn
  rw [lg_entry_eq]
  exact h p e s m below meth c _ _ B.exec B.bytes B.returns hml hts hown B.notSynchronized hK hP hD (fun q h => Or.inr h) hT htb hl
section KX
variable {p : Program} {l : Launch} {e : Env} {R : Room} {s : State} {m : MethodId} {args : Array Value} {below : List Frame} {meth : Method} {c : Code} {H : Heap} {locs : List Loc} {D : va_G} {cc : ByteArray} {A : Nat → Prop} {pc : Nat} {ls : Array Slot} {w1 w w' : va_W} {XC : String → State → State → Prop} {Qc : Array Value → State → Outcome → State → Prop} {th : Option String}
theorem k_xiret {v r9 : Int32} {ty : FieldType} (hx : p.tables.exec = Jvm.exec) (hb : c.code = cc) (hr : meth.sig.returnType = some ty) (hlk : meth.locks = false) (hP : va_P D vwCl w1 H) (hS : va_S A s.heap H locs) (hdg : decode cc pc = .ok (.ireturn, 1)) (hn : narrow ty (.int v) = .int v) (ht0 : th = none) (hv : v = r9) (hw : va_P D vwCl w1 H → va_P D vwCl w' H) :
    W p l e R s m args below meth c H locs 0 0 (vx_MQ below (va_Qi (fun r (_ : Unit) => th = none ∧ r = r9) (fun _ t => va_P D vwCl w' t.heap) A) XC args s 1 6 A) (F0 m pc ls [.int v]) :=
  vx_ret (W.widen (Nat.zero_le 1) (Nat.zero_le 6) (W.zret (ty := ty) hx hb hr hn (fun t ht hW => ⟨⟨v, (), rfl, ⟨ht0, hv⟩, by show va_P D vwCl w' t.heap; rw [ht]; exact hw hP⟩, hS.F ht⟩) hS.2.2 hdg hlk))
theorem k_xlret {v r9 : Int64} (hx : p.tables.exec = Jvm.exec) (hb : c.code = cc) (hr : meth.sig.returnType = some .long) (hlk : meth.locks = false) (hP : va_P D vwCl w1 H) (hS : va_S A s.heap H locs) (hdg : decode cc pc = .ok (.lreturn, 1)) (ht0 : th = none) (hv : v = r9) (hw : va_P D vwCl w1 H → va_P D vwCl w' H) :
    W p l e R s m args below meth c H locs 0 0 (vx_MQ below (va_Ql (fun r (_ : Unit) => th = none ∧ r = r9) (fun _ t => va_P D vwCl w' t.heap) A) XC args s 1 6 A) (F0 m pc ls [.long v]) :=
  vx_ret (W.widen (Nat.zero_le 1) (Nat.zero_le 6) (W.lret hx hb hr (fun t ht hW => ⟨⟨v, (), rfl, ⟨ht0, hv⟩, by show va_P D vwCl w' t.heap; rw [ht]; exact hw hP⟩, hS.F ht⟩) hS.2.2 hdg hlk))
theorem k_throw {E : String} {ik is ic : Nat} {text : String} (hx : p.tables.exec = Jvm.exec) (hb : c.code = cc) (hl : l.stackTraces = false) (hown : s.vm.findClass RX4 = some m.cls) (hT : kT A s) (htb : ∀ x ∈ c.exceptionTable.toList, False) (hsize : ls.size = c.maxLocals) (hlk : meth.locks = false) (hP : va_P D vwCl w H) (hS : va_S A s.heap H locs)
    (hE : E ∈ ["java/lang/IllegalArgumentException", "java/lang/IllegalStateException", "java/lang/IndexOutOfBoundsException"]) (hfit : Bundle.fit E = true) (hq : (is, text) ∈ kStr)
    (hk : (Cond.classLink RX4 ik E).before args s = true) (hini : (Cond.initialized E).before args s = true) (hat : ∀ w ∈ (vx_atS RX4 ic E ["java/lang/RuntimeException", "java/lang/Exception"]).filter goodWord, w.before args s = true)
    (hbad : ∀ w ∈ (vx_atS RX4 ic E ["java/lang/RuntimeException", "java/lang/Exception"]).filter (fun w => !goodWord w), w ∈ Cond.castable E E :: kDec.map Cond.declares) (hgood : ∀ w ∈ Cond.classLink RX4 ik E :: Cond.initialized E :: vx_atS RX4 ic E ["java/lang/RuntimeException", "java/lang/Exception"], vx_ot w = true)
    (d0 : decode cc pc = .ok (.new ik, 3)) (d3 : decode cc (pc + 3) = .ok (.dup, 1)) (d4 : decode cc (pc + 4) = .ok (.ldc is, 2)) (d6 : decode cc (pc + 6) = .ok (.invokespecial ic, 3)) (d9 : decode cc (pc + 9) = .ok (.athrow, 1))
    (hRf : 5 < R.frames) (hRl : 82 ≤ R.locals) (hRc : 1 ≤ R.cells) (hRs : 6 ≤ R.slots) (ht0 : th = some E) :
    W p l e R s m args below meth c H locs 0 0 (vx_MQ below Qc (vx_X (fun (_ : Unit) => True) (fun E _ t => th = some E ∧ va_P D vwCl w t.heap) A) args s 1 6 A) (F0 m pc ls []) := by
  obtain ⟨h0, h1, h2, h3, h4, h5⟩ := hT
  obtain ⟨sa, hsa⟩ := h1 _ hq
  refine vx_throwS (names := ["java/lang/RuntimeException", "java/lang/Exception"]) (ik := ik) (is := is) (ic := ic) (text := text) (cls := E) (sa := sa) (A := A) (own := RX4) hx hb hl hown hfit ?_ hk hini hsa ?_ hgood h3 h4 hS hsize d0 d3 d4 d6 d9 (fun x hx9 => (htb x hx9).elim) hRf (Nat.le_trans (Nat.le_of_ble_eq_true rfl) hRl) (by omega) (by omega) hlk ?_ hS.2.2 (Nat.le_refl _) (Nat.le_refl _)
  · intro n hn
    exact List.all_eq_true.mp (show (["java/lang/RuntimeException", "java/lang/Exception"].all Bundle.fit) = true by decide +kernel) n hn
  · exact vx_hat hat hbad (fun w hw => by
      rcases List.mem_cons.mp hw with e | e
      · rw [e]; exact va_Nw.use rfl (h2 E hE)
      · obtain ⟨y, hy, e2⟩ := List.mem_map.mp e
        rw [← e2]; exact va_Nw.use rfl (h0 y hy))
  · intro t hvm hsz hkeep
    refine ⟨(), trivial, ⟨ht0, ?_⟩, ?_⟩
    · exact va_P_beside (A0 := A) (b := []) (wc := []) (sz := H.size) hP (fun q hq _ => hkeep q hq) rfl (fun i j p q _ hj => nomatch hj)
    · exact ⟨Nat.le_trans hS.1 hsz, fun q hq hA => (hkeep q (Nat.lt_of_lt_of_le hq hS.1)).trans (hS.2.1 q hq hA)⟩
end KX

theorem k_badIAE : ∀ w ∈ (vx_atS RX4 51 "java/lang/IllegalArgumentException" ["java/lang/RuntimeException", "java/lang/Exception"]).filter (fun w => !goodWord w), w ∈ Cond.castable "java/lang/IllegalArgumentException" "java/lang/IllegalArgumentException" :: kDec.map Cond.declares := by
  have h : ((vx_atS RX4 51 "java/lang/IllegalArgumentException" ["java/lang/RuntimeException", "java/lang/Exception"]).filter (fun w => !goodWord w)).all (fun w => decide (w ∈ Cond.castable "java/lang/IllegalArgumentException" "java/lang/IllegalArgumentException" :: kDec.map Cond.declares)) = true := by decide +kernel
  exact fun w hw => of_decide_eq_true (List.all_eq_true.mp h w hw)
theorem k_otIAE : ∀ w ∈ vx_atS RX4 51 "java/lang/IllegalArgumentException" ["java/lang/RuntimeException", "java/lang/Exception"], vx_ot w = true := fun w hw => List.all_eq_true.mp (show ((vx_atS RX4 51 "java/lang/IllegalArgumentException" ["java/lang/RuntimeException", "java/lang/Exception"]).all vx_ot) = true by decide +kernel) w hw

theorem k_badISE : ∀ w ∈ (vx_atS RX4 64 "java/lang/IllegalStateException" ["java/lang/RuntimeException", "java/lang/Exception"]).filter (fun w => !goodWord w), w ∈ Cond.castable "java/lang/IllegalStateException" "java/lang/IllegalStateException" :: kDec.map Cond.declares := by
  have h : ((vx_atS RX4 64 "java/lang/IllegalStateException" ["java/lang/RuntimeException", "java/lang/Exception"]).filter (fun w => !goodWord w)).all (fun w => decide (w ∈ Cond.castable "java/lang/IllegalStateException" "java/lang/IllegalStateException" :: kDec.map Cond.declares)) = true := by decide +kernel
  exact fun w hw => of_decide_eq_true (List.all_eq_true.mp h w hw)
theorem k_otISE : ∀ w ∈ vx_atS RX4 64 "java/lang/IllegalStateException" ["java/lang/RuntimeException", "java/lang/Exception"], vx_ot w = true := fun w hw => List.all_eq_true.mp (show ((vx_atS RX4 64 "java/lang/IllegalStateException" ["java/lang/RuntimeException", "java/lang/Exception"]).all vx_ot) = true by decide +kernel) w hw

theorem k_badIOB : ∀ w ∈ (vx_atS RX4 100 "java/lang/IndexOutOfBoundsException" ["java/lang/RuntimeException", "java/lang/Exception"]).filter (fun w => !goodWord w), w ∈ Cond.castable "java/lang/IndexOutOfBoundsException" "java/lang/IndexOutOfBoundsException" :: kDec.map Cond.declares := by
  have h : ((vx_atS RX4 100 "java/lang/IndexOutOfBoundsException" ["java/lang/RuntimeException", "java/lang/Exception"]).filter (fun w => !goodWord w)).all (fun w => decide (w ∈ Cond.castable "java/lang/IndexOutOfBoundsException" "java/lang/IndexOutOfBoundsException" :: kDec.map Cond.declares)) = true := by decide +kernel
  exact fun w hw => of_decide_eq_true (List.all_eq_true.mp h w hw)
theorem k_otIOB : ∀ w ∈ vx_atS RX4 100 "java/lang/IndexOutOfBoundsException" ["java/lang/RuntimeException", "java/lang/Exception"], vx_ot w = true := fun w hw => List.all_eq_true.mp (show ((vx_atS RX4 100 "java/lang/IndexOutOfBoundsException" ["java/lang/RuntimeException", "java/lang/Exception"]).all vx_ot) = true by decide +kernel) w hw
