/-! CONSTRUCTORS THAT CALL CONSTRUCTORS of private classes: links between nest mates are given -/
abbrev kNs : Type := List (String × Nat × MethodName × String)
def kBN (D : va_G) (tys : va_Ty) (ns : kNs) (w : va_W) (sz : Nat) (U : State) : Prop := kB D tys w sz U ∧ ∀ q ∈ ns, va_Nw (.methodLinkNest q.1 q.2.1 q.2.2.1 q.2.2.2) U
theorem kBN_blind {av : List Value} {D : va_G} {tys : va_Ty} {ns : kNs} {w : va_W} {sz : Nat} : FrameBlind (va_Pc av (kBN D tys ns w sz)) := fun a U g mk q => by
  obtain ⟨q0, ⟨q1, qP, qK, qD⟩, qT⟩ := q
  exact ⟨q0, ⟨q1, qP, va_K.moved (u := U) (U := U.calling g mk a) (Vm.Alike.refl U.vm) qK, qD⟩, fun q hq => va_Nw.warmM (s := U) (U := U.calling g mk a) (State.WarmedH.refl U) (qT q hq)⟩
def kN2 (l : Launch) (y : MethodName) (ws : List Cond) (rm : Room) (mc ms : Nat) (D : va_G) (tys : va_Ty) (ns : kNs) (av : List Value) (w : va_W) (a0 : Nat) (W' : (Nat → Nat) → va_W) : Prop :=
  ∀ sz : Nat, Met l y ws rm (va_Pc av (kBN D tys ns w sz)) (va_Qv (fun (u : Nat → Nat) => u 0 = a0) (fun u t => va_P D vwCl (W' u) t.heap ∧ va_D (va_A w sz) (W' u)) (va_A w sz)) mc ms (va_A w sz)
def kN2Body (y : MethodName) (ws : List Cond) (rm : Room) (mc ms : Nat) (D : va_G) (tys : va_Ty) (ns : kNs) (av : List Value) (w : va_W) (cc : ByteArray) (maxL : Nat) (l : Launch) (Qc : (Nat → Prop) → Array Value → State → Outcome → State → Prop) : Prop :=
  ∀ (p : Program) (e : Env) (s : State) (m : MethodId) (below : List Frame) (meth : Method) (c : Code) (A : Nat → Prop) (ls : Array Slot),
    p.tables.exec = Jvm.exec → c.code = cc → meth.sig.returnType = none → c.maxLocals = maxL → (∀ q ∈ ws, q.before av.toArray s = true) → s.vm.findClass y.cls = some m.cls → meth.locks = false → meth.name = y.name →
    va_K D vwCl tys s → va_P D vwCl w s.heap → va_D A w → (∀ q : Nat, s.heap.size ≤ q → A q) → (∀ q ∈ ns, va_Nw (.methodLinkNest q.1 q.2.1 q.2.2.1 q.2.2.2) s) → lv_has ls maxL (lv_args 0 av) →
    W p l e rm s m av.toArray below meth c s.heap [] 0 0 (MQ below (Qc A) av.toArray s mc ms A) (F0 m 0 ls [])
theorem kN2Body.met {y : MethodName} {ws ws' : List Cond} {rm : Room} {mc ms : Nat} {D : va_G} {tys : va_Ty} {ns : kNs} {av : List Value} {w : va_W} {cc : ByteArray} {maxL : Nat} {l : Launch} {Qc : (Nat → Prop) → Array Value → State → Outcome → State → Prop} (hy : plainName y.cls = true) (hw : ws = Cond.code y cc maxL none :: ws') (hn : (lg_sl av).length ≤ maxL)
    (h : kN2Body y ws rm mc ms D tys ns av w cc maxL l Qc) (sz : Nat) : Met l y ws rm (va_Pc av (kBN D tys ns w sz)) (Qc (va_A w sz)) mc ms (va_A w sz) := by
  refine Met.ofW (cc := cc) (maxL := maxL) (ret := none) hy hw ?_
  intro p e s m args below meth c s₁ B hml hv
  obtain ⟨rfl, ⟨hsz, hP, hK, hD0⟩, hNN⟩ := hv
  have hts := atoms_spec (ws := ws) B.pre
  have hown : s.vm.findClass y.cls = some m.cls := findClass_of_methodNamed B.named
  have hin : meth.name = y.name := (name_of_methodNamed B.named B.method).1
  subst hsz
  have hD := hD0.self (sz := s.heap.size)
  have hl := lv_entry av hn
  rw [lg_entry_eq]
  exact h p e s m below meth c _ _ B.exec B.bytes B.returns hml hts hown B.notSynchronized hin hK hP hD (fun q h => Or.inr h) hNN hl
section KN2
variable {p : Program} {l : Launch} {e : Env} {R : Room} {s : State} {m : MethodId} {args : Array Value} {below : List Frame} {meth : Method} {c : Code} {H : Heap} {locs : List Loc} {cells slots mc ms : Nat} {Q : State → Prop} {D : va_G} {tys : va_Ty} {cc : ByteArray} {A : Nat → Prop} {pc : Nat} {ls : Array Slot} {rest st0 As : List Value}
theorem k_callN {wr wc w : va_W} {W' : (Nat → Nat) → va_W} {a1 : Nat} (hr : va_Run p l e R s m args below meth c H locs cells slots mc ms (F0 m pc ls st0) rest (va_Qv (fun (u : Nat → Nat) => u 0 = a1) (fun u t => va_P D vwCl (W' u) t.heap ∧ va_D (va_A wc H.size) (W' u)) (va_A wc H.size) As.toArray) (va_A wc H.size)) (hP : va_P D vwCl w H) (hD : va_D A w) (hS : va_S A s.heap H locs) (hA : ∀ q : Nat, s.heap.size ≤ q → A q)
    (isC isR : List Nat) (hC : isC.map (fun i => w[i]?) = wc.map some) (hR : isR.map (fun i => w[i]?) = wr.map some) (hn : va_nd isR = true) (hdis : ∀ i ∈ isR, i ∉ isC)
    (kk : ∀ (u : Nat → Nat) (H1 : Heap) (locs1 : List Loc), u 0 = a1 → va_P D vwCl (wr ++ W' u) H1 → va_D A (wr ++ W' u) → va_S A s.heap H1 locs1 → W p l e R s m args below meth c H1 locs1 (cells + mc) (slots + ms) Q (F0 m (pc + 3) ls rest)) : W p l e R s m args below meth c H locs cells slots Q (F0 m pc ls st0) := by
  have hFc := va_free hD hS hA isC hC
  refine va_callv hr hS (fun q _ h => hFc q h) hFc (fun u t H1 locs1 ht hvm hu hB hz hk hS1 => ?_)
  obtain ⟨hP1, hD1⟩ := hB
  rw [ht] at hP1
  obtain ⟨h1, h2⟩ := va_join hP hD isC isR hC hR hn hdis hk hFc hP1 hD1
  exact kk u H1 locs1 hu h1 h2 hS1
theorem k_preN {ns : kNs} {av : List Value} {a z wc w : va_W} (hw : w = a ++ (wc ++ z)) (hK : va_K D vwCl tys s) (hP : va_P D vwCl w H) (hD : va_D A w) (hN : ∀ q ∈ ns, va_Nw (.methodLinkNest q.1 q.2.1 q.2.2.1 q.2.2.2) s) : ∀ U : State, U.heap = H → s.WarmedH U.vm → va_Pc av (kBN D tys ns wc H.size) av.toArray U := fun U hU hW => by
  obtain ⟨q0, q1⟩ := k_pre (av := av) hw hK hP hD U hU hW
  exact ⟨q0, q1, fun q hq => va_Nw.warmM hW (hN q hq)⟩
end KN2
def kNs3 : kNs := [(RX3, 37, yX2_init, RX4), (RX3, 44, yX0_init, RX4)]
def s_new0 : SS := (fun i => if i = 0 then 10000 else if i = 1 then 5000 else if i = 2 then 4000 else if i = 3 then 8000 else 0, fun _ => 0, fun _ _ => 0, fun _ => 0)
def s_new : SS := setA (setA s_new0 0 (upd (upd (s_new0.2.2.1 0) 0 500) 2 1)) 1 (itr (p_fillB 20) 24 (s_new0.2.2.1 1))

set_option maxHeartbeats 1000000 in
set_option maxRecDepth 100000 in
theorem c_X3_init (l : Launch) (D : va_G) (a0 : Nat) (cI cJ : ClassId) : kN2 l yX3_init wsX3_init ({ frames := 2, cells := 14, slots := 127, locals := 33 } : Room) 14 127 D [(cI, .int), (cJ, .long)] kNs3 [.ref a0] [(a0, .inr (3, [.int 0, .int 0, .int 0, .int 0, .int 0, .int 0, .int 0, .int 0, .long 0, .long 0, .null, .null, .null, .null, .null]))] a0 (fun u : Nat → Nat => stW u cI cJ s_new) := by
  intro sz
  refine kN2Body.met (y := yX3_init) (ws := wsX3_init) (av := [.ref a0]) (w := [(a0, .inr (3, [.int 0, .int 0, .int 0, .int 0, .int 0, .int 0, .int 0, .int 0, .long 0, .long 0, .null, .null, .null, .null, .null]))]) (cc := cX3_init) (maxL := 2) (Qc := fun A => va_Qv (fun (u : Nat → Nat) => u 0 = a0) (fun u t => va_P D vwCl ((fun u : Nat → Nat => stW u cI cJ s_new) u) t.heap ∧ va_D A ((fun u : Nat → Nat => stW u cI cJ s_new) u)) A) (by decide) rfl (Nat.le_of_ble_eq_true rfl) ?_ sz
  intro p9 e9 s9 m9 below meth c9 A9 ls hx hb hr hml hts hown hlk hin0 hK hP hD hA hNN hl
  have hown : s9.vm.findClass RX3 = some m9.cls := hown
  have inX0 : ∀ w ∈ wsX00, w ∈ wsX3_init := fun w h => List.mem_cons_of_mem _ (List.mem_append_right _ (h))
  have inX2 : ∀ w ∈ wsX20, w ∈ wsX3_init := fun w h => List.mem_cons_of_mem _ (List.mem_append_left _ (List.mem_append_right _ (h)))
  have inX3 : ∀ w ∈ wsX30, w ∈ wsX3_init := fun w h => List.mem_cons_of_mem _ (List.mem_append_left _ (List.mem_append_left _ (List.mem_append_right _ (h))))
  have hS : va_S A9 s9.heap s9.heap [] := va_S.rf
  have hl : lv_has ls 2 [(0, .ref a0)] := hl
  refine lv_aload_n hx hb dX3_init_0 rfl (lv_at hl 0 rfl) ?_
  refine W.objInit hx hb hown (hts (.methodLink RX3 5 objectInit) (List.mem_of_getElem? (i := 1) rfl)) (hts (.instanceMethod objectInit) (List.mem_of_getElem? (i := 2) rfl)) (hts (.code objectInit ⟨#[0xb1]⟩ 1 none) (List.mem_of_getElem? (i := 3) rfl)) rfl (hml.trans hl.1.symm).symm rfl dX3_init_1 (Nat.le_of_ble_eq_true rfl) (Nat.le_of_ble_eq_true rfl) ?_
  refine W.eq (g2 := F0 m9 4 ls []) rfl ?_
  refine lv_aload_n hx hb dX3_init_4 rfl (lv_at hl 0 rfl) ?_
  refine lv_sipush (v := 10000) hx hb dX3_init_5 (by decide) ?_
  refine va_put (D := D) (ci := 3) (v := .int 10000) (ty := tyX3 0) (C := RX3) (T := TX3) (N := 15) hx hb hts inX3 tyX3 tyX3_ok nmX3 hown hK hP hD hS 0 rfl rfl 0 (by decide) (hts (.fieldLink RX3 11 "PumpOaths$Station" "size" "I") (List.mem_of_getElem? (i := 4) rfl)) (fun _ h9 => h9) rfl (by decide +kernel) rfl rfl (Nat.le_of_ble_eq_true rfl) dX3_init_8 (fun H locs hP hD hS => ?_)
  have hP : va_P D vwCl [(a0, .inr (3, [.int 10000, .int 0, .int 0, .int 0, .int 0, .int 0, .int 0, .int 0, .long 0, .long 0, .null, .null, .null, .null, .null]))] H := hP
  have hD : va_D A9 [(a0, .inr (3, [.int 10000, .int 0, .int 0, .int 0, .int 0, .int 0, .int 0, .int 0, .long 0, .long 0, .null, .null, .null, .null, .null]))] := hD
  refine lv_aload_n hx hb dX3_init_11 rfl (lv_at hl 0 rfl) ?_
  refine lv_sipush (v := 5000) hx hb dX3_init_12 (by decide) ?_
  refine va_put (D := D) (ci := 3) (v := .int 5000) (ty := tyX3 1) (C := RX3) (T := TX3) (N := 15) hx hb hts inX3 tyX3 tyX3_ok nmX3 hown hK hP hD hS 0 rfl rfl 1 (by decide) (hts (.fieldLink RX3 15 "PumpOaths$Station" "level" "I") (List.mem_of_getElem? (i := 5) rfl)) (fun _ h9 => h9) rfl (by decide +kernel) rfl rfl (Nat.le_of_ble_eq_true rfl) dX3_init_15 (fun H locs hP hD hS => ?_)
  have hP : va_P D vwCl [(a0, .inr (3, [.int 10000, .int 5000, .int 0, .int 0, .int 0, .int 0, .int 0, .int 0, .long 0, .long 0, .null, .null, .null, .null, .null]))] H := hP
  have hD : va_D A9 [(a0, .inr (3, [.int 10000, .int 5000, .int 0, .int 0, .int 0, .int 0, .int 0, .int 0, .long 0, .long 0, .null, .null, .null, .null, .null]))] := hD
  refine lv_aload_n hx hb dX3_init_18 rfl (lv_at hl 0 rfl) ?_
  refine lv_sipush (v := 4000) hx hb dX3_init_19 (by decide) ?_
  refine va_put (D := D) (ci := 3) (v := .int 4000) (ty := tyX3 2) (C := RX3) (T := TX3) (N := 15) hx hb hts inX3 tyX3 tyX3_ok nmX3 hown hK hP hD hS 0 rfl rfl 2 (by decide) (hts (.fieldLink RX3 18 "PumpOaths$Station" "low" "I") (List.mem_of_getElem? (i := 6) rfl)) (fun _ h9 => h9) rfl (by decide +kernel) rfl rfl (Nat.le_of_ble_eq_true rfl) dX3_init_22 (fun H locs hP hD hS => ?_)
  have hP : va_P D vwCl [(a0, .inr (3, [.int 10000, .int 5000, .int 4000, .int 0, .int 0, .int 0, .int 0, .int 0, .long 0, .long 0, .null, .null, .null, .null, .null]))] H := hP
  have hD : va_D A9 [(a0, .inr (3, [.int 10000, .int 5000, .int 4000, .int 0, .int 0, .int 0, .int 0, .int 0, .long 0, .long 0, .null, .null, .null, .null, .null]))] := hD
  refine lv_aload_n hx hb dX3_init_25 rfl (lv_at hl 0 rfl) ?_
  refine lv_sipush (v := 8000) hx hb dX3_init_26 (by decide) ?_
  refine va_put (D := D) (ci := 3) (v := .int 8000) (ty := tyX3 3) (C := RX3) (T := TX3) (N := 15) hx hb hts inX3 tyX3 tyX3_ok nmX3 hown hK hP hD hS 0 rfl rfl 3 (by decide) (hts (.fieldLink RX3 21 "PumpOaths$Station" "high" "I") (List.mem_of_getElem? (i := 7) rfl)) (fun _ h9 => h9) rfl (by decide +kernel) rfl rfl (Nat.le_of_ble_eq_true rfl) dX3_init_29 (fun H locs hP hD hS => ?_)
  have hP : va_P D vwCl [(a0, .inr (3, [.int 10000, .int 5000, .int 4000, .int 8000, .int 0, .int 0, .int 0, .int 0, .long 0, .long 0, .null, .null, .null, .null, .null]))] H := hP
  have hD : va_D A9 [(a0, .inr (3, [.int 10000, .int 5000, .int 4000, .int 8000, .int 0, .int 0, .int 0, .int 0, .long 0, .long 0, .null, .null, .null, .null, .null]))] := hD
  refine lv_aload_n hx hb dX3_init_32 rfl (lv_at hl 0 rfl) ?_
  refine lv_iconst (v := 3) hx hb dX3_init_33 (by decide) ?_
  refine k_newai hx hb (hts (.arrayClass .int) (List.mem_of_getElem? (i := 8) rfl)) hK 0 rfl hP hD hS hA (N := 3) (by decide) rfl (Nat.le_of_ble_eq_true rfl) (Nat.le_of_ble_eq_true rfl) (Nat.le_of_ble_eq_true rfl) dX3_init_34 (fun z1 H hP hD hS => ?_)
  have hP : va_P D vwCl [(a0, .inr (3, [.int 10000, .int 5000, .int 4000, .int 8000, .int 0, .int 0, .int 0, .int 0, .long 0, .long 0, .null, .null, .null, .null, .null])), (z1, .inl (cI, 3, .inl (fun _ => 0)))] H := hP
  have hD : va_D A9 [(a0, .inr (3, [.int 10000, .int 5000, .int 4000, .int 8000, .int 0, .int 0, .int 0, .int 0, .long 0, .long 0, .null, .null, .null, .null, .null])), (z1, .inl (cI, 3, .inl (fun _ => 0)))] := hD
  refine W.widen (k := 1) (n := 3) (Nat.le_of_ble_eq_true rfl) (Nat.le_of_ble_eq_true rfl) ?_
  refine va_putF (D := D) (ci := 3) (v := .ref z1) (ty := tyX3 10) (C := RX3) (T := TX3) (N := 15) hx hb hts inX3 tyX3 tyX3_ok nmX3 hown hK hP hD hS 0 rfl rfl 10 (by decide) (hts (.fieldLink RX3 24 "PumpOaths$Station" "settings" "[I") (List.mem_of_getElem? (i := 9) rfl)) (fun _ h9 => h9) rfl hin0 rfl (by decide +kernel) rfl rfl (Nat.le_of_ble_eq_true rfl) dX3_init_36 (fun H locs hP hD hS => ?_)
  have hP : va_P D vwCl [(a0, .inr (3, [.int 10000, .int 5000, .int 4000, .int 8000, .int 0, .int 0, .int 0, .int 0, .long 0, .long 0, .ref z1, .null, .null, .null, .null])), (z1, .inl (cI, 3, .inl (fun _ => 0)))] H := hP
  have hD : va_D A9 [(a0, .inr (3, [.int 10000, .int 5000, .int 4000, .int 8000, .int 0, .int 0, .int 0, .int 0, .long 0, .long 0, .ref z1, .null, .null, .null, .null])), (z1, .inl (cI, 3, .inl (fun _ => 0)))] := hD
  refine lv_aload_n hx hb dX3_init_39 rfl (lv_at hl 0 rfl) ?_
  refine lv_bipush (v := 24) hx hb dX3_init_40 (by decide) ?_
  refine k_newai hx hb (hts (.arrayClass .int) (List.mem_of_getElem? (i := 8) rfl)) hK 0 rfl hP hD hS hA (N := 24) (by decide) rfl (Nat.le_of_ble_eq_true rfl) (Nat.le_of_ble_eq_true rfl) (Nat.le_of_ble_eq_true rfl) dX3_init_42 (fun z2 H hP hD hS => ?_)
  have hP : va_P D vwCl [(a0, .inr (3, [.int 10000, .int 5000, .int 4000, .int 8000, .int 0, .int 0, .int 0, .int 0, .long 0, .long 0, .ref z1, .null, .null, .null, .null])), (z1, .inl (cI, 3, .inl (fun _ => 0))), (z2, .inl (cI, 24, .inl (fun _ => 0)))] H := hP
  have hD : va_D A9 [(a0, .inr (3, [.int 10000, .int 5000, .int 4000, .int 8000, .int 0, .int 0, .int 0, .int 0, .long 0, .long 0, .ref z1, .null, .null, .null, .null])), (z1, .inl (cI, 3, .inl (fun _ => 0))), (z2, .inl (cI, 24, .inl (fun _ => 0)))] := hD
  refine W.widen (k := 2) (n := 27) (Nat.le_of_ble_eq_true rfl) (Nat.le_of_ble_eq_true rfl) ?_
  refine va_putF (D := D) (ci := 3) (v := .ref z2) (ty := tyX3 11) (C := RX3) (T := TX3) (N := 15) hx hb hts inX3 tyX3 tyX3_ok nmX3 hown hK hP hD hS 0 rfl rfl 11 (by decide) (hts (.fieldLink RX3 28 "PumpOaths$Station" "demands" "[I") (List.mem_of_getElem? (i := 10) rfl)) (fun _ h9 => h9) rfl hin0 rfl (by decide +kernel) rfl rfl (Nat.le_of_ble_eq_true rfl) dX3_init_44 (fun H locs hP hD hS => ?_)
  have hP : va_P D vwCl [(a0, .inr (3, [.int 10000, .int 5000, .int 4000, .int 8000, .int 0, .int 0, .int 0, .int 0, .long 0, .long 0, .ref z1, .ref z2, .null, .null, .null])), (z1, .inl (cI, 3, .inl (fun _ => 0))), (z2, .inl (cI, 24, .inl (fun _ => 0)))] H := hP
  have hD : va_D A9 [(a0, .inr (3, [.int 10000, .int 5000, .int 4000, .int 8000, .int 0, .int 0, .int 0, .int 0, .long 0, .long 0, .ref z1, .ref z2, .null, .null, .null])), (z1, .inl (cI, 3, .inl (fun _ => 0))), (z2, .inl (cI, 24, .inl (fun _ => 0)))] := hD
  refine lv_aload_n hx hb dX3_init_47 rfl (lv_at hl 0 rfl) ?_
  refine lv_iconst (v := 5) hx hb dX3_init_48 (by decide) ?_
  refine k_newal hx hb (hts (.arrayClass .long) (List.mem_of_getElem? (i := 11) rfl)) hK 1 rfl hP hD hS hA (N := 5) (by decide) rfl (Nat.le_of_ble_eq_true rfl) (Nat.le_of_ble_eq_true rfl) (Nat.le_of_ble_eq_true rfl) dX3_init_49 (fun z3 H hP hD hS => ?_)
  have hP : va_P D vwCl [(a0, .inr (3, [.int 10000, .int 5000, .int 4000, .int 8000, .int 0, .int 0, .int 0, .int 0, .long 0, .long 0, .ref z1, .ref z2, .null, .null, .null])), (z1, .inl (cI, 3, .inl (fun _ => 0))), (z2, .inl (cI, 24, .inl (fun _ => 0))), (z3, .inl (cJ, 5, .inr (.inl (fun _ => 0))))] H := hP
  have hD : va_D A9 [(a0, .inr (3, [.int 10000, .int 5000, .int 4000, .int 8000, .int 0, .int 0, .int 0, .int 0, .long 0, .long 0, .ref z1, .ref z2, .null, .null, .null])), (z1, .inl (cI, 3, .inl (fun _ => 0))), (z2, .inl (cI, 24, .inl (fun _ => 0))), (z3, .inl (cJ, 5, .inr (.inl (fun _ => 0))))] := hD
  refine W.widen (k := 3) (n := 32) (Nat.le_of_ble_eq_true rfl) (Nat.le_of_ble_eq_true rfl) ?_
  refine va_putF (D := D) (ci := 3) (v := .ref z3) (ty := tyX3 12) (C := RX3) (T := TX3) (N := 15) hx hb hts inX3 tyX3 tyX3_ok nmX3 hown hK hP hD hS 0 rfl rfl 12 (by decide) (hts (.fieldLink RX3 31 "PumpOaths$Station" "waters" "[J") (List.mem_of_getElem? (i := 12) rfl)) (fun _ h9 => h9) rfl hin0 rfl (by decide +kernel) rfl rfl (Nat.le_of_ble_eq_true rfl) dX3_init_51 (fun H locs hP hD hS => ?_)
  have hP : va_P D vwCl [(a0, .inr (3, [.int 10000, .int 5000, .int 4000, .int 8000, .int 0, .int 0, .int 0, .int 0, .long 0, .long 0, .ref z1, .ref z2, .ref z3, .null, .null])), (z1, .inl (cI, 3, .inl (fun _ => 0))), (z2, .inl (cI, 24, .inl (fun _ => 0))), (z3, .inl (cJ, 5, .inr (.inl (fun _ => 0))))] H := hP
  have hD : va_D A9 [(a0, .inr (3, [.int 10000, .int 5000, .int 4000, .int 8000, .int 0, .int 0, .int 0, .int 0, .long 0, .long 0, .ref z1, .ref z2, .ref z3, .null, .null])), (z1, .inl (cI, 3, .inl (fun _ => 0))), (z2, .inl (cI, 24, .inl (fun _ => 0))), (z3, .inl (cJ, 5, .inr (.inl (fun _ => 0))))] := hD
  refine lv_aload_n hx hb dX3_init_54 rfl (lv_at hl 0 rfl) ?_
  refine va_new (ci := 2) (fs := [.int 0, .null, .null, .null, .null, .null, .null, .null, .null]) (C := RX2) (T := TX2) (N := 9) hx hb hts inX2 tyX2 tyX2_ok hown (hts (.classLink RX3 35 RX2) (List.mem_of_getElem? (i := 13) rfl)) (hts (.instantiable RX2 9) (List.mem_of_getElem? (i := 14) rfl)) (hts (.initialized RX2) (List.mem_of_getElem? (i := 15) rfl)) hK hP hD hS hA rfl (by decide +kernel) (Nat.le_of_ble_eq_true rfl) (Nat.le_of_ble_eq_true rfl) dX3_init_55 (fun z4 H hP hD hS => ?_)
  have hP : va_P D vwCl [(a0, .inr (3, [.int 10000, .int 5000, .int 4000, .int 8000, .int 0, .int 0, .int 0, .int 0, .long 0, .long 0, .ref z1, .ref z2, .ref z3, .null, .null])), (z1, .inl (cI, 3, .inl (fun _ => 0))), (z2, .inl (cI, 24, .inl (fun _ => 0))), (z3, .inl (cJ, 5, .inr (.inl (fun _ => 0)))), (z4, .inr (2, [.int 0, .null, .null, .null, .null, .null, .null, .null, .null]))] H := hP
  have hD : va_D A9 [(a0, .inr (3, [.int 10000, .int 5000, .int 4000, .int 8000, .int 0, .int 0, .int 0, .int 0, .long 0, .long 0, .ref z1, .ref z2, .ref z3, .null, .null])), (z1, .inl (cI, 3, .inl (fun _ => 0))), (z2, .inl (cI, 24, .inl (fun _ => 0))), (z3, .inl (cJ, 5, .inr (.inl (fun _ => 0)))), (z4, .inr (2, [.int 0, .null, .null, .null, .null, .null, .null, .null, .null]))] := hD
  refine W.widen (k := 4) (n := 41) (Nat.le_of_ble_eq_true rfl) (Nat.le_of_ble_eq_true rfl) ?_
  refine lv_dup hx hb dX3_init_58 rfl ?_
  refine k_callN (wr := [(a0, .inr (3, [.int 10000, .int 5000, .int 4000, .int 8000, .int 0, .int 0, .int 0, .int 0, .long 0, .long 0, .ref z1, .ref z2, .ref z3, .null, .null])), (z1, .inl (cI, 3, .inl (fun _ => 0))), (z2, .inl (cI, 24, .inl (fun _ => 0))), (z3, .inl (cJ, 5, .inr (.inl (fun _ => 0))))]) (wc := [(z4, .inr (2, [.int 0, .null, .null, .null, .null, .null, .null, .null, .null]))]) (W' := (fun u : Nat → Nat => [((u 0), .inr (2, [.int 0, .ref (u 1), .ref (u 2), .ref (u 3), .ref (u 4), .ref (u 5), .ref (u 6), .ref (u 7), .ref (u 8)])), ((u 1), .inl (cI, 6, .inl (fun _ => 0))), ((u 2), .inl (cI, 6, .inl (fun _ => 0))), ((u 3), .inl (cI, 6, .inl (fun _ => 0))), ((u 4), .inl (cI, 6, .inl (fun _ => 0))), ((u 5), .inl (cI, 6, .inl (fun _ => 0))), ((u 6), .inl (cI, 6, .inl (fun _ => 0))), ((u 7), .inl (cI, 6, .inl (fun _ => 0))), ((u 8), .inl (cI, 6, .inl (fun _ => 0)))])) (va_runIN (As := []) (rest := [.ref z4, .ref a0]) ⟨hx, hb, hml, hown, hts⟩ (c_X2_init l D z4 cI cJ _) ⟨va_cnB 0 hts gX3_init_X2_init_n37 rfl rfl rfl (hNN (RX3, 37, yX2_init, RX4) (by decide)) (hts (.initialized RX2) (List.mem_of_getElem? (i := 15) rfl)) (by decide +kernel) ⟨Nat.le_of_ble_eq_true rfl, Nat.le_of_ble_eq_true rfl⟩, rfl, (hts (.instanceMethod yX2_init) (List.mem_of_getElem? (i := 21) rfl))⟩ ⟨kB_blind, k_pre (a := [(a0, .inr (3, [.int 10000, .int 5000, .int 4000, .int 8000, .int 0, .int 0, .int 0, .int 0, .long 0, .long 0, .ref z1, .ref z2, .ref z3, .null, .null])), (z1, .inl (cI, 3, .inl (fun _ => 0))), (z2, .inl (cI, 24, .inl (fun _ => 0))), (z3, .inl (cJ, 5, .inr (.inl (fun _ => 0))))]) (z := []) rfl hK hP hD⟩ rfl rfl hl.1 rfl (lv_room (Nat.le_of_ble_eq_true rfl)) dX3_init_59 ⟨Nat.le_of_ble_eq_true rfl, Nat.le_of_ble_eq_true rfl⟩) hP hD hS hA [4] [0, 1, 2, 3] rfl rfl (by decide) (by decide) (fun v4 H locs hu hP2 hD2 hS => ?_)
  obtain rfl := hu
  refine W.widen (k := 12) (n := 89) (Nat.le_of_ble_eq_true rfl) (Nat.le_of_ble_eq_true rfl) ?_
  replace hP := hP2
  replace hD := hD2
  have hP : va_P D vwCl [(a0, .inr (3, [.int 10000, .int 5000, .int 4000, .int 8000, .int 0, .int 0, .int 0, .int 0, .long 0, .long 0, .ref z1, .ref z2, .ref z3, .null, .null])), (z1, .inl (cI, 3, .inl (fun _ => 0))), (z2, .inl (cI, 24, .inl (fun _ => 0))), (z3, .inl (cJ, 5, .inr (.inl (fun _ => 0)))), ((v4 0), .inr (2, [.int 0, .ref (v4 1), .ref (v4 2), .ref (v4 3), .ref (v4 4), .ref (v4 5), .ref (v4 6), .ref (v4 7), .ref (v4 8)])), ((v4 1), .inl (cI, 6, .inl (fun _ => 0))), ((v4 2), .inl (cI, 6, .inl (fun _ => 0))), ((v4 3), .inl (cI, 6, .inl (fun _ => 0))), ((v4 4), .inl (cI, 6, .inl (fun _ => 0))), ((v4 5), .inl (cI, 6, .inl (fun _ => 0))), ((v4 6), .inl (cI, 6, .inl (fun _ => 0))), ((v4 7), .inl (cI, 6, .inl (fun _ => 0))), ((v4 8), .inl (cI, 6, .inl (fun _ => 0)))] H := hP
  have hD : va_D A9 [(a0, .inr (3, [.int 10000, .int 5000, .int 4000, .int 8000, .int 0, .int 0, .int 0, .int 0, .long 0, .long 0, .ref z1, .ref z2, .ref z3, .null, .null])), (z1, .inl (cI, 3, .inl (fun _ => 0))), (z2, .inl (cI, 24, .inl (fun _ => 0))), (z3, .inl (cJ, 5, .inr (.inl (fun _ => 0)))), ((v4 0), .inr (2, [.int 0, .ref (v4 1), .ref (v4 2), .ref (v4 3), .ref (v4 4), .ref (v4 5), .ref (v4 6), .ref (v4 7), .ref (v4 8)])), ((v4 1), .inl (cI, 6, .inl (fun _ => 0))), ((v4 2), .inl (cI, 6, .inl (fun _ => 0))), ((v4 3), .inl (cI, 6, .inl (fun _ => 0))), ((v4 4), .inl (cI, 6, .inl (fun _ => 0))), ((v4 5), .inl (cI, 6, .inl (fun _ => 0))), ((v4 6), .inl (cI, 6, .inl (fun _ => 0))), ((v4 7), .inl (cI, 6, .inl (fun _ => 0))), ((v4 8), .inl (cI, 6, .inl (fun _ => 0)))] := hD
  refine va_putF (D := D) (ci := 3) (v := .ref (v4 0)) (ty := tyX3 13) (C := RX3) (T := TX3) (N := 15) hx hb hts inX3 tyX3 tyX3_ok nmX3 hown hK hP hD hS 0 rfl rfl 13 (by decide) (hts (.fieldLink RX3 38 "PumpOaths$Station" "pumps" "LPumpOaths$Pumps;") (List.mem_of_getElem? (i := 16) rfl)) (fun _ h9 => h9) rfl hin0 rfl (by decide +kernel) rfl rfl (Nat.le_of_ble_eq_true rfl) dX3_init_62 (fun H locs hP hD hS => ?_)
  have hP : va_P D vwCl [(a0, .inr (3, [.int 10000, .int 5000, .int 4000, .int 8000, .int 0, .int 0, .int 0, .int 0, .long 0, .long 0, .ref z1, .ref z2, .ref z3, .ref (v4 0), .null])), (z1, .inl (cI, 3, .inl (fun _ => 0))), (z2, .inl (cI, 24, .inl (fun _ => 0))), (z3, .inl (cJ, 5, .inr (.inl (fun _ => 0)))), ((v4 0), .inr (2, [.int 0, .ref (v4 1), .ref (v4 2), .ref (v4 3), .ref (v4 4), .ref (v4 5), .ref (v4 6), .ref (v4 7), .ref (v4 8)])), ((v4 1), .inl (cI, 6, .inl (fun _ => 0))), ((v4 2), .inl (cI, 6, .inl (fun _ => 0))), ((v4 3), .inl (cI, 6, .inl (fun _ => 0))), ((v4 4), .inl (cI, 6, .inl (fun _ => 0))), ((v4 5), .inl (cI, 6, .inl (fun _ => 0))), ((v4 6), .inl (cI, 6, .inl (fun _ => 0))), ((v4 7), .inl (cI, 6, .inl (fun _ => 0))), ((v4 8), .inl (cI, 6, .inl (fun _ => 0)))] H := hP
  have hD : va_D A9 [(a0, .inr (3, [.int 10000, .int 5000, .int 4000, .int 8000, .int 0, .int 0, .int 0, .int 0, .long 0, .long 0, .ref z1, .ref z2, .ref z3, .ref (v4 0), .null])), (z1, .inl (cI, 3, .inl (fun _ => 0))), (z2, .inl (cI, 24, .inl (fun _ => 0))), (z3, .inl (cJ, 5, .inr (.inl (fun _ => 0)))), ((v4 0), .inr (2, [.int 0, .ref (v4 1), .ref (v4 2), .ref (v4 3), .ref (v4 4), .ref (v4 5), .ref (v4 6), .ref (v4 7), .ref (v4 8)])), ((v4 1), .inl (cI, 6, .inl (fun _ => 0))), ((v4 2), .inl (cI, 6, .inl (fun _ => 0))), ((v4 3), .inl (cI, 6, .inl (fun _ => 0))), ((v4 4), .inl (cI, 6, .inl (fun _ => 0))), ((v4 5), .inl (cI, 6, .inl (fun _ => 0))), ((v4 6), .inl (cI, 6, .inl (fun _ => 0))), ((v4 7), .inl (cI, 6, .inl (fun _ => 0))), ((v4 8), .inl (cI, 6, .inl (fun _ => 0)))] := hD
  refine lv_aload_n hx hb dX3_init_65 rfl (lv_at hl 0 rfl) ?_
  refine va_new (ci := 0) (fs := [.null, .int 0]) (C := RX0) (T := TX0) (N := 2) hx hb hts inX0 tyX0 tyX0_ok hown (hts (.classLink RX3 42 RX0) (List.mem_of_getElem? (i := 17) rfl)) (hts (.instantiable RX0 2) (List.mem_of_getElem? (i := 18) rfl)) (hts (.initialized RX0) (List.mem_of_getElem? (i := 19) rfl)) hK hP hD hS hA rfl (by decide +kernel) (Nat.le_of_ble_eq_true rfl) (Nat.le_of_ble_eq_true rfl) dX3_init_66 (fun z5 H hP hD hS => ?_)
  have hP : va_P D vwCl [(a0, .inr (3, [.int 10000, .int 5000, .int 4000, .int 8000, .int 0, .int 0, .int 0, .int 0, .long 0, .long 0, .ref z1, .ref z2, .ref z3, .ref (v4 0), .null])), (z1, .inl (cI, 3, .inl (fun _ => 0))), (z2, .inl (cI, 24, .inl (fun _ => 0))), (z3, .inl (cJ, 5, .inr (.inl (fun _ => 0)))), ((v4 0), .inr (2, [.int 0, .ref (v4 1), .ref (v4 2), .ref (v4 3), .ref (v4 4), .ref (v4 5), .ref (v4 6), .ref (v4 7), .ref (v4 8)])), ((v4 1), .inl (cI, 6, .inl (fun _ => 0))), ((v4 2), .inl (cI, 6, .inl (fun _ => 0))), ((v4 3), .inl (cI, 6, .inl (fun _ => 0))), ((v4 4), .inl (cI, 6, .inl (fun _ => 0))), ((v4 5), .inl (cI, 6, .inl (fun _ => 0))), ((v4 6), .inl (cI, 6, .inl (fun _ => 0))), ((v4 7), .inl (cI, 6, .inl (fun _ => 0))), ((v4 8), .inl (cI, 6, .inl (fun _ => 0))), (z5, .inr (0, [.null, .int 0]))] H := hP
  have hD : va_D A9 [(a0, .inr (3, [.int 10000, .int 5000, .int 4000, .int 8000, .int 0, .int 0, .int 0, .int 0, .long 0, .long 0, .ref z1, .ref z2, .ref z3, .ref (v4 0), .null])), (z1, .inl (cI, 3, .inl (fun _ => 0))), (z2, .inl (cI, 24, .inl (fun _ => 0))), (z3, .inl (cJ, 5, .inr (.inl (fun _ => 0)))), ((v4 0), .inr (2, [.int 0, .ref (v4 1), .ref (v4 2), .ref (v4 3), .ref (v4 4), .ref (v4 5), .ref (v4 6), .ref (v4 7), .ref (v4 8)])), ((v4 1), .inl (cI, 6, .inl (fun _ => 0))), ((v4 2), .inl (cI, 6, .inl (fun _ => 0))), ((v4 3), .inl (cI, 6, .inl (fun _ => 0))), ((v4 4), .inl (cI, 6, .inl (fun _ => 0))), ((v4 5), .inl (cI, 6, .inl (fun _ => 0))), ((v4 6), .inl (cI, 6, .inl (fun _ => 0))), ((v4 7), .inl (cI, 6, .inl (fun _ => 0))), ((v4 8), .inl (cI, 6, .inl (fun _ => 0))), (z5, .inr (0, [.null, .int 0]))] := hD
  refine W.widen (k := 13) (n := 91) (Nat.le_of_ble_eq_true rfl) (Nat.le_of_ble_eq_true rfl) ?_
  refine lv_dup hx hb dX3_init_69 rfl ?_
  refine k_callN (wr := [(a0, .inr (3, [.int 10000, .int 5000, .int 4000, .int 8000, .int 0, .int 0, .int 0, .int 0, .long 0, .long 0, .ref z1, .ref z2, .ref z3, .ref (v4 0), .null])), (z1, .inl (cI, 3, .inl (fun _ => 0))), (z2, .inl (cI, 24, .inl (fun _ => 0))), (z3, .inl (cJ, 5, .inr (.inl (fun _ => 0)))), ((v4 0), .inr (2, [.int 0, .ref (v4 1), .ref (v4 2), .ref (v4 3), .ref (v4 4), .ref (v4 5), .ref (v4 6), .ref (v4 7), .ref (v4 8)])), ((v4 1), .inl (cI, 6, .inl (fun _ => 0))), ((v4 2), .inl (cI, 6, .inl (fun _ => 0))), ((v4 3), .inl (cI, 6, .inl (fun _ => 0))), ((v4 4), .inl (cI, 6, .inl (fun _ => 0))), ((v4 5), .inl (cI, 6, .inl (fun _ => 0))), ((v4 6), .inl (cI, 6, .inl (fun _ => 0))), ((v4 7), .inl (cI, 6, .inl (fun _ => 0))), ((v4 8), .inl (cI, 6, .inl (fun _ => 0)))]) (wc := [(z5, .inr (0, [.null, .int 0]))]) (W' := (fun u : Nat → Nat => [((u 0), .inr (0, [.ref (u 1), .int 0])), ((u 1), .inl (cI, 36, .inl (fun _ => 0)))])) (va_runIN (As := []) (rest := [.ref z5, .ref a0]) ⟨hx, hb, hml, hown, hts⟩ (c_X0_init l D z5 cI cJ _) ⟨va_cnB 0 hts gX3_init_X0_init_n44 rfl rfl rfl (hNN (RX3, 44, yX0_init, RX4) (by decide)) (hts (.initialized RX0) (List.mem_of_getElem? (i := 19) rfl)) (by decide +kernel) ⟨Nat.le_of_ble_eq_true rfl, Nat.le_of_ble_eq_true rfl⟩, rfl, (hts (.instanceMethod yX0_init) (List.mem_of_getElem? (i := 32) rfl))⟩ ⟨kB_blind, k_pre (a := [(a0, .inr (3, [.int 10000, .int 5000, .int 4000, .int 8000, .int 0, .int 0, .int 0, .int 0, .long 0, .long 0, .ref z1, .ref z2, .ref z3, .ref (v4 0), .null])), (z1, .inl (cI, 3, .inl (fun _ => 0))), (z2, .inl (cI, 24, .inl (fun _ => 0))), (z3, .inl (cJ, 5, .inr (.inl (fun _ => 0)))), ((v4 0), .inr (2, [.int 0, .ref (v4 1), .ref (v4 2), .ref (v4 3), .ref (v4 4), .ref (v4 5), .ref (v4 6), .ref (v4 7), .ref (v4 8)])), ((v4 1), .inl (cI, 6, .inl (fun _ => 0))), ((v4 2), .inl (cI, 6, .inl (fun _ => 0))), ((v4 3), .inl (cI, 6, .inl (fun _ => 0))), ((v4 4), .inl (cI, 6, .inl (fun _ => 0))), ((v4 5), .inl (cI, 6, .inl (fun _ => 0))), ((v4 6), .inl (cI, 6, .inl (fun _ => 0))), ((v4 7), .inl (cI, 6, .inl (fun _ => 0))), ((v4 8), .inl (cI, 6, .inl (fun _ => 0)))]) (z := []) rfl hK hP hD⟩ rfl rfl hl.1 rfl (lv_room (Nat.le_of_ble_eq_true rfl)) dX3_init_70 ⟨Nat.le_of_ble_eq_true rfl, Nat.le_of_ble_eq_true rfl⟩) hP hD hS hA [13] [0, 1, 2, 3, 4, 5, 6, 7, 8, 9, 10, 11, 12] rfl rfl (by decide) (by decide) (fun v5 H locs hu hP2 hD2 hS => ?_)
  obtain rfl := hu
  refine W.widen (k := 14) (n := 127) (Nat.le_of_ble_eq_true rfl) (Nat.le_of_ble_eq_true rfl) ?_
  replace hP := hP2
  replace hD := hD2
  have hP : va_P D vwCl [(a0, .inr (3, [.int 10000, .int 5000, .int 4000, .int 8000, .int 0, .int 0, .int 0, .int 0, .long 0, .long 0, .ref z1, .ref z2, .ref z3, .ref (v4 0), .null])), (z1, .inl (cI, 3, .inl (fun _ => 0))), (z2, .inl (cI, 24, .inl (fun _ => 0))), (z3, .inl (cJ, 5, .inr (.inl (fun _ => 0)))), ((v4 0), .inr (2, [.int 0, .ref (v4 1), .ref (v4 2), .ref (v4 3), .ref (v4 4), .ref (v4 5), .ref (v4 6), .ref (v4 7), .ref (v4 8)])), ((v4 1), .inl (cI, 6, .inl (fun _ => 0))), ((v4 2), .inl (cI, 6, .inl (fun _ => 0))), ((v4 3), .inl (cI, 6, .inl (fun _ => 0))), ((v4 4), .inl (cI, 6, .inl (fun _ => 0))), ((v4 5), .inl (cI, 6, .inl (fun _ => 0))), ((v4 6), .inl (cI, 6, .inl (fun _ => 0))), ((v4 7), .inl (cI, 6, .inl (fun _ => 0))), ((v4 8), .inl (cI, 6, .inl (fun _ => 0))), ((v5 0), .inr (0, [.ref (v5 1), .int 0])), ((v5 1), .inl (cI, 36, .inl (fun _ => 0)))] H := hP
  have hD : va_D A9 [(a0, .inr (3, [.int 10000, .int 5000, .int 4000, .int 8000, .int 0, .int 0, .int 0, .int 0, .long 0, .long 0, .ref z1, .ref z2, .ref z3, .ref (v4 0), .null])), (z1, .inl (cI, 3, .inl (fun _ => 0))), (z2, .inl (cI, 24, .inl (fun _ => 0))), (z3, .inl (cJ, 5, .inr (.inl (fun _ => 0)))), ((v4 0), .inr (2, [.int 0, .ref (v4 1), .ref (v4 2), .ref (v4 3), .ref (v4 4), .ref (v4 5), .ref (v4 6), .ref (v4 7), .ref (v4 8)])), ((v4 1), .inl (cI, 6, .inl (fun _ => 0))), ((v4 2), .inl (cI, 6, .inl (fun _ => 0))), ((v4 3), .inl (cI, 6, .inl (fun _ => 0))), ((v4 4), .inl (cI, 6, .inl (fun _ => 0))), ((v4 5), .inl (cI, 6, .inl (fun _ => 0))), ((v4 6), .inl (cI, 6, .inl (fun _ => 0))), ((v4 7), .inl (cI, 6, .inl (fun _ => 0))), ((v4 8), .inl (cI, 6, .inl (fun _ => 0))), ((v5 0), .inr (0, [.ref (v5 1), .int 0])), ((v5 1), .inl (cI, 36, .inl (fun _ => 0)))] := hD
  refine va_putF (D := D) (ci := 3) (v := .ref (v5 0)) (ty := tyX3 14) (C := RX3) (T := TX3) (N := 15) hx hb hts inX3 tyX3 tyX3_ok nmX3 hown hK hP hD hS 0 rfl rfl 14 (by decide) (hts (.fieldLink RX3 45 "PumpOaths$Station" "log" "LPumpOaths$BreachLog;") (List.mem_of_getElem? (i := 20) rfl)) (fun _ h9 => h9) rfl hin0 rfl (by decide +kernel) rfl rfl (Nat.le_of_ble_eq_true rfl) dX3_init_73 (fun H locs hP hD hS => ?_)
  have hP : va_P D vwCl [(a0, .inr (3, [.int 10000, .int 5000, .int 4000, .int 8000, .int 0, .int 0, .int 0, .int 0, .long 0, .long 0, .ref z1, .ref z2, .ref z3, .ref (v4 0), .ref (v5 0)])), (z1, .inl (cI, 3, .inl (fun _ => 0))), (z2, .inl (cI, 24, .inl (fun _ => 0))), (z3, .inl (cJ, 5, .inr (.inl (fun _ => 0)))), ((v4 0), .inr (2, [.int 0, .ref (v4 1), .ref (v4 2), .ref (v4 3), .ref (v4 4), .ref (v4 5), .ref (v4 6), .ref (v4 7), .ref (v4 8)])), ((v4 1), .inl (cI, 6, .inl (fun _ => 0))), ((v4 2), .inl (cI, 6, .inl (fun _ => 0))), ((v4 3), .inl (cI, 6, .inl (fun _ => 0))), ((v4 4), .inl (cI, 6, .inl (fun _ => 0))), ((v4 5), .inl (cI, 6, .inl (fun _ => 0))), ((v4 6), .inl (cI, 6, .inl (fun _ => 0))), ((v4 7), .inl (cI, 6, .inl (fun _ => 0))), ((v4 8), .inl (cI, 6, .inl (fun _ => 0))), ((v5 0), .inr (0, [.ref (v5 1), .int 0])), ((v5 1), .inl (cI, 36, .inl (fun _ => 0)))] H := hP
  have hD : va_D A9 [(a0, .inr (3, [.int 10000, .int 5000, .int 4000, .int 8000, .int 0, .int 0, .int 0, .int 0, .long 0, .long 0, .ref z1, .ref z2, .ref z3, .ref (v4 0), .ref (v5 0)])), (z1, .inl (cI, 3, .inl (fun _ => 0))), (z2, .inl (cI, 24, .inl (fun _ => 0))), (z3, .inl (cJ, 5, .inr (.inl (fun _ => 0)))), ((v4 0), .inr (2, [.int 0, .ref (v4 1), .ref (v4 2), .ref (v4 3), .ref (v4 4), .ref (v4 5), .ref (v4 6), .ref (v4 7), .ref (v4 8)])), ((v4 1), .inl (cI, 6, .inl (fun _ => 0))), ((v4 2), .inl (cI, 6, .inl (fun _ => 0))), ((v4 3), .inl (cI, 6, .inl (fun _ => 0))), ((v4 4), .inl (cI, 6, .inl (fun _ => 0))), ((v4 5), .inl (cI, 6, .inl (fun _ => 0))), ((v4 6), .inl (cI, 6, .inl (fun _ => 0))), ((v4 7), .inl (cI, 6, .inl (fun _ => 0))), ((v4 8), .inl (cI, 6, .inl (fun _ => 0))), ((v5 0), .inr (0, [.ref (v5 1), .int 0])), ((v5 1), .inl (cI, 36, .inl (fun _ => 0)))] := hD
  obtain ⟨u, hu⟩ : ∃ u : Nat → Nat, u = fun i => [a0, z1, z2, z3, (v4 0), (v4 1), (v4 2), (v4 3), (v4 4), (v4 5), (v4 6), (v4 7), (v4 8), (v5 0), (v5 1)].getD i 0 := ⟨_, rfl⟩
  have hP : va_P D vwCl (stW u cI cJ s_new0) H := by rw [hu]; exact hP
  have hD : va_D A9 (stW u cI cJ s_new0) := by rw [hu]; exact hD
  have hl : lv_has ls 2 [(0, .ref (u 0))] := by rw [hu]; exact hl
  refine lv_aload_n hx hb dX3_init_76 rfl (lv_at hl 0 rfl) ?_
  refine va_get (D := D) (ci := 3) (v := .ref (u 1)) (C := RX3) (T := TX3) (N := 15) hx hb hts inX3 hown hK hP 0 rfl rfl 10 (by decide) (hts (.fieldLink RX3 24 "PumpOaths$Station" "settings" "[I") (List.mem_of_getElem? (i := 9) rfl)) (fun _ h9 => h9) rfl dX3_init_77 ?_
  refine lv_iconst (v := 0) hx hb dX3_init_80 (by decide) ?_
  refine lv_sipush (v := 500) hx hb dX3_init_81 (by decide) ?_
  refine va_iast (f := s_new0.2.2.1 0) hx hb hK hP hD hS 1 0 rfl rfl (k_in (k := 0) (rfl) (by decide) (by decide)) dX3_init_84 (fun H locs hP hD hS => ?_)
  rw [show (0 : Int32).toNatClampNeg = 0 from k_cl (rfl) (by omega)] at hP hD
  have hP : va_P D vwCl (stW u cI cJ (setA s_new0 0 (upd (s_new0.2.2.1 0) 0 500))) H := hP
  have hD : va_D A9 (stW u cI cJ (setA s_new0 0 (upd (s_new0.2.2.1 0) 0 500))) := hD
  refine lv_aload_n hx hb dX3_init_85 rfl (lv_at hl 0 rfl) ?_
  refine va_get (D := D) (ci := 3) (v := .ref (u 1)) (C := RX3) (T := TX3) (N := 15) hx hb hts inX3 hown hK hP 0 rfl rfl 10 (by decide) (hts (.fieldLink RX3 24 "PumpOaths$Station" "settings" "[I") (List.mem_of_getElem? (i := 9) rfl)) (fun _ h9 => h9) rfl dX3_init_86 ?_
  refine lv_iconst (v := 2) hx hb dX3_init_89 (by decide) ?_
  refine lv_iconst (v := 1) hx hb dX3_init_90 (by decide) ?_
  refine va_iast (f := upd (s_new0.2.2.1 0) 0 500) hx hb hK hP hD hS 1 0 rfl rfl (k_in (k := 2) (rfl) (by decide) (by decide)) dX3_init_91 (fun H locs hP hD hS => ?_)
  rw [show (2 : Int32).toNatClampNeg = 2 from k_cl (rfl) (by omega)] at hP hD
  have hP : va_P D vwCl (stW u cI cJ (setA s_new0 0 (upd (upd (s_new0.2.2.1 0) 0 500) 2 1))) H := hP
  have hD : va_D A9 (stW u cI cJ (setA s_new0 0 (upd (upd (s_new0.2.2.1 0) 0 500) 2 1))) := hD
  refine lv_iconst (v := 0) hx hb dX3_init_92 (by decide) ?_
  refine lv_istore_n (lv' := [(1, .int 0), (0, .ref (u 0))]) hx hb dX3_init_93 rfl hl (by decide) rfl (fun ls hl => ?_)
  have L_94_0 : ∀ (d : Nat) (k : Nat) (f : Nat → Int32), 24 < k + d → k ≤ 24 → ∀  (e94 : itr (p_fillB 20) k (s_new0.2.2.1 1) = f) (H : Heap) (locs : List Loc) (ls : Array Slot), va_P D vwCl (stW u cI cJ (setA (setA s_new0 0 (upd (upd (s_new0.2.2.1 0) 0 500) 2 1)) 1 f)) H → va_D A9 (stW u cI cJ (setA (setA s_new0 0 (upd (upd (s_new0.2.2.1 0) 0 500) 2 1)) 1 f)) → va_S A9 s9.heap H locs → lv_has ls 2 [(0, .ref (u 0)), (1, .int (nI k))] → W p9 l e9 ({ frames := 2, cells := 14, slots := 127, locals := 33 } : Room) s9 m9 (List.toArray [.ref a0]) below meth c9 H locs 14 127 (MQ below (va_Qv (fun (u : Nat → Nat) => u 0 = a0) (fun u t => va_P D vwCl ((fun u : Nat → Nat => stW u cI cJ s_new) u) t.heap ∧ va_D A9 ((fun u : Nat → Nat => stW u cI cJ s_new) u)) A9) (List.toArray [.ref a0]) s9 14 127 A9) (F0 m9 94 ls []) := by
    intro d
    induction d with
    | zero =>
      intro k f hf
      intro hkn; exact absurd hf (by omega)
    | succ d ih_94 =>
      intro k f hf_94 hkn_94 e94 H locs ls hP hD hS hl
      refine lv_iload_n hx hb dX3_init_94 rfl (lv_at hl 1 rfl) ?_
      refine lv_bipush (v := 24) hx hb dX3_init_95 (by decide) ?_
      refine lv_icmp_ge (tgt := 114) hx hb dX3_init_97 (by decide) (fun c_97_1 => ?_) (fun c_97_1 => ?_)
      · have c_97_1 : 24 ≤ (nI k) := c_97_1
        have hke_94 : k = 24 := k_exitN c_97_1 rfl hkn_94 (by decide)
        have eW : stW u cI cJ (setA (setA s_new0 0 (upd (upd (s_new0.2.2.1 0) 0 500) 2 1)) 1 f) = (fun u : Nat → Nat => stW u cI cJ s_new) u := by exact congrArg (fun T9 => stW u cI cJ T9) (show setA (setA s_new0 0 (upd (upd (s_new0.2.2.1 0) 0 500) 2 1)) 1 f = s_new from by rw [s_new, ← e94, hke_94])
        rw [eW] at hP hD
        exact k_nret (W' := (fun u : Nat → Nat => stW u cI cJ s_new)) (u9 := u) hx hb hr hlk dX3_init_114 (by rw [hu]; rfl) hP hD hS
      · have c_97_1 : ¬ 24 ≤ (nI k) := c_97_1
        have hkl_94 : k < 24 := k_bodyN c_97_1 rfl hkn_94 (by decide)
        refine lv_aload_n hx hb dX3_init_100 rfl (lv_at hl 0 rfl) ?_
        refine va_get (D := D) (ci := 3) (v := .ref (u 2)) (C := RX3) (T := TX3) (N := 15) hx hb hts inX3 hown hK hP 0 rfl rfl 11 (by decide) (hts (.fieldLink RX3 28 "PumpOaths$Station" "demands" "[I") (List.mem_of_getElem? (i := 10) rfl)) (fun _ h9 => h9) rfl dX3_init_101 ?_
        refine lv_iload_n hx hb dX3_init_104 rfl (lv_at hl 1 rfl) ?_
        refine lv_bipush (v := 20) hx hb dX3_init_105 (by decide) ?_
        refine va_iast (f := f) hx hb hK hP hD hS 2 0 rfl rfl (k_in (k := k) (rfl) (by omega) (by decide)) dX3_init_107 (fun H locs hP hD hS => ?_)
        rw [show (nI k : Int32).toNatClampNeg = k from k_cl (rfl) (by omega)] at hP hD
        have hP : va_P D vwCl (stW u cI cJ (setA (setA s_new0 0 (upd (upd (s_new0.2.2.1 0) 0 500) 2 1)) 1 (upd f k 20))) H := hP
        have hD : va_D A9 (stW u cI cJ (setA (setA s_new0 0 (upd (upd (s_new0.2.2.1 0) 0 500) 2 1)) 1 (upd f k 20))) := hD
        refine lv_iinc (v := (nI k) + 1) (lv' := [(1, .int ((nI k) + 1)), (0, .ref (u 0))]) hx hb dX3_init_108 hl (k := 1) rfl rfl (by decide) rfl (fun ls hl => ?_)
        refine lv_goto (tgt := 94) hx hb dX3_init_111 (by decide) ?_
        rw [show ((nI k) + 1) = (nI (k + 1)) from nI_1 _] at hl
        exact ih_94 (k + 1) (upd f k 20) (by omega) (by omega) (by rw [itr_s, e94]; simp [p_fillB, c_97_1]) _ _ _ hP hD hS (lv_sub hl [1, 0] rfl)
  exact L_94_0 (24 + 1) 0 (s_new0.2.2.1 1) (by omega) (by omega) (rfl) _ _ _ hP hD hS (lv_sub hl [1, 0] rfl)
