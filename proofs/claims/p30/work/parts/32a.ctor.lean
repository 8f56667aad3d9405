/-! CONSTRUCTORS: what is made lies behind the new cell, at addresses u, u 0 the object's own -/
def kN (l : Launch) (y : MethodName) (ws : List Cond) (rm : Room) (mc ms : Nat) (D : va_G) (tys : va_Ty) (av : List Value) (w : va_W) (a0 : Nat) (W' : (Nat → Nat) → va_W) : Prop :=
  ∀ sz : Nat, Met l y ws rm (va_Pc av (kB D tys w sz)) (va_Qv (fun (u : Nat → Nat) => u 0 = a0) (fun u t => va_P D vwCl (W' u) t.heap ∧ va_D (va_A w sz) (W' u)) (va_A w sz)) mc ms (va_A w sz)
def kNBody (y : MethodName) (ws : List Cond) (rm : Room) (mc ms : Nat) (D : va_G) (tys : va_Ty) (av : List Value) (w : va_W) (cc : ByteArray) (maxL : Nat) (l : Launch) (Qc : (Nat → Prop) → Array Value → State → Outcome → State → Prop) : Prop :=
  ∀ (p : Program) (e : Env) (s : State) (m : MethodId) (below : List Frame) (meth : Method) (c : Code) (A : Nat → Prop) (ls : Array Slot),
    p.tables.exec = Jvm.exec → c.code = cc → meth.sig.returnType = none → c.maxLocals = maxL → (∀ q ∈ ws, q.before av.toArray s = true) → s.vm.findClass y.cls = some m.cls → meth.locks = false → meth.name = y.name →
    va_K D vwCl tys s → va_P D vwCl w s.heap → va_D A w → (∀ q : Nat, s.heap.size ≤ q → A q) → lv_has ls maxL (lv_args 0 av) →
    W p l e rm s m av.toArray below meth c s.heap [] 0 0 (MQ below (Qc A) av.toArray s mc ms A) (F0 m 0 ls [])
theorem kNBody.met {y : MethodName} {ws ws' : List Cond} {rm : Room} {mc ms : Nat} {D : va_G} {tys : va_Ty} {av : List Value} {w : va_W} {cc : ByteArray} {maxL : Nat} {l : Launch} {Qc : (Nat → Prop) → Array Value → State → Outcome → State → Prop} (hy : plainName y.cls = true) (hw : ws = Cond.code y cc maxL none :: ws') (hn : (lg_sl av).length ≤ maxL)
    (h : kNBody y ws rm mc ms D tys av w cc maxL l Qc) (sz : Nat) : Met l y ws rm (va_Pc av (kB D tys w sz)) (Qc (va_A w sz)) mc ms (va_A w sz) := by
  refine Met.ofW (cc := cc) (maxL := maxL) (ret := none) hy hw ?_
  intro p e s m args below meth c s₁ B hml hv
  obtain ⟨rfl, hsz, hP, hK, hD0⟩ := hv
  have hts := atoms_spec (ws := ws) B.pre
  have hown : s.vm.findClass y.cls = some m.cls := findClass_of_methodNamed B.named
  have hin : meth.name = y.name := (name_of_methodNamed B.named B.method).1
  subst hsz
  have hD := hD0.self (sz := s.heap.size)
  have hl := lv_entry av hn
  rw [lg_entry_eq]
  exact h p e s m below meth c _ _ B.exec B.bytes B.returns hml hts hown B.notSynchronized hin hK hP hD (fun q h => Or.inr h) hl
section KN
variable {p : Program} {l : Launch} {e : Env} {R : Room} {s : State} {m : MethodId} {args : Array Value} {below : List Frame} {meth : Method} {c : Code} {H : Heap} {locs : List Loc} {cells slots : Nat} {Q : State → Prop} {D : va_G} {tys : va_Ty} {cc : ByteArray} {A : Nat → Prop} {pc : Nat} {ls : Array Slot} {ws : va_W} {rest : List Value} {H0 : Heap}
theorem k_cls {tys : va_Ty} {cA cI : ClassId} {t0 : Nat} (ty : FieldType) (hty : ty = .int ∨ ty = .long) (h : va_K D vwCl (tys ++ [(cA, ty)]) s) (h0 : tys[t0]? = some (cI, ty)) : cA = cI := by
  have h1 := (h.2 tys.length (cA, ty) (by rw [List.getElem?_append_right (Nat.le_refl _), Nat.sub_self]; rfl)).2
  have h2 := (h.2 t0 (cI, ty) (by rw [List.getElem?_append_left (List.getElem?_eq_some_iff.mp h0).1]; exact h0)).2
  rcases hty with rfl | rfl
  · exact Option.some.inj (Eq.trans (Eq.symm (show s.vm.findClass ("[" ++ FieldType.int.toString) = some cA from h1)) (show s.vm.findClass ("[" ++ FieldType.int.toString) = some cI from h2))
  · exact Option.some.inj (Eq.trans (Eq.symm (show s.vm.findClass ("[" ++ FieldType.long.toString) = some cA from h1)) (show s.vm.findClass ("[" ++ FieldType.long.toString) = some cI from h2))
theorem k_newai {cI : ClassId} (hexec : p.tables.exec = Jvm.exec) (hb : c.code = cc) (harr : (Cond.arrayClass .int).before args s = true) (hK : va_K D vwCl tys s) (t0 : Nat) (h0 : tys[t0]? = some (cI, .int)) (hP : va_P D vwCl ws H) (hD : va_D A ws) (hS : va_S A H0 H locs) (hA : ∀ q, H0.size ≤ q → A q)
    {n : Int32} {N : Nat} (hn : ¬ n < 0) (hN : n.toNatClampNeg = N) (hbytes : N * 4 ≤ 536870912) (hcells : cells + 1 ≤ R.cells) (hslots : slots + N ≤ R.slots) (hdg : decode cc pc = .ok (.newarray .int, 2))
    (kk : ∀ (q : Nat) (H1 : Heap), va_P D vwCl (ws ++ [(q, .inl (cI, N, .inl (fun _ => 0)))]) H1 → va_D A (ws ++ [(q, .inl (cI, N, .inl (fun _ => 0)))]) → va_S A H0 H1 locs →
      W p l e R s m args below meth c H1 locs (cells + 1) (slots + N) Q (F0 m (pc + 2) ls (.ref q :: rest))) : W p l e R s m args below meth c H locs cells slots Q (F0 m pc ls (.int n :: rest)) :=
  va_newa (atype := .int) (ty := .int) (a0 := (N, .inl (fun _ => 0))) hexec hb harr rfl hK hP hD hS hA (fun cA => vp_cell_i cA N _) hn hN hbytes hcells hslots hdg (fun q cA H1 hK1 hP hD hS => by
    have e := k_cls .int (Or.inl rfl) hK1 h0
    subst e
    exact kk q H1 hP hD hS)
theorem k_newal {cJ : ClassId} (hexec : p.tables.exec = Jvm.exec) (hb : c.code = cc) (harr : (Cond.arrayClass .long).before args s = true) (hK : va_K D vwCl tys s) (t0 : Nat) (h0 : tys[t0]? = some (cJ, .long)) (hP : va_P D vwCl ws H) (hD : va_D A ws) (hS : va_S A H0 H locs) (hA : ∀ q, H0.size ≤ q → A q)
    {n : Int32} {N : Nat} (hn : ¬ n < 0) (hN : n.toNatClampNeg = N) (hbytes : N * 8 ≤ 536870912) (hcells : cells + 1 ≤ R.cells) (hslots : slots + N ≤ R.slots) (hdg : decode cc pc = .ok (.newarray .long, 2))
    (kk : ∀ (q : Nat) (H1 : Heap), va_P D vwCl (ws ++ [(q, .inl (cJ, N, .inr (.inl (fun _ => 0))))]) H1 → va_D A (ws ++ [(q, .inl (cJ, N, .inr (.inl (fun _ => 0))))]) → va_S A H0 H1 locs →
      W p l e R s m args below meth c H1 locs (cells + 1) (slots + N) Q (F0 m (pc + 2) ls (.ref q :: rest))) : W p l e R s m args below meth c H locs cells slots Q (F0 m pc ls (.int n :: rest)) :=
  va_newa (atype := .long) (ty := .long) (a0 := (N, .inr (.inl (fun _ => 0)))) hexec hb harr rfl hK hP hD hS hA (fun cA => vp_cell_l cA N _) hn hN hbytes hcells hslots hdg (fun q cA H1 hK1 hP hD hS => by
    have e := k_cls .long (Or.inr rfl) hK1 h0
    subst e
    exact kk q H1 hP hD hS)
theorem k_nret {W' : (Nat → Nat) → va_W} {a0 : Nat} {u9 : Nat → Nat} (hx : p.tables.exec = Jvm.exec) (hb : c.code = cc) (hr : meth.sig.returnType = none) (hlk : meth.locks = false) (hdg : decode cc pc = .ok (.return_, 1)) (hu : u9 0 = a0) (hP : va_P D vwCl (W' u9) H) (hD : va_D A (W' u9)) (hS : va_S A s.heap H locs) :
    W p l e R s m args below meth c H locs cells slots (MQ below (va_Qv (fun (u : Nat → Nat) => u 0 = a0) (fun u t => va_P D vwCl (W' u) t.heap ∧ va_D A (W' u)) A) args s cells slots A) (F0 m pc ls []) :=
  W.vret hx hb hr (fun t ht hW => ⟨⟨u9, rfl, hu, by rw [ht]; exact hP, hD⟩, hS.F ht⟩) hS.2.2 hdg hlk
end KN

set_option maxHeartbeats 1000000 in
set_option maxRecDepth 100000 in
theorem c_X0_init (l : Launch) (D : va_G) (a0 : Nat) (cI cJ : ClassId) : kN l yX0_init wsX0_init ({ frames := 1, cells := 1, slots := 36, locals := 13 } : Room) 1 36 D [(cI, .int), (cJ, .long)] [.ref a0] [(a0, .inr (0, [.null, .int 0]))] a0 (fun u : Nat → Nat => [((u 0), .inr (0, [.ref (u 1), .int 0])), ((u 1), .inl (cI, 36, .inl (fun _ => 0)))]) := by
  intro sz
  refine kNBody.met (y := yX0_init) (ws := wsX0_init) (av := [.ref a0]) (w := [(a0, .inr (0, [.null, .int 0]))]) (cc := cX0_init) (maxL := 1) (Qc := fun A => va_Qv (fun (u : Nat → Nat) => u 0 = a0) (fun u t => va_P D vwCl ((fun u : Nat → Nat => [((u 0), .inr (0, [.ref (u 1), .int 0])), ((u 1), .inl (cI, 36, .inl (fun _ => 0)))]) u) t.heap ∧ va_D A ((fun u : Nat → Nat => [((u 0), .inr (0, [.ref (u 1), .int 0])), ((u 1), .inl (cI, 36, .inl (fun _ => 0)))]) u)) A) (by decide) rfl (Nat.le_of_ble_eq_true rfl) ?_ sz
  intro p9 e9 s9 m9 below meth c9 A9 ls hx hb hr hml hts hown hlk hin0 hK hP hD hA hl
  have hown : s9.vm.findClass RX0 = some m9.cls := hown
  have inX0 : ∀ w ∈ wsX00, w ∈ wsX0_init := fun w h => List.mem_cons_of_mem _ (List.mem_append_right _ (h))
  have hS : va_S A9 s9.heap s9.heap [] := va_S.rf
  have hl : lv_has ls 1 [(0, .ref a0)] := hl
  refine lv_aload_n hx hb dX0_init_0 rfl (lv_at hl 0 rfl) ?_
  refine W.objInit hx hb hown (hts (.methodLink RX0 1 objectInit) (List.mem_of_getElem? (i := 1) rfl)) (hts (.instanceMethod objectInit) (List.mem_of_getElem? (i := 2) rfl)) (hts (.code objectInit ⟨#[0xb1]⟩ 1 none) (List.mem_of_getElem? (i := 3) rfl)) rfl (hml.trans hl.1.symm).symm rfl dX0_init_1 (Nat.le_of_ble_eq_true rfl) (Nat.le_of_ble_eq_true rfl) ?_
  refine W.eq (g2 := F0 m9 4 ls []) rfl ?_
  refine lv_aload_n hx hb dX0_init_4 rfl (lv_at hl 0 rfl) ?_
  refine lv_bipush (v := 36) hx hb dX0_init_5 (by decide) ?_
  refine k_newai hx hb (hts (.arrayClass .int) (List.mem_of_getElem? (i := 4) rfl)) hK 0 rfl hP hD hS hA (N := 36) (by decide) rfl (Nat.le_of_ble_eq_true rfl) (Nat.le_of_ble_eq_true rfl) (Nat.le_of_ble_eq_true rfl) dX0_init_7 (fun z1 H hP hD hS => ?_)
  have hP : va_P D vwCl [(a0, .inr (0, [.null, .int 0])), (z1, .inl (cI, 36, .inl (fun _ => 0)))] H := hP
  have hD : va_D A9 [(a0, .inr (0, [.null, .int 0])), (z1, .inl (cI, 36, .inl (fun _ => 0)))] := hD
  refine W.widen (k := 1) (n := 36) (Nat.le_of_ble_eq_true rfl) (Nat.le_of_ble_eq_true rfl) ?_
  refine va_putF (D := D) (ci := 0) (v := .ref z1) (ty := tyX0 0) (C := RX0) (T := TX0) (N := 2) hx hb hts inX0 tyX0 tyX0_ok nmX0 hown hK hP hD hS 0 rfl rfl 0 (by decide) (hts (.fieldLink RX0 9 "PumpOaths$BreachLog" "parts" "[I") (List.mem_of_getElem? (i := 5) rfl)) (fun _ h9 => h9) rfl hin0 rfl (by decide +kernel) rfl rfl (Nat.le_of_ble_eq_true rfl) dX0_init_9 (fun H locs hP hD hS => ?_)
  have hP : va_P D vwCl [(a0, .inr (0, [.ref z1, .int 0])), (z1, .inl (cI, 36, .inl (fun _ => 0)))] H := hP
  have hD : va_D A9 [(a0, .inr (0, [.ref z1, .int 0])), (z1, .inl (cI, 36, .inl (fun _ => 0)))] := hD
  exact k_nret (W' := (fun u : Nat → Nat => [((u 0), .inr (0, [.ref (u 1), .int 0])), ((u 1), .inl (cI, 36, .inl (fun _ => 0)))])) (u9 := fun i => [a0, z1].getD i 0) hx hb hr hlk dX0_init_12 rfl hP hD hS

set_option maxHeartbeats 1000000 in
set_option maxRecDepth 100000 in
theorem c_X1_init (l : Launch) (D : va_G) (a0 : Nat) (cI cJ : ClassId) : kN l yX1_init wsX1_init ({ frames := 1, cells := 2, slots := 202, locals := 13 } : Room) 2 202 D [(cI, .int), (cJ, .long)] [.ref a0] [(a0, .inr (1, [.null, .null, .int 0, .int 0, .int 0, .int 0]))] a0 (fun u : Nat → Nat => [((u 0), .inr (1, [.ref (u 1), .ref (u 2), .int 0, .int 0, .int 0, .int 0])), ((u 1), .inl (cI, 100, .inl (fun _ => 0))), ((u 2), .inl (cI, 102, .inl (fun _ => 0)))]) := by
  intro sz
  refine kNBody.met (y := yX1_init) (ws := wsX1_init) (av := [.ref a0]) (w := [(a0, .inr (1, [.null, .null, .int 0, .int 0, .int 0, .int 0]))]) (cc := cX1_init) (maxL := 1) (Qc := fun A => va_Qv (fun (u : Nat → Nat) => u 0 = a0) (fun u t => va_P D vwCl ((fun u : Nat → Nat => [((u 0), .inr (1, [.ref (u 1), .ref (u 2), .int 0, .int 0, .int 0, .int 0])), ((u 1), .inl (cI, 100, .inl (fun _ => 0))), ((u 2), .inl (cI, 102, .inl (fun _ => 0)))]) u) t.heap ∧ va_D A ((fun u : Nat → Nat => [((u 0), .inr (1, [.ref (u 1), .ref (u 2), .int 0, .int 0, .int 0, .int 0])), ((u 1), .inl (cI, 100, .inl (fun _ => 0))), ((u 2), .inl (cI, 102, .inl (fun _ => 0)))]) u)) A) (by decide) rfl (Nat.le_of_ble_eq_true rfl) ?_ sz
  intro p9 e9 s9 m9 below meth c9 A9 ls hx hb hr hml hts hown hlk hin0 hK hP hD hA hl
  have hown : s9.vm.findClass RX1 = some m9.cls := hown
  have inX1 : ∀ w ∈ wsX10, w ∈ wsX1_init := fun w h => List.mem_cons_of_mem _ (List.mem_append_right _ (h))
  have hS : va_S A9 s9.heap s9.heap [] := va_S.rf
  have hl : lv_has ls 1 [(0, .ref a0)] := hl
  refine lv_aload_n hx hb dX1_init_0 rfl (lv_at hl 0 rfl) ?_
  refine W.objInit hx hb hown (hts (.methodLink RX1 3 objectInit) (List.mem_of_getElem? (i := 1) rfl)) (hts (.instanceMethod objectInit) (List.mem_of_getElem? (i := 2) rfl)) (hts (.code objectInit ⟨#[0xb1]⟩ 1 none) (List.mem_of_getElem? (i := 3) rfl)) rfl (hml.trans hl.1.symm).symm rfl dX1_init_1 (Nat.le_of_ble_eq_true rfl) (Nat.le_of_ble_eq_true rfl) ?_
  refine W.eq (g2 := F0 m9 4 ls []) rfl ?_
  refine lv_aload_n hx hb dX1_init_4 rfl (lv_at hl 0 rfl) ?_
  refine lv_bipush (v := 100) hx hb dX1_init_5 (by decide) ?_
  refine k_newai hx hb (hts (.arrayClass .int) (List.mem_of_getElem? (i := 4) rfl)) hK 0 rfl hP hD hS hA (N := 100) (by decide) rfl (Nat.le_of_ble_eq_true rfl) (Nat.le_of_ble_eq_true rfl) (Nat.le_of_ble_eq_true rfl) dX1_init_7 (fun z1 H hP hD hS => ?_)
  have hP : va_P D vwCl [(a0, .inr (1, [.null, .null, .int 0, .int 0, .int 0, .int 0])), (z1, .inl (cI, 100, .inl (fun _ => 0)))] H := hP
  have hD : va_D A9 [(a0, .inr (1, [.null, .null, .int 0, .int 0, .int 0, .int 0])), (z1, .inl (cI, 100, .inl (fun _ => 0)))] := hD
  refine W.widen (k := 1) (n := 100) (Nat.le_of_ble_eq_true rfl) (Nat.le_of_ble_eq_true rfl) ?_
  refine va_putF (D := D) (ci := 1) (v := .ref z1) (ty := tyX1 0) (C := RX1) (T := TX1) (N := 6) hx hb hts inX1 tyX1 tyX1_ok nmX1 hown hK hP hD hS 0 rfl rfl 0 (by decide) (hts (.fieldLink RX1 11 "PumpOaths$OrderText" "bytes" "[I") (List.mem_of_getElem? (i := 5) rfl)) (fun _ h9 => h9) rfl hin0 rfl (by decide +kernel) rfl rfl (Nat.le_of_ble_eq_true rfl) dX1_init_9 (fun H locs hP hD hS => ?_)
  have hP : va_P D vwCl [(a0, .inr (1, [.ref z1, .null, .int 0, .int 0, .int 0, .int 0])), (z1, .inl (cI, 100, .inl (fun _ => 0)))] H := hP
  have hD : va_D A9 [(a0, .inr (1, [.ref z1, .null, .int 0, .int 0, .int 0, .int 0])), (z1, .inl (cI, 100, .inl (fun _ => 0)))] := hD
  refine lv_aload_n hx hb dX1_init_12 rfl (lv_at hl 0 rfl) ?_
  refine lv_bipush (v := 102) hx hb dX1_init_13 (by decide) ?_
  refine k_newai hx hb (hts (.arrayClass .int) (List.mem_of_getElem? (i := 4) rfl)) hK 0 rfl hP hD hS hA (N := 102) (by decide) rfl (Nat.le_of_ble_eq_true rfl) (Nat.le_of_ble_eq_true rfl) (Nat.le_of_ble_eq_true rfl) dX1_init_15 (fun z2 H hP hD hS => ?_)
  have hP : va_P D vwCl [(a0, .inr (1, [.ref z1, .null, .int 0, .int 0, .int 0, .int 0])), (z1, .inl (cI, 100, .inl (fun _ => 0))), (z2, .inl (cI, 102, .inl (fun _ => 0)))] H := hP
  have hD : va_D A9 [(a0, .inr (1, [.ref z1, .null, .int 0, .int 0, .int 0, .int 0])), (z1, .inl (cI, 100, .inl (fun _ => 0))), (z2, .inl (cI, 102, .inl (fun _ => 0)))] := hD
  refine W.widen (k := 2) (n := 202) (Nat.le_of_ble_eq_true rfl) (Nat.le_of_ble_eq_true rfl) ?_
  refine va_putF (D := D) (ci := 1) (v := .ref z2) (ty := tyX1 1) (C := RX1) (T := TX1) (N := 6) hx hb hts inX1 tyX1 tyX1_ok nmX1 hown hK hP hD hS 0 rfl rfl 1 (by decide) (hts (.fieldLink RX1 15 "PumpOaths$OrderText" "parts" "[I") (List.mem_of_getElem? (i := 6) rfl)) (fun _ h9 => h9) rfl hin0 rfl (by decide +kernel) rfl rfl (Nat.le_of_ble_eq_true rfl) dX1_init_17 (fun H locs hP hD hS => ?_)
  have hP : va_P D vwCl [(a0, .inr (1, [.ref z1, .ref z2, .int 0, .int 0, .int 0, .int 0])), (z1, .inl (cI, 100, .inl (fun _ => 0))), (z2, .inl (cI, 102, .inl (fun _ => 0)))] H := hP
  have hD : va_D A9 [(a0, .inr (1, [.ref z1, .ref z2, .int 0, .int 0, .int 0, .int 0])), (z1, .inl (cI, 100, .inl (fun _ => 0))), (z2, .inl (cI, 102, .inl (fun _ => 0)))] := hD
  exact k_nret (W' := (fun u : Nat → Nat => [((u 0), .inr (1, [.ref (u 1), .ref (u 2), .int 0, .int 0, .int 0, .int 0])), ((u 1), .inl (cI, 100, .inl (fun _ => 0))), ((u 2), .inl (cI, 102, .inl (fun _ => 0)))])) (u9 := fun i => [a0, z1, z2].getD i 0) hx hb hr hlk dX1_init_20 rfl hP hD hS

set_option maxHeartbeats 1000000 in
set_option maxRecDepth 100000 in
theorem c_X2_init (l : Launch) (D : va_G) (a0 : Nat) (cI cJ : ClassId) : kN l yX2_init wsX2_init ({ frames := 1, cells := 8, slots := 48, locals := 13 } : Room) 8 48 D [(cI, .int), (cJ, .long)] [.ref a0] [(a0, .inr (2, [.int 0, .null, .null, .null, .null, .null, .null, .null, .null]))] a0 (fun u : Nat → Nat => [((u 0), .inr (2, [.int 0, .ref (u 1), .ref (u 2), .ref (u 3), .ref (u 4), .ref (u 5), .ref (u 6), .ref (u 7), .ref (u 8)])), ((u 1), .inl (cI, 6, .inl (fun _ => 0))), ((u 2), .inl (cI, 6, .inl (fun _ => 0))), ((u 3), .inl (cI, 6, .inl (fun _ => 0))), ((u 4), .inl (cI, 6, .inl (fun _ => 0))), ((u 5), .inl (cI, 6, .inl (fun _ => 0))), ((u 6), .inl (cI, 6, .inl (fun _ => 0))), ((u 7), .inl (cI, 6, .inl (fun _ => 0))), ((u 8), .inl (cI, 6, .inl (fun _ => 0)))]) := by
  intro sz
  refine kNBody.met (y := yX2_init) (ws := wsX2_init) (av := [.ref a0]) (w := [(a0, .inr (2, [.int 0, .null, .null, .null, .null, .null, .null, .null, .null]))]) (cc := cX2_init) (maxL := 1) (Qc := fun A => va_Qv (fun (u : Nat → Nat) => u 0 = a0) (fun u t => va_P D vwCl ((fun u : Nat → Nat => [((u 0), .inr (2, [.int 0, .ref (u 1), .ref (u 2), .ref (u 3), .ref (u 4), .ref (u 5), .ref (u 6), .ref (u 7), .ref (u 8)])), ((u 1), .inl (cI, 6, .inl (fun _ => 0))), ((u 2), .inl (cI, 6, .inl (fun _ => 0))), ((u 3), .inl (cI, 6, .inl (fun _ => 0))), ((u 4), .inl (cI, 6, .inl (fun _ => 0))), ((u 5), .inl (cI, 6, .inl (fun _ => 0))), ((u 6), .inl (cI, 6, .inl (fun _ => 0))), ((u 7), .inl (cI, 6, .inl (fun _ => 0))), ((u 8), .inl (cI, 6, .inl (fun _ => 0)))]) u) t.heap ∧ va_D A ((fun u : Nat → Nat => [((u 0), .inr (2, [.int 0, .ref (u 1), .ref (u 2), .ref (u 3), .ref (u 4), .ref (u 5), .ref (u 6), .ref (u 7), .ref (u 8)])), ((u 1), .inl (cI, 6, .inl (fun _ => 0))), ((u 2), .inl (cI, 6, .inl (fun _ => 0))), ((u 3), .inl (cI, 6, .inl (fun _ => 0))), ((u 4), .inl (cI, 6, .inl (fun _ => 0))), ((u 5), .inl (cI, 6, .inl (fun _ => 0))), ((u 6), .inl (cI, 6, .inl (fun _ => 0))), ((u 7), .inl (cI, 6, .inl (fun _ => 0))), ((u 8), .inl (cI, 6, .inl (fun _ => 0)))]) u)) A) (by decide) rfl (Nat.le_of_ble_eq_true rfl) ?_ sz
  intro p9 e9 s9 m9 below meth c9 A9 ls hx hb hr hml hts hown hlk hin0 hK hP hD hA hl
  have hown : s9.vm.findClass RX2 = some m9.cls := hown
  have inX2 : ∀ w ∈ wsX20, w ∈ wsX2_init := fun w h => List.mem_cons_of_mem _ (List.mem_append_right _ (h))
  have hS : va_S A9 s9.heap s9.heap [] := va_S.rf
  have hl : lv_has ls 1 [(0, .ref a0)] := hl
  refine lv_aload_n hx hb dX2_init_0 rfl (lv_at hl 0 rfl) ?_
  refine W.objInit hx hb hown (hts (.methodLink RX2 3 objectInit) (List.mem_of_getElem? (i := 1) rfl)) (hts (.instanceMethod objectInit) (List.mem_of_getElem? (i := 2) rfl)) (hts (.code objectInit ⟨#[0xb1]⟩ 1 none) (List.mem_of_getElem? (i := 3) rfl)) rfl (hml.trans hl.1.symm).symm rfl dX2_init_1 (Nat.le_of_ble_eq_true rfl) (Nat.le_of_ble_eq_true rfl) ?_
  refine W.eq (g2 := F0 m9 4 ls []) rfl ?_
  refine lv_aload_n hx hb dX2_init_4 rfl (lv_at hl 0 rfl) ?_
  refine lv_bipush (v := 6) hx hb dX2_init_5 (by decide) ?_
  refine k_newai hx hb (hts (.arrayClass .int) (List.mem_of_getElem? (i := 4) rfl)) hK 0 rfl hP hD hS hA (N := 6) (by decide) rfl (Nat.le_of_ble_eq_true rfl) (Nat.le_of_ble_eq_true rfl) (Nat.le_of_ble_eq_true rfl) dX2_init_7 (fun z1 H hP hD hS => ?_)
  have hP : va_P D vwCl [(a0, .inr (2, [.int 0, .null, .null, .null, .null, .null, .null, .null, .null])), (z1, .inl (cI, 6, .inl (fun _ => 0)))] H := hP
  have hD : va_D A9 [(a0, .inr (2, [.int 0, .null, .null, .null, .null, .null, .null, .null, .null])), (z1, .inl (cI, 6, .inl (fun _ => 0)))] := hD
  refine W.widen (k := 1) (n := 6) (Nat.le_of_ble_eq_true rfl) (Nat.le_of_ble_eq_true rfl) ?_
  refine va_putF (D := D) (ci := 2) (v := .ref z1) (ty := tyX2 1) (C := RX2) (T := TX2) (N := 9) hx hb hts inX2 tyX2 tyX2_ok nmX2 hown hK hP hD hS 0 rfl rfl 1 (by decide) (hts (.fieldLink RX2 11 "PumpOaths$Pumps" "capacity" "[I") (List.mem_of_getElem? (i := 5) rfl)) (fun _ h9 => h9) rfl hin0 rfl (by decide +kernel) rfl rfl (Nat.le_of_ble_eq_true rfl) dX2_init_9 (fun H locs hP hD hS => ?_)
  have hP : va_P D vwCl [(a0, .inr (2, [.int 0, .ref z1, .null, .null, .null, .null, .null, .null, .null])), (z1, .inl (cI, 6, .inl (fun _ => 0)))] H := hP
  have hD : va_D A9 [(a0, .inr (2, [.int 0, .ref z1, .null, .null, .null, .null, .null, .null, .null])), (z1, .inl (cI, 6, .inl (fun _ => 0)))] := hD
  refine lv_aload_n hx hb dX2_init_12 rfl (lv_at hl 0 rfl) ?_
  refine lv_bipush (v := 6) hx hb dX2_init_13 (by decide) ?_
  refine k_newai hx hb (hts (.arrayClass .int) (List.mem_of_getElem? (i := 4) rfl)) hK 0 rfl hP hD hS hA (N := 6) (by decide) rfl (Nat.le_of_ble_eq_true rfl) (Nat.le_of_ble_eq_true rfl) (Nat.le_of_ble_eq_true rfl) dX2_init_15 (fun z2 H hP hD hS => ?_)
  have hP : va_P D vwCl [(a0, .inr (2, [.int 0, .ref z1, .null, .null, .null, .null, .null, .null, .null])), (z1, .inl (cI, 6, .inl (fun _ => 0))), (z2, .inl (cI, 6, .inl (fun _ => 0)))] H := hP
  have hD : va_D A9 [(a0, .inr (2, [.int 0, .ref z1, .null, .null, .null, .null, .null, .null, .null])), (z1, .inl (cI, 6, .inl (fun _ => 0))), (z2, .inl (cI, 6, .inl (fun _ => 0)))] := hD
  refine W.widen (k := 2) (n := 12) (Nat.le_of_ble_eq_true rfl) (Nat.le_of_ble_eq_true rfl) ?_
  refine va_putF (D := D) (ci := 2) (v := .ref z2) (ty := tyX2 2) (C := RX2) (T := TX2) (N := 9) hx hb hts inX2 tyX2 tyX2_ok nmX2 hown hK hP hD hS 0 rfl rfl 2 (by decide) (hts (.fieldLink RX2 15 "PumpOaths$Pumps" "oath" "[I") (List.mem_of_getElem? (i := 6) rfl)) (fun _ h9 => h9) rfl hin0 rfl (by decide +kernel) rfl rfl (Nat.le_of_ble_eq_true rfl) dX2_init_17 (fun H locs hP hD hS => ?_)
  have hP : va_P D vwCl [(a0, .inr (2, [.int 0, .ref z1, .ref z2, .null, .null, .null, .null, .null, .null])), (z1, .inl (cI, 6, .inl (fun _ => 0))), (z2, .inl (cI, 6, .inl (fun _ => 0)))] H := hP
  have hD : va_D A9 [(a0, .inr (2, [.int 0, .ref z1, .ref z2, .null, .null, .null, .null, .null, .null])), (z1, .inl (cI, 6, .inl (fun _ => 0))), (z2, .inl (cI, 6, .inl (fun _ => 0)))] := hD
  refine lv_aload_n hx hb dX2_init_20 rfl (lv_at hl 0 rfl) ?_
  refine lv_bipush (v := 6) hx hb dX2_init_21 (by decide) ?_
  refine k_newai hx hb (hts (.arrayClass .int) (List.mem_of_getElem? (i := 4) rfl)) hK 0 rfl hP hD hS hA (N := 6) (by decide) rfl (Nat.le_of_ble_eq_true rfl) (Nat.le_of_ble_eq_true rfl) (Nat.le_of_ble_eq_true rfl) dX2_init_23 (fun z3 H hP hD hS => ?_)
  have hP : va_P D vwCl [(a0, .inr (2, [.int 0, .ref z1, .ref z2, .null, .null, .null, .null, .null, .null])), (z1, .inl (cI, 6, .inl (fun _ => 0))), (z2, .inl (cI, 6, .inl (fun _ => 0))), (z3, .inl (cI, 6, .inl (fun _ => 0)))] H := hP
  have hD : va_D A9 [(a0, .inr (2, [.int 0, .ref z1, .ref z2, .null, .null, .null, .null, .null, .null])), (z1, .inl (cI, 6, .inl (fun _ => 0))), (z2, .inl (cI, 6, .inl (fun _ => 0))), (z3, .inl (cI, 6, .inl (fun _ => 0)))] := hD
  refine W.widen (k := 3) (n := 18) (Nat.le_of_ble_eq_true rfl) (Nat.le_of_ble_eq_true rfl) ?_
  refine va_putF (D := D) (ci := 2) (v := .ref z3) (ty := tyX2 3) (C := RX2) (T := TX2) (N := 9) hx hb hts inX2 tyX2 tyX2_ok nmX2 hown hK hP hD hS 0 rfl rfl 3 (by decide) (hts (.fieldLink RX2 18 "PumpOaths$Pumps" "mode" "[I") (List.mem_of_getElem? (i := 7) rfl)) (fun _ h9 => h9) rfl hin0 rfl (by decide +kernel) rfl rfl (Nat.le_of_ble_eq_true rfl) dX2_init_25 (fun H locs hP hD hS => ?_)
  have hP : va_P D vwCl [(a0, .inr (2, [.int 0, .ref z1, .ref z2, .ref z3, .null, .null, .null, .null, .null])), (z1, .inl (cI, 6, .inl (fun _ => 0))), (z2, .inl (cI, 6, .inl (fun _ => 0))), (z3, .inl (cI, 6, .inl (fun _ => 0)))] H := hP
  have hD : va_D A9 [(a0, .inr (2, [.int 0, .ref z1, .ref z2, .ref z3, .null, .null, .null, .null, .null])), (z1, .inl (cI, 6, .inl (fun _ => 0))), (z2, .inl (cI, 6, .inl (fun _ => 0))), (z3, .inl (cI, 6, .inl (fun _ => 0)))] := hD
  refine lv_aload_n hx hb dX2_init_28 rfl (lv_at hl 0 rfl) ?_
  refine lv_bipush (v := 6) hx hb dX2_init_29 (by decide) ?_
  refine k_newai hx hb (hts (.arrayClass .int) (List.mem_of_getElem? (i := 4) rfl)) hK 0 rfl hP hD hS hA (N := 6) (by decide) rfl (Nat.le_of_ble_eq_true rfl) (Nat.le_of_ble_eq_true rfl) (Nat.le_of_ble_eq_true rfl) dX2_init_31 (fun z4 H hP hD hS => ?_)
  have hP : va_P D vwCl [(a0, .inr (2, [.int 0, .ref z1, .ref z2, .ref z3, .null, .null, .null, .null, .null])), (z1, .inl (cI, 6, .inl (fun _ => 0))), (z2, .inl (cI, 6, .inl (fun _ => 0))), (z3, .inl (cI, 6, .inl (fun _ => 0))), (z4, .inl (cI, 6, .inl (fun _ => 0)))] H := hP
  have hD : va_D A9 [(a0, .inr (2, [.int 0, .ref z1, .ref z2, .ref z3, .null, .null, .null, .null, .null])), (z1, .inl (cI, 6, .inl (fun _ => 0))), (z2, .inl (cI, 6, .inl (fun _ => 0))), (z3, .inl (cI, 6, .inl (fun _ => 0))), (z4, .inl (cI, 6, .inl (fun _ => 0)))] := hD
  refine W.widen (k := 4) (n := 24) (Nat.le_of_ble_eq_true rfl) (Nat.le_of_ble_eq_true rfl) ?_
  refine va_putF (D := D) (ci := 2) (v := .ref z4) (ty := tyX2 4) (C := RX2) (T := TX2) (N := 9) hx hb hts inX2 tyX2 tyX2_ok nmX2 hown hK hP hD hS 0 rfl rfl 4 (by decide) (hts (.fieldLink RX2 21 "PumpOaths$Pumps" "place" "[I") (List.mem_of_getElem? (i := 8) rfl)) (fun _ h9 => h9) rfl hin0 rfl (by decide +kernel) rfl rfl (Nat.le_of_ble_eq_true rfl) dX2_init_33 (fun H locs hP hD hS => ?_)
  have hP : va_P D vwCl [(a0, .inr (2, [.int 0, .ref z1, .ref z2, .ref z3, .ref z4, .null, .null, .null, .null])), (z1, .inl (cI, 6, .inl (fun _ => 0))), (z2, .inl (cI, 6, .inl (fun _ => 0))), (z3, .inl (cI, 6, .inl (fun _ => 0))), (z4, .inl (cI, 6, .inl (fun _ => 0)))] H := hP
  have hD : va_D A9 [(a0, .inr (2, [.int 0, .ref z1, .ref z2, .ref z3, .ref z4, .null, .null, .null, .null])), (z1, .inl (cI, 6, .inl (fun _ => 0))), (z2, .inl (cI, 6, .inl (fun _ => 0))), (z3, .inl (cI, 6, .inl (fun _ => 0))), (z4, .inl (cI, 6, .inl (fun _ => 0)))] := hD
  refine lv_aload_n hx hb dX2_init_36 rfl (lv_at hl 0 rfl) ?_
  refine lv_bipush (v := 6) hx hb dX2_init_37 (by decide) ?_
  refine k_newai hx hb (hts (.arrayClass .int) (List.mem_of_getElem? (i := 4) rfl)) hK 0 rfl hP hD hS hA (N := 6) (by decide) rfl (Nat.le_of_ble_eq_true rfl) (Nat.le_of_ble_eq_true rfl) (Nat.le_of_ble_eq_true rfl) dX2_init_39 (fun z5 H hP hD hS => ?_)
  have hP : va_P D vwCl [(a0, .inr (2, [.int 0, .ref z1, .ref z2, .ref z3, .ref z4, .null, .null, .null, .null])), (z1, .inl (cI, 6, .inl (fun _ => 0))), (z2, .inl (cI, 6, .inl (fun _ => 0))), (z3, .inl (cI, 6, .inl (fun _ => 0))), (z4, .inl (cI, 6, .inl (fun _ => 0))), (z5, .inl (cI, 6, .inl (fun _ => 0)))] H := hP
  have hD : va_D A9 [(a0, .inr (2, [.int 0, .ref z1, .ref z2, .ref z3, .ref z4, .null, .null, .null, .null])), (z1, .inl (cI, 6, .inl (fun _ => 0))), (z2, .inl (cI, 6, .inl (fun _ => 0))), (z3, .inl (cI, 6, .inl (fun _ => 0))), (z4, .inl (cI, 6, .inl (fun _ => 0))), (z5, .inl (cI, 6, .inl (fun _ => 0)))] := hD
  refine W.widen (k := 5) (n := 30) (Nat.le_of_ble_eq_true rfl) (Nat.le_of_ble_eq_true rfl) ?_
  refine va_putF (D := D) (ci := 2) (v := .ref z5) (ty := tyX2 5) (C := RX2) (T := TX2) (N := 9) hx hb hts inX2 tyX2 tyX2_ok nmX2 hown hK hP hD hS 0 rfl rfl 5 (by decide) (hts (.fieldLink RX2 24 "PumpOaths$Pumps" "hourStarts" "[I") (List.mem_of_getElem? (i := 9) rfl)) (fun _ h9 => h9) rfl hin0 rfl (by decide +kernel) rfl rfl (Nat.le_of_ble_eq_true rfl) dX2_init_41 (fun H locs hP hD hS => ?_)
  have hP : va_P D vwCl [(a0, .inr (2, [.int 0, .ref z1, .ref z2, .ref z3, .ref z4, .ref z5, .null, .null, .null])), (z1, .inl (cI, 6, .inl (fun _ => 0))), (z2, .inl (cI, 6, .inl (fun _ => 0))), (z3, .inl (cI, 6, .inl (fun _ => 0))), (z4, .inl (cI, 6, .inl (fun _ => 0))), (z5, .inl (cI, 6, .inl (fun _ => 0)))] H := hP
  have hD : va_D A9 [(a0, .inr (2, [.int 0, .ref z1, .ref z2, .ref z3, .ref z4, .ref z5, .null, .null, .null])), (z1, .inl (cI, 6, .inl (fun _ => 0))), (z2, .inl (cI, 6, .inl (fun _ => 0))), (z3, .inl (cI, 6, .inl (fun _ => 0))), (z4, .inl (cI, 6, .inl (fun _ => 0))), (z5, .inl (cI, 6, .inl (fun _ => 0)))] := hD
  refine lv_aload_n hx hb dX2_init_44 rfl (lv_at hl 0 rfl) ?_
  refine lv_bipush (v := 6) hx hb dX2_init_45 (by decide) ?_
  refine k_newai hx hb (hts (.arrayClass .int) (List.mem_of_getElem? (i := 4) rfl)) hK 0 rfl hP hD hS hA (N := 6) (by decide) rfl (Nat.le_of_ble_eq_true rfl) (Nat.le_of_ble_eq_true rfl) (Nat.le_of_ble_eq_true rfl) dX2_init_47 (fun z6 H hP hD hS => ?_)
  have hP : va_P D vwCl [(a0, .inr (2, [.int 0, .ref z1, .ref z2, .ref z3, .ref z4, .ref z5, .null, .null, .null])), (z1, .inl (cI, 6, .inl (fun _ => 0))), (z2, .inl (cI, 6, .inl (fun _ => 0))), (z3, .inl (cI, 6, .inl (fun _ => 0))), (z4, .inl (cI, 6, .inl (fun _ => 0))), (z5, .inl (cI, 6, .inl (fun _ => 0))), (z6, .inl (cI, 6, .inl (fun _ => 0)))] H := hP
  have hD : va_D A9 [(a0, .inr (2, [.int 0, .ref z1, .ref z2, .ref z3, .ref z4, .ref z5, .null, .null, .null])), (z1, .inl (cI, 6, .inl (fun _ => 0))), (z2, .inl (cI, 6, .inl (fun _ => 0))), (z3, .inl (cI, 6, .inl (fun _ => 0))), (z4, .inl (cI, 6, .inl (fun _ => 0))), (z5, .inl (cI, 6, .inl (fun _ => 0))), (z6, .inl (cI, 6, .inl (fun _ => 0)))] := hD
  refine W.widen (k := 6) (n := 36) (Nat.le_of_ble_eq_true rfl) (Nat.le_of_ble_eq_true rfl) ?_
  refine va_putF (D := D) (ci := 2) (v := .ref z6) (ty := tyX2 6) (C := RX2) (T := TX2) (N := 9) hx hb hts inX2 tyX2 tyX2_ok nmX2 hown hK hP hD hS 0 rfl rfl 6 (by decide) (hts (.fieldLink RX2 27 "PumpOaths$Pumps" "starts" "[I") (List.mem_of_getElem? (i := 10) rfl)) (fun _ h9 => h9) rfl hin0 rfl (by decide +kernel) rfl rfl (Nat.le_of_ble_eq_true rfl) dX2_init_49 (fun H locs hP hD hS => ?_)
  have hP : va_P D vwCl [(a0, .inr (2, [.int 0, .ref z1, .ref z2, .ref z3, .ref z4, .ref z5, .ref z6, .null, .null])), (z1, .inl (cI, 6, .inl (fun _ => 0))), (z2, .inl (cI, 6, .inl (fun _ => 0))), (z3, .inl (cI, 6, .inl (fun _ => 0))), (z4, .inl (cI, 6, .inl (fun _ => 0))), (z5, .inl (cI, 6, .inl (fun _ => 0))), (z6, .inl (cI, 6, .inl (fun _ => 0)))] H := hP
  have hD : va_D A9 [(a0, .inr (2, [.int 0, .ref z1, .ref z2, .ref z3, .ref z4, .ref z5, .ref z6, .null, .null])), (z1, .inl (cI, 6, .inl (fun _ => 0))), (z2, .inl (cI, 6, .inl (fun _ => 0))), (z3, .inl (cI, 6, .inl (fun _ => 0))), (z4, .inl (cI, 6, .inl (fun _ => 0))), (z5, .inl (cI, 6, .inl (fun _ => 0))), (z6, .inl (cI, 6, .inl (fun _ => 0)))] := hD
  refine lv_aload_n hx hb dX2_init_52 rfl (lv_at hl 0 rfl) ?_
  refine lv_bipush (v := 6) hx hb dX2_init_53 (by decide) ?_
  refine k_newai hx hb (hts (.arrayClass .int) (List.mem_of_getElem? (i := 4) rfl)) hK 0 rfl hP hD hS hA (N := 6) (by decide) rfl (Nat.le_of_ble_eq_true rfl) (Nat.le_of_ble_eq_true rfl) (Nat.le_of_ble_eq_true rfl) dX2_init_55 (fun z7 H hP hD hS => ?_)
  have hP : va_P D vwCl [(a0, .inr (2, [.int 0, .ref z1, .ref z2, .ref z3, .ref z4, .ref z5, .ref z6, .null, .null])), (z1, .inl (cI, 6, .inl (fun _ => 0))), (z2, .inl (cI, 6, .inl (fun _ => 0))), (z3, .inl (cI, 6, .inl (fun _ => 0))), (z4, .inl (cI, 6, .inl (fun _ => 0))), (z5, .inl (cI, 6, .inl (fun _ => 0))), (z6, .inl (cI, 6, .inl (fun _ => 0))), (z7, .inl (cI, 6, .inl (fun _ => 0)))] H := hP
  have hD : va_D A9 [(a0, .inr (2, [.int 0, .ref z1, .ref z2, .ref z3, .ref z4, .ref z5, .ref z6, .null, .null])), (z1, .inl (cI, 6, .inl (fun _ => 0))), (z2, .inl (cI, 6, .inl (fun _ => 0))), (z3, .inl (cI, 6, .inl (fun _ => 0))), (z4, .inl (cI, 6, .inl (fun _ => 0))), (z5, .inl (cI, 6, .inl (fun _ => 0))), (z6, .inl (cI, 6, .inl (fun _ => 0))), (z7, .inl (cI, 6, .inl (fun _ => 0)))] := hD
  refine W.widen (k := 7) (n := 42) (Nat.le_of_ble_eq_true rfl) (Nat.le_of_ble_eq_true rfl) ?_
  refine va_putF (D := D) (ci := 2) (v := .ref z7) (ty := tyX2 7) (C := RX2) (T := TX2) (N := 9) hx hb hts inX2 tyX2 tyX2_ok nmX2 hown hK hP hD hS 0 rfl rfl 7 (by decide) (hts (.fieldLink RX2 30 "PumpOaths$Pumps" "minutes" "[I") (List.mem_of_getElem? (i := 11) rfl)) (fun _ h9 => h9) rfl hin0 rfl (by decide +kernel) rfl rfl (Nat.le_of_ble_eq_true rfl) dX2_init_57 (fun H locs hP hD hS => ?_)
  have hP : va_P D vwCl [(a0, .inr (2, [.int 0, .ref z1, .ref z2, .ref z3, .ref z4, .ref z5, .ref z6, .ref z7, .null])), (z1, .inl (cI, 6, .inl (fun _ => 0))), (z2, .inl (cI, 6, .inl (fun _ => 0))), (z3, .inl (cI, 6, .inl (fun _ => 0))), (z4, .inl (cI, 6, .inl (fun _ => 0))), (z5, .inl (cI, 6, .inl (fun _ => 0))), (z6, .inl (cI, 6, .inl (fun _ => 0))), (z7, .inl (cI, 6, .inl (fun _ => 0)))] H := hP
  have hD : va_D A9 [(a0, .inr (2, [.int 0, .ref z1, .ref z2, .ref z3, .ref z4, .ref z5, .ref z6, .ref z7, .null])), (z1, .inl (cI, 6, .inl (fun _ => 0))), (z2, .inl (cI, 6, .inl (fun _ => 0))), (z3, .inl (cI, 6, .inl (fun _ => 0))), (z4, .inl (cI, 6, .inl (fun _ => 0))), (z5, .inl (cI, 6, .inl (fun _ => 0))), (z6, .inl (cI, 6, .inl (fun _ => 0))), (z7, .inl (cI, 6, .inl (fun _ => 0)))] := hD
  refine lv_aload_n hx hb dX2_init_60 rfl (lv_at hl 0 rfl) ?_
  refine lv_bipush (v := 6) hx hb dX2_init_61 (by decide) ?_
  refine k_newai hx hb (hts (.arrayClass .int) (List.mem_of_getElem? (i := 4) rfl)) hK 0 rfl hP hD hS hA (N := 6) (by decide) rfl (Nat.le_of_ble_eq_true rfl) (Nat.le_of_ble_eq_true rfl) (Nat.le_of_ble_eq_true rfl) dX2_init_63 (fun z8 H hP hD hS => ?_)
  have hP : va_P D vwCl [(a0, .inr (2, [.int 0, .ref z1, .ref z2, .ref z3, .ref z4, .ref z5, .ref z6, .ref z7, .null])), (z1, .inl (cI, 6, .inl (fun _ => 0))), (z2, .inl (cI, 6, .inl (fun _ => 0))), (z3, .inl (cI, 6, .inl (fun _ => 0))), (z4, .inl (cI, 6, .inl (fun _ => 0))), (z5, .inl (cI, 6, .inl (fun _ => 0))), (z6, .inl (cI, 6, .inl (fun _ => 0))), (z7, .inl (cI, 6, .inl (fun _ => 0))), (z8, .inl (cI, 6, .inl (fun _ => 0)))] H := hP
  have hD : va_D A9 [(a0, .inr (2, [.int 0, .ref z1, .ref z2, .ref z3, .ref z4, .ref z5, .ref z6, .ref z7, .null])), (z1, .inl (cI, 6, .inl (fun _ => 0))), (z2, .inl (cI, 6, .inl (fun _ => 0))), (z3, .inl (cI, 6, .inl (fun _ => 0))), (z4, .inl (cI, 6, .inl (fun _ => 0))), (z5, .inl (cI, 6, .inl (fun _ => 0))), (z6, .inl (cI, 6, .inl (fun _ => 0))), (z7, .inl (cI, 6, .inl (fun _ => 0))), (z8, .inl (cI, 6, .inl (fun _ => 0)))] := hD
  refine W.widen (k := 8) (n := 48) (Nat.le_of_ble_eq_true rfl) (Nat.le_of_ble_eq_true rfl) ?_
  refine va_putF (D := D) (ci := 2) (v := .ref z8) (ty := tyX2 8) (C := RX2) (T := TX2) (N := 9) hx hb hts inX2 tyX2 tyX2_ok nmX2 hown hK hP hD hS 0 rfl rfl 8 (by decide) (hts (.fieldLink RX2 33 "PumpOaths$Pumps" "broken" "[I") (List.mem_of_getElem? (i := 12) rfl)) (fun _ h9 => h9) rfl hin0 rfl (by decide +kernel) rfl rfl (Nat.le_of_ble_eq_true rfl) dX2_init_65 (fun H locs hP hD hS => ?_)
  have hP : va_P D vwCl [(a0, .inr (2, [.int 0, .ref z1, .ref z2, .ref z3, .ref z4, .ref z5, .ref z6, .ref z7, .ref z8])), (z1, .inl (cI, 6, .inl (fun _ => 0))), (z2, .inl (cI, 6, .inl (fun _ => 0))), (z3, .inl (cI, 6, .inl (fun _ => 0))), (z4, .inl (cI, 6, .inl (fun _ => 0))), (z5, .inl (cI, 6, .inl (fun _ => 0))), (z6, .inl (cI, 6, .inl (fun _ => 0))), (z7, .inl (cI, 6, .inl (fun _ => 0))), (z8, .inl (cI, 6, .inl (fun _ => 0)))] H := hP
  have hD : va_D A9 [(a0, .inr (2, [.int 0, .ref z1, .ref z2, .ref z3, .ref z4, .ref z5, .ref z6, .ref z7, .ref z8])), (z1, .inl (cI, 6, .inl (fun _ => 0))), (z2, .inl (cI, 6, .inl (fun _ => 0))), (z3, .inl (cI, 6, .inl (fun _ => 0))), (z4, .inl (cI, 6, .inl (fun _ => 0))), (z5, .inl (cI, 6, .inl (fun _ => 0))), (z6, .inl (cI, 6, .inl (fun _ => 0))), (z7, .inl (cI, 6, .inl (fun _ => 0))), (z8, .inl (cI, 6, .inl (fun _ => 0)))] := hD
  exact k_nret (W' := (fun u : Nat → Nat => [((u 0), .inr (2, [.int 0, .ref (u 1), .ref (u 2), .ref (u 3), .ref (u 4), .ref (u 5), .ref (u 6), .ref (u 7), .ref (u 8)])), ((u 1), .inl (cI, 6, .inl (fun _ => 0))), ((u 2), .inl (cI, 6, .inl (fun _ => 0))), ((u 3), .inl (cI, 6, .inl (fun _ => 0))), ((u 4), .inl (cI, 6, .inl (fun _ => 0))), ((u 5), .inl (cI, 6, .inl (fun _ => 0))), ((u 6), .inl (cI, 6, .inl (fun _ => 0))), ((u 7), .inl (cI, 6, .inl (fun _ => 0))), ((u 8), .inl (cI, 6, .inl (fun _ => 0)))])) (u9 := fun i => [a0, z1, z2, z3, z4, z5, z6, z7, z8].getD i 0) hx hb hr hlk dX2_init_68 rfl hP hD hS
