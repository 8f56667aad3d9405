/-! THE LAW: a cell of the script -/
def ce_V (xs : Nat → Int32) (L k : Nat) : Int32 := (if k < L then xs k else 16807 * (nI k + 13)) &&& 2147483647
theorem ce_nn (xs : Nat → Int32) (L k : Nat) : ∃ j, j < 2 ^ 31 ∧ ce_V xs L k = nI j := by
  unfold ce_V
  generalize (if k < L then xs k else 16807 * (nI k + 13)) = x
  have h : (x &&& 2147483647).toBitVec.toNat ≤ 2147483647 := by
    rw [Int32.toBitVec_and, BitVec.toNat_and]
    exact Nat.le_trans Nat.and_le_right (by decide)
  refine ⟨(x &&& 2147483647).toBitVec.toNat, by omega, ?_⟩
  refine Int32.toBitVec_inj.mp ?_
  show (x &&& 2147483647).toBitVec = (Int32.ofNat _).toBitVec
  rw [Int32.toBitVec_ofNat']
  exact BitVec.eq_of_toNat_eq (by rw [BitVec.toNat_ofNat]; exact (Nat.mod_eq_of_lt (BitVec.isLt _)).symm)
def kBX (D : va_G) (tys : va_Ty) (sz : Nat) (b L : Nat) (xs : Nat → Int32) (U : State) : Prop := kB D tys [] sz U ∧ va_X b L xs U U.heap ∧ b < U.heap.size
theorem kBX_blind {av : List Value} {D : va_G} {tys : va_Ty} {sz b L : Nat} {xs : Nat → Int32} : FrameBlind (va_Pc av (kBX D tys sz b L xs)) := fun a U g mk q => by
  obtain ⟨q0, ⟨q1, qP, qK, qD⟩, qX, qb⟩ := q
  exact ⟨q0, ⟨q1, qP, va_K.moved (u := U) (U := U.calling g mk a) (Vm.Alike.refl U.vm) qK, qD⟩, va_X.moved (u := U) (U := U.calling g mk a) (Vm.Alike.refl U.vm) qX, qb⟩
theorem k_preX {s : State} {H : Heap} {locs : List Loc} {D : va_G} {tys : va_Ty} {A : Nat → Prop} {av : List Value} {w : va_W} {b L : Nat} {xs : Nat → Int32} (hX : va_X b L xs s s.heap) (hbl : b < s.heap.size) (hbA : ¬ A b) (hS : va_S A s.heap H locs) (hK : va_K D vwCl tys s) (hP : va_P D vwCl w H) (hD : va_D A w) : ∀ U : State, U.heap = H → s.WarmedH U.vm → va_Pc av (kBX D tys H.size b L xs) av.toArray U := fun U hU hW => by
  obtain ⟨q0, q1⟩ := k_pre (av := av) (a := []) (z := w) (wc := []) rfl hK hP hD U hU hW
  refine ⟨q0, q1, ?_, ?_⟩
  · rw [hU]
    exact va_X.moved hW.alike (hX.kept (hS.2.1 b hbl hbA))
  · rw [hU]
    exact Nat.lt_of_lt_of_le hbl hS.1
set_option maxHeartbeats 1000000 in
set_option maxRecDepth 100000 in
theorem c_L_cell (l : Launch) (D : va_G) (cI cJ : ClassId) (b L : Nat) (xs : Nat → Int32) (k : Nat) (hk : k < 1000) (hL : L ≤ 260) (sz : Nat) : Met l yL_cell wsL_cell ({ frames := 0, cells := 0, slots := 0, locals := 0 } : Room) (va_Pc [.ref b, .int (nI k)] (kBX D [(cI, .int), (cJ, .long)] sz b L xs)) (va_Qi (fun r (_ : Unit) => r = ce_V xs L k) (fun _ t => va_P D vwCl [] t.heap) (va_A [] sz)) 0 0 (va_A [] sz) := by
  refine Met.ofW (cc := cL_cell) (maxL := 2) (ret := some .int) (by decide) rfl ?_
  intro p e s m args below meth c s₁ B hml hv
  obtain ⟨rfl, ⟨hsz, hP, hK, hD0⟩, hX, hbl⟩ := hv
  have hts := atoms_spec (ws := wsL_cell) B.pre
  have hown : s.vm.findClass RL = some m.cls := findClass_of_methodNamed B.named
  subst hsz
  have hl := lv_entry [.ref b, .int (nI k)] (n := 2) (Nat.le_of_ble_eq_true rfl)
  have hbA : ¬ va_A [] s.heap.size b := fun q => by
    rcases q with ⟨k9, e9, h9⟩ | h9
    · simp at h9
    · omega
  have hS : va_S (va_A [] s.heap.size) s.heap s.heap [] := va_S.rf
  have hx := B.exec
  have hb := B.bytes
  have hr := B.returns
  have hlk := B.notSynchronized
  rw [lg_entry_eq]
  generalize (lg_sl ([.ref b, .int (nI k)]) ++ List.replicate (2 - (lg_sl ([.ref b, .int (nI k)])).length) Slot.unset).toArray = ls at hl ⊢
  have hl : lv_has ls 2 [(0, .ref b), (1, .int (nI k))] := hl
  have fin : ∀ v : Int32, v = (if k < L then xs k else 16807 * (nI k + 13)) → W p l e ({ frames := 0, cells := 0, slots := 0, locals := 0 } : Room) s m (List.toArray [.ref b, .int (nI k)]) below meth c s.heap [] 0 0 (MQ below (va_Qi (fun r (_ : Unit) => r = ce_V xs L k) (fun _ t => va_P D vwCl [] t.heap) (va_A [] s.heap.size)) (List.toArray [.ref b, .int (nI k)]) s 0 0 (va_A [] s.heap.size)) (F0 m 20 ls [.int v]) := fun v hv => by
    refine lv_ldc (v := 2147483647) hx hb hown (hts (.constant RL 7 (2147483647)) (List.mem_of_getElem? (i := 1) rfl)) dL_cell_20 ?_
    refine lv_iand hx hb dL_cell_22 ?_
    exact k_iret hx hb hr hlk hP hS dL_cell_23 rfl (by rw [hv, ce_V]) (fun h => h)
  refine lv_iload_n hx hb dL_cell_0 rfl (lv_at hl 1 rfl) ?_
  refine lv_aload_n hx hb dL_cell_1 rfl (lv_at hl 0 rfl) ?_
  refine va_slen hx hb hX hbl hbA hS dL_cell_2 ?_
  refine lv_icmp_ge (tgt := 12) hx hb dL_cell_3 (by decide) (fun c_9 => ?_) (fun c_9 => ?_)
  · refine lv_sipush (v := 16807) hx hb dL_cell_12 (by decide) ?_
    refine lv_iload_n hx hb dL_cell_15 rfl (lv_at hl 1 rfl) ?_
    refine lv_bipush (v := 13) hx hb dL_cell_16 (by decide) ?_
    refine lv_iadd hx hb dL_cell_18 ?_
    refine lv_imul hx hb dL_cell_19 ?_
    exact fin _ (if_neg (by
      have h9 := (nI_leI (a := L) (b := k) (by omega) (by omega)).mp c_9
      omega)).symm
  · have hkL : k < L := by
      rcases Nat.lt_or_ge k L with h9 | h9
      · exact h9
      · exact absurd (show nI L ≤ nI k from nI_le h9 (by omega)) c_9
    refine lv_aload_n hx hb dL_cell_6 rfl (lv_at hl 0 rfl) ?_
    refine lv_iload_n hx hb dL_cell_7 rfl (lv_at hl 1 rfl) ?_
    refine va_sld hx hb hX hbl hbA hS (vp_in_nI hkL (by omega)) dL_cell_8 ?_
    refine lv_goto (tgt := 20) hx hb dL_cell_9 (by decide) ?_
    exact fin _ (by rw [if_pos hkL, nI_clamp (by omega)])
/-! what holds of the law all along -/
abbrev A0 (s : State) : Nat → Prop := fun q => s.heap.size ≤ q
def lw_C (p : Program) (l : Launch) (s : State) (m : MethodId) (meth : Method) (c : Code) (b L : Nat) (xs : Nat → Int32) (D : va_G) (cI cJ : ClassId) : Prop :=
  p.tables.exec = Jvm.exec ∧ c.code = cL_law ∧ meth.sig.returnType = some .boolean ∧ c.maxLocals = 14 ∧ s.vm.findClass RL = some m.cls ∧ (∀ w ∈ wsL_law, w.before #[Value.ref b] s = true) ∧ va_X b L xs s s.heap ∧ b < s.heap.size ∧ meth.locks = false ∧ va_K D vwCl [(cI, .int), (cJ, .long)] s ∧ kT (A0 s) s ∧ kN3 s ∧ l.stackTraces = false ∧ L ≤ 260
/-- the station now, the saved ones' number, the sum of the levels that were set; the time is at most u -/
def LI (S : SS) (sv : Int32) (bb : Int64) (n u : Nat) : Prop := ∃ (Z W : Nat → Nat) (t : Nat) (B : Int) (v : Nat), JJ S Z W n t B ∧ bb = Int64.ofInt B ∧ sv = nI v ∧ v ≤ 4 ∧ t ≤ u
theorem c_svN {v : Nat} (h : v ≤ 4) : ∃ v', c_sv (nI v) = nI v' ∧ 1 ≤ v' ∧ v' ≤ 4 := by
  unfold c_sv
  by_cases e : 4 ≤ v
  · rw [if_pos (show (4 : Int32) ≤ nI v from nI_le (a := 4) e (by omega))]
    exact ⟨v, rfl, by omega, h⟩
  · rw [if_neg (show ¬ (4 : Int32) ≤ nI v from nI_ge (b := 4) (by omega) (by omega)), nI_1]
    exact ⟨v + 1, rfl, by omega, by omega⟩
theorem LI_put {S : SS} {sv : Int32} {bb : Int64} {n u : Nat} {S' : SS} {bb' : Int64} {n' u' : Nat} (h : LI S sv bb n u) (hJ : ∀ Z W t B, JJ S Z W n t B → bb = Int64.ofInt B → t ≤ u → ∃ Z' W' t' B', JJ S' Z' W' n' t' B' ∧ bb' = Int64.ofInt B' ∧ t' ≤ u') : LI S' (c_sv sv) bb' n' u' := by
  obtain ⟨Z, W, t, B, v, h1, h2, h3, h4, h5⟩ := h
  obtain ⟨v', g1, g2, g3⟩ := c_svN h4
  obtain ⟨Z', W', t', B', k1, k2, k3⟩ := hJ Z W t B h1 h2 h5
  exact ⟨Z', W', t', B', v', k1, k2, by rw [h3]; exact g1, g3, k3⟩
theorem LI_S {S : SS} {sv : Int32} {bb : Int64} {n u : Nat} {S' : SS} {n' : Nat} (h : LI S sv bb n u) (hJ : ∀ Z W t B, JJ S Z W n t B → t ≤ u → ∃ Z', JJ S' Z' W n' t B) : LI S' (c_sv sv) bb n' u :=
  LI_put h (fun Z W t B h1 h2 h3 => by
    obtain ⟨Z', h4⟩ := hJ Z W t B h1 h3
    exact ⟨Z', W, t, B, h4, h2, h3⟩)
theorem LI_up {S : SS} {sv : Int32} {bb : Int64} {n u u' : Nat} (h : LI S sv bb n u) (hu : u ≤ u') : LI S sv bb n u' := by
  obtain ⟨Z, W, t, B, v, h1, h2, h3, h4, h5⟩ := h
  exact ⟨Z, W, t, B, v, h1, h2, h3, h4, Nat.le_trans h5 hu⟩
/-- numbers out of a cell -/
theorem nd {z d : Nat} (hz : z < 2 ^ 31) (hd : 0 < d) (hd2 : d < 2 ^ 31) : nI z / nI d = nI (z / d) := pk_div hz hd hd2
theorem nm {z d : Nat} (hz : z < 2 ^ 31) (hd : 0 < d) (hd2 : d < 2 ^ 31) : nI z - nI z / nI d * nI d = nI (z % d) := pk_rem hz hd hd2
theorem nc {z d c : Nat} (hz : z < 2 ^ 31) (hd : 0 < d) (hd2 : d < 2 ^ 31) : nI c + (nI z - nI z / nI d * nI d) = nI (c + z % d) := by rw [nm hz hd hd2, nI_add]
theorem ndm {z d e : Nat} (hz : z < 2 ^ 31) (hd : 0 < d) (hd2 : d < 2 ^ 31) (he : 0 < e) (he2 : e < 2 ^ 31) : nI z / nI d - nI z / nI d / nI e * nI e = nI (z / d % e) := by
  rw [nd hz hd hd2, nm (Nat.lt_of_le_of_lt (Nat.div_le_self _ _) hz) he he2]
theorem ncdm {z d e c : Nat} (hz : z < 2 ^ 31) (hd : 0 < d) (hd2 : d < 2 ^ 31) (he : 0 < e) (he2 : e < 2 ^ 31) : nI c + (nI z / nI d - nI z / nI d / nI e * nI e) = nI (c + z / d % e) := by rw [ndm hz hd hd2 he he2, nI_add]
theorem set3 {S : SS} {q : Nat} (hq : q < 2 ^ 31) (v : Int32) : (setA S 3 (upd (S.2.2.1 3) (nI q).toNatClampNeg v)).2.2.1 3 q = v := by
  show upd (S.2.2.1 3) (nI q).toNatClampNeg v q = v
  rw [nI_clamp hq]
  exact pk_us

theorem isSetN {k v : Nat} (hk : k < 3) (h1 : (if k = 0 then 1 else 0) ≤ v) (h2 : v ≤ if k = 0 then 5000 else if k = 1 then 100 else 1) : c_isSet (nI k) (nI v) = true := by
  unfold c_isSet
  rw [nI_clamp (by omega)]
  have e : k = 0 ∨ k = 1 ∨ k = 2 := by omega
  rcases e with e | e | e <;> subst e
  · exact decide_eq_true ⟨by decide, by decide, nI_nlt (a := v) (b := 1) h1 (by have : v ≤ 5000 := h2; omega), nI_nlt (a := 5000) (b := v) h2 (by decide)⟩
  · exact decide_eq_true ⟨by decide, by decide, nI_nlt (a := v) (b := 0) h1 (by have : v ≤ 100 := h2; omega), nI_nlt (a := 100) (b := v) h2 (by decide)⟩
  · exact decide_eq_true ⟨by decide, by decide, nI_nlt (a := v) (b := 0) h1 (by have : v ≤ 1 := h2; omega), nI_nlt (a := 1) (b := v) h2 (by decide)⟩
theorem f_set {S : SS} {Z : Nat → Nat} (hC : zC S Z) {k : Nat} (hk : k < 3) : s_set S (nI k) = nI (Z (4 + k)) := by
  unfold s_set
  rw [if_pos ⟨nI_pos (by omega), nI_ge (b := 3) hk (by decide)⟩, nI_clamp (by omega)]
  exact zC_s hC hk
theorem f_setN {S : SS} {Z W : Nat → Nat} {n t : Nat} {B : Int} (h : JJ S Z W n t B) {k : Nat} (hk : k < 3) : ¬ s_set S (nI k) < 0 := by
  rw [f_set h.1 hk]
  obtain ⟨z7, -, z8, z0, z1, z2, z23, z3, z4, z5, z6, z10, z13, z139⟩ := h.2.2.2.1
  have e : k = 0 ∨ k = 1 ∨ k = 2 := by omega
  rcases e with e | e | e <;> subst e
  · exact nI_pos (n := Z 4) (by omega)
  · exact nI_pos (n := Z 5) (by omega)
  · exact nI_pos (n := Z 6) (by omega)
theorem lvbb {B : Int} {m z : Nat} (hm : m ≤ 100000) (hz : z ≤ 100000) : Int64.ofInt B + (nI m - nI z).toInt64 = Int64.ofInt (B + ((m : Int) - z)) := by
  rw [Int64.ofInt_add, ← Int64.ofInt_int32ToInt, pk_sub_toInt (by omega) (by omega)]
