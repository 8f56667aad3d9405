/-! HONESTY: methods that answer a double -/
def c_hon (S : SS) (n : Nat) : UInt64 := if p_all S n = 0 then FP.dconst1 else FP.ddiv (FP.i2d (p_all S n - S.1 5)) (FP.i2d (p_all S n))
def kD (l : Launch) (y : MethodName) (ws : List Cond) (rm : Room) (D : va_G) (tys : va_Ty) (av : List Value) (w : va_W) (R : UInt64) (w' : va_W) : Prop :=
  ∀ sz : Nat, Met l y ws rm (va_Pc av (kB D tys w sz)) (va_Qd (fun r (_ : Unit) => r = R) (fun _ t => va_P D vwCl w' t.heap) (va_A w sz)) 0 0 (va_A w sz)
section KDE
variable {p : Program} {l : Launch} {e : Env} {R : Room} {s : State} {m : MethodId} {args : Array Value} {below : List Frame} {meth : Method} {c : Code} {H : Heap} {locs : List Loc} {D : va_G} {cc : ByteArray} {A : Nat → Prop} {pc : Nat} {ls : Array Slot} {w1 w' : va_W} {cells slots : Nat} {Q : State → Prop} {tys : va_Ty}
theorem k_dret {v r9 : UInt64} (hx : p.tables.exec = Jvm.exec) (hb : c.code = cc) (hr : meth.sig.returnType = some .double) (hlk : meth.locks = false) (hP : va_P D vwCl w1 H) (hS : va_S A s.heap H locs) (hdg : decode cc pc = .ok (.dreturn, 1)) (hv : v = r9) (hw : va_P D vwCl w1 H → va_P D vwCl w' H) :
    W p l e R s m args below meth c H locs 0 0 (MQ below (va_Qd (fun r (_ : Unit) => r = r9) (fun _ t => va_P D vwCl w' t.heap) A) args s 0 0 A) (F0 m pc ls [.double v]) :=
  W.dret hx hb hr (fun t ht hW => ⟨⟨v, (), rfl, hv, by show va_P D vwCl w' t.heap; rw [ht]; exact hw hP⟩, hS.F ht⟩) hS.2.2 hdg hlk
abbrev kRunD (p : Program) (l : Launch) (e : Env) (R : Room) (s : State) (m : MethodId) (args : Array Value) (below : List Frame) (meth : Method) (c : Code) (H : Heap) (locs : List Loc) (cells slots : Nat) (D : va_G) (wc wc' : va_W) (r9 : UInt64) (g : JFrame) (rest As : List Value) : Prop :=
  va_Run p l e R s m args below meth c H locs cells slots 0 0 g rest (va_Qd (fun r (_ : Unit) => r = r9) (fun _ t => va_P D vwCl wc' t.heap) (va_A wc H.size) As.toArray) (va_A wc H.size)
end KDE
theorem vf_of {a : UInt64} (h : FP.Core.dIsNaN a = false) : vf_n64 a := by
  have h1 : ¬ 9218868437227405312 < a.toNat % 2 ^ 63 := fun q => by
    rw [(FP.Core.isNaN_bits a).mpr q] at h; cases h
  unfold vf_n64
  rw [UInt64.le_iff_toNat_le, UInt64.toNat_and, show (0x7fffffffffffffff : UInt64).toNat = 2 ^ 63 - 1 from rfl, Nat.and_two_pow_sub_one_eq_mod, show (0x7ff0000000000000 : UInt64).toNat = 9218868437227405312 from rfl]
  omega
theorem div_i (a b : Int32) (h : ¬ b = 0) : vf_n64 (FP.ddiv (FP.i2d a) (FP.i2d b)) := vf_of (FP.Core.ddiv_out (FP.Core.i2d_fin a).notNaN (FP.Core.i2d_fin b) (fun q => FP.Core.i2d_ne_zero h ((FP.Core.zero_bits2 _).mp q)))
theorem div_l (a b : Int64) (h : ¬ b = 0) : vf_n64 (FP.ddiv (FP.l2d a) (FP.l2d b)) := vf_of (FP.Core.ddiv_out (FP.Core.l2d_fin a).notNaN (FP.Core.l2d_fin b) (fun q => FP.Core.l2d_ne_zero h ((FP.Core.zero_bits2 _).mp q)))

set_option maxHeartbeats 1000000 in
set_option maxRecDepth 100000 in
theorem c_X4_honesty (l : Launch) (D : va_G) (o : Nat) (q1 q2 q3 q4 q5 q6 qt : Nat → Nat) (cI cJ : ClassId) (S1 S2 S3 S4 S5 S6 : SS) (T : TS) (sv : Int32) (n : Nat) (hn : S2.1 8 = nI n) (hn6 : n ≤ 6) : kD l yX4_honesty wsX4_honesty ({ frames := 1, cells := 0, slots := 0, locals := 22 } : Room) D [(cI, .int), (cJ, .long)] [.ref o] (poC o q1 q2 q3 q4 q5 q6 qt sv ++ (stW q1 cI cJ S1 ++ (stW q2 cI cJ S2 ++ (stW q3 cI cJ S3 ++ (stW q4 cI cJ S4 ++ (stW q5 cI cJ S5 ++ (stW q6 cI cJ S6 ++ (txW qt cI T)))))))) (c_hon S2 n) (poC o q1 q2 q3 q4 q5 q6 qt sv ++ (stW q1 cI cJ S1 ++ (stW q2 cI cJ S2 ++ (stW q3 cI cJ S3 ++ (stW q4 cI cJ S4 ++ (stW q5 cI cJ S5 ++ (stW q6 cI cJ S6 ++ (txW qt cI T)))))))) := by
  refine kBody.met (cc := cX4_honesty) (maxL := 2) (ret := (some .double)) (by decide) rfl (Nat.le_of_ble_eq_true rfl) ?_
  intro p9 e9 s9 m9 below meth c9 A9 ls hx hb hr hml hts hown hlk hK hP hD hA hl
  have hown : s9.vm.findClass RX4 = some m9.cls := hown
  have inX2 : ∀ w ∈ wsX20, w ∈ wsX4_honesty := fun w h => List.mem_cons_of_mem _ (List.mem_append_right _ (h))
  have inX3 : ∀ w ∈ wsX30, w ∈ wsX4_honesty := fun w h => List.mem_cons_of_mem _ (List.mem_append_left _ (List.mem_append_right _ (h)))
  have inX4 : ∀ w ∈ wsX40, w ∈ wsX4_honesty := fun w h => List.mem_cons_of_mem _ (List.mem_append_left _ (List.mem_append_left _ (List.mem_append_right _ (h))))
  have hS : va_S A9 s9.heap s9.heap [] := va_S.rf
  have hl : lv_has ls 2 [(0, .ref o)] := hl
  refine lv_aload_n hx hb dX4_honesty_0 rfl (lv_at hl 0 rfl) ?_
  refine va_get (D := D) (ci := 4) (v := .ref (q2 0)) (C := RX4) (T := TX4) (N := 8) hx hb hts inX4 hown hK hP 0 rfl rfl 0 (by decide) (hts (.fieldLink RX4 10 "PumpOaths" "now" "LPumpOaths$Station;") (List.mem_of_getElem? (i := 1) rfl)) (fun _ h9 => h9) rfl dX4_honesty_1 ?_
  refine va_get (D := D) (ci := 3) (v := .ref (q2 4)) (C := RX3) (T := TX3) (N := 15) hx hb hts inX3 hown hK hP 16 rfl rfl 13 (by decide) (hts (.fieldLink RX4 111 "PumpOaths$Station" "pumps" "LPumpOaths$Pumps;") (List.mem_of_getElem? (i := 2) rfl)) (fun _ h9 => h9) rfl dX4_honesty_4 ?_
  refine k_calli (a := (poC o q1 q2 q3 q4 q5 q6 qt sv ++ (stW q1 cI cJ S1))) (z := (stW q3 cI cJ S3 ++ (stW q4 cI cJ S4 ++ (stW q5 cI cJ S5 ++ (stW q6 cI cJ S6 ++ (txW qt cI T)))))) (wc := stW q2 cI cJ S2) (wc' := stW q2 cI cJ S2) (w' := (poC o q1 q2 q3 q4 q5 q6 qt sv ++ (stW q1 cI cJ S1 ++ (stW q2 cI cJ S2 ++ (stW q3 cI cJ S3 ++ (stW q4 cI cJ S4 ++ (stW q5 cI cJ S5 ++ (stW q6 cI cJ S6 ++ (txW qt cI T))))))))) (va_runV (As := []) (rest := []) ⟨hx, hb, hml, hown, hts⟩ (c_X2_allStarts l D q2 cI cJ S2 n hn hn6 _) (cwV 0 hts gX4_honesty_X2_allStarts rfl rfl rfl (by decide +kernel) ⟨Nat.le_of_ble_eq_true rfl, Nat.le_of_ble_eq_true rfl⟩) ⟨kB_blind, va_recv hK hP (ci := 2) (q0 := 20) rfl rfl, k_pre (a := (poC o q1 q2 q3 q4 q5 q6 qt sv ++ (stW q1 cI cJ S1))) (z := (stW q3 cI cJ S3 ++ (stW q4 cI cJ S4 ++ (stW q5 cI cJ S5 ++ (stW q6 cI cJ S6 ++ (txW qt cI T)))))) rfl hK hP hD⟩ rfl rfl hl.1 rfl (lv_room (Nat.le_of_ble_eq_true rfl)) dX4_honesty_7 ⟨Nat.zero_le _, Nat.zero_le _⟩) rfl rfl (stW_ad _ _ _ _ _) hP hD hS hA (fun H locs hP hD hS => ?_)
  refine lv_istore_n (lv' := [(1, .int (p_all S2 n)), (0, .ref o)]) hx hb dX4_honesty_10 rfl hl (by decide) rfl (fun ls hl => ?_)
  refine lv_iload_n hx hb dX4_honesty_11 rfl (lv_at hl 0 rfl) ?_
  refine lv_if_ne (tgt := 17) hx hb dX4_honesty_12 (by decide) (fun c_12_0 => ?_) (fun c_12_0 => ?_)
  · have c_12_0 : ¬ (p_all S2 n) = 0 := c_12_0
    refine lv_iload_n hx hb dX4_honesty_17 rfl (lv_at hl 0 rfl) ?_
    refine lv_aload_n hx hb dX4_honesty_18 rfl (lv_at hl 1 rfl) ?_
    refine va_get (D := D) (ci := 4) (v := .ref (q2 0)) (C := RX4) (T := TX4) (N := 8) hx hb hts inX4 hown hK hP 0 rfl rfl 0 (by decide) (hts (.fieldLink RX4 10 "PumpOaths" "now" "LPumpOaths$Station;") (List.mem_of_getElem? (i := 1) rfl)) (fun _ h9 => h9) rfl dX4_honesty_19 ?_
    refine va_get (D := D) (ci := 3) (v := .int (S2.1 5)) (C := RX3) (T := TX3) (N := 15) hx hb hts inX3 hown hK hP 16 rfl rfl 5 (by decide) (hts (.fieldLink RX4 151 "PumpOaths$Station" "brokenOaths" "I") (List.mem_of_getElem? (i := 3) rfl)) (fun _ h9 => h9) rfl dX4_honesty_22 ?_
    refine lv_isub hx hb dX4_honesty_25 ?_
    refine lv_i2d hx hb dX4_honesty_26 ?_
    refine lv_iload_n hx hb dX4_honesty_27 rfl (lv_at hl 0 rfl) ?_
    refine lv_i2d hx hb dX4_honesty_28 ?_
    refine lv_ddiv hx hb dX4_honesty_29 (div_i _ _ c_12_0) ?_
    exact k_dret hx hb hr hlk hP hS dX4_honesty_30 (by rw [c_hon, if_neg c_12_0]) (fun h => h)
  · have c_12_0 : (p_all S2 n) = 0 := c_12_0
    refine lv_dconst1 hx hb dX4_honesty_15 ?_
    exact k_dret hx hb hr hlk hP hS dX4_honesty_16 (by rw [c_hon, if_pos c_12_0]) (fun h => h)
