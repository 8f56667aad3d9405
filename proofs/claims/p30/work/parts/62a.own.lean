/-! THE LAW'S OWN METHODS: what each needs of the state, and its walk -/
theorem p_has_k {S : SS} {k n : Nat} (hk : k < n) (hn : S.1 8 = nI n) (hn6 : n ≤ 6) : p_has S (nI k) = true := by
  rw [p_has, hn, decide_eq_true_eq]
  exact ⟨nI_pos (by omega), nI_ge hk (by omega)⟩
/-- the sums that pumpsHold makes -/
def hp_B (S : SS) (k : Nat) (g : Int32 × Int32 × Int32 × Int32 × Int64) : Int32 × Int32 × Int32 × Int32 × Int64 :=
  (if S.2.2.1 4 k = 1 then g.1 + 1 else g.1 + 0, if S.2.2.1 4 k = 2 then g.2.1 + 1 else g.2.1 + 0, g.2.2.1 ||| (1 <<< (S.2.2.1 5 k &&& 31)), g.2.2.2.1 + S.2.2.1 9 k, g.2.2.2.2 + (S.2.2.1 2 k).toInt64 * (S.2.2.1 8 k).toInt64)
def hp_ok (S : SS) (n : Nat) : Prop := (∀ k, k < n → ¬ S.2.2.1 7 k < S.2.2.1 6 k ∧ ¬ S.2.2.1 7 k < S.2.2.1 9 k ∧ (p_lead S n = nI k ↔ S.2.2.1 5 k = 0)) ∧ itr (hp_B S) n (0, 0, 0, 0, 0) = (p_count S n 1, p_count S n 2, (1 <<< (nI n &&& 31)) - 1, S.1 5, S.2.2.2 0)
/-- the level by the book -/
def hh_lv (S : SS) (b : Int64) : Int64 := b + S.2.2.2 0 - S.2.2.2 1 - S.2.2.2 2 - S.2.2.2 4
def hd_ah (S : SS) : Nat → Int32
  | 0 => S.1 4
  | k + 1 => S.2.2.1 10 (3 * k + 1)
def hh_ok (S : SS) (n mm : Nat) (b : Int64) : Prop :=
  ((S.1 1).toInt64 = hh_lv S b ∧ ¬ hh_lv S b < 0 ∧ ¬ (S.1 0).toInt64 < hh_lv S b ∧ ¬ S.1 2 < 1 ∧ ¬ S.1 3 ≤ S.1 2 ∧ ¬ S.1 0 < S.1 3) ∧ (¬ S.1 4 < S.1 6 ∧ ¬ 12 < S.1 9 ∧ ¬ S.1 5 < S.1 9) ∧
  (∀ k, k < mm → ¬ S.2.2.1 10 (3 * k + 2) < 2 ∧ ¬ hd_ah S k ≤ S.2.2.1 10 (3 * k + 1) ∧ ¬ S.1 8 ≤ S.2.2.1 10 (3 * k + 0)) ∧ hp_ok S n ∧ ¬ Op.cmpValue (FP.dcmp (c_hon S n) FP.dconst0) .l < 0 ∧ ¬ 0 < Op.cmpValue (FP.dcmp (c_hon S n) FP.dconst1) .g
theorem ent_in {S : SS} {k mm : Nat} (hk : k < mm) (hm : S.1 9 = nI mm) (hm12 : mm ≤ 12) : c_in (nI k) 0 (S.1 9 - 1) = true := by
  obtain ⟨j, rfl⟩ : ∃ j, mm = j + 1 := ⟨mm - 1, by omega⟩
  rw [c_in, hm, nI_pred, decide_eq_true_eq]
  exact ⟨nI_pos (by omega), nI_nlt (by omega) (by omega)⟩
/-- the hour of the minute k from now on, and what the demand asks -/
def ps_h (S : SS) (k : Nat) : Int32 := (S.1 4 + nI k) / 60 - (S.1 4 + nI k) / 60 / 24 * 24
def ps_B (S : SS) (k : Nat) (x : Int64) : Int64 := x + (s_dem S (ps_h S k)).toInt64
def ps_ok (S : SS) (n : Nat) (w : Int32) : Prop :=
  (∀ k, k < w.toNatClampNeg → c_in (ps_h S k) 0 23 = true) ∧ (s_pass S n w.toNatClampNeg).1 4 = S.1 4 + w ∧
  (s_pass S n w.toNatClampNeg).2.2.2 2 + (s_pass S n w.toNatClampNeg).2.2.2 3 = itr (ps_B S) w.toNatClampNeg (S.2.2.2 2 + S.2.2.2 3) ∧
  ¬ w.toInt64 * ((s_pass S n w.toNatClampNeg).2.2.1 0 1).toInt64 < (s_pass S n w.toNatClampNeg).2.2.2 4 - S.2.2.2 4 ∧
  (¬ (s_pass S n w.toNatClampNeg).2.2.1 0 2 = 1 → (s_pass S n w.toNatClampNeg).1 5 - S.1 5 = 0)
theorem svc_out {S : SS} {q : Nat} (hq : q < 2 ^ 31) (h : S.2.2.1 4 q = 2) : ¬ bi (c_svc S (nI q)) = 1 := by
  simp [c_svc, nI_clamp hq, h, bi]
theorem svc_in {S : SS} {q : Nat} (hq : q < 2 ^ 31) (hp : p_has S (nI q) = true) (h : ¬ S.2.2.1 4 q = 2) : ¬ bi (c_svc S (nI q)) = 0 := by
  simp [c_svc, nI_clamp hq, h, bi, hp]
theorem svc_set {S : SS} {q : Nat} (hq : q < 2 ^ 31) (v : Int32) : (setA S 4 (upd (S.2.2.1 4) (nI q).toNatClampNeg v)).2.2.1 4 q = v := by
  show upd (S.2.2.1 4) (nI q).toNatClampNeg v q = v
  rw [nI_clamp hq]
  exact pk_us

set_option maxHeartbeats 1000000 in
set_option maxRecDepth 100000 in
theorem c_L_pumpsHold (l : Launch) (D : va_G) (o : Nat) (q1 q2 q3 q4 q5 q6 qt : Nat → Nat) (cI cJ : ClassId) (S1 S2 S3 S4 S5 S6 : SS) (T : TS) (sv : Int32) (n : Nat) (hn : S2.1 8 = nI n) (hn6 : n ≤ 6) (hF : hp_ok S2 n) : kI l yL_pumpsHold wsL_pumpsHold ({ frames := 4, cells := 0, slots := 0, locals := 88 } : Room) D [(cI, .int), (cJ, .long)] [.ref o] (poC o q1 q2 q3 q4 q5 q6 qt sv ++ (stW q1 cI cJ S1 ++ (stW q2 cI cJ S2 ++ (stW q3 cI cJ S3 ++ (stW q4 cI cJ S4 ++ (stW q5 cI cJ S5 ++ (stW q6 cI cJ S6 ++ (txW qt cI T)))))))) 1 (poC o q1 q2 q3 q4 q5 q6 qt sv ++ (stW q1 cI cJ S1 ++ (stW q2 cI cJ S2 ++ (stW q3 cI cJ S3 ++ (stW q4 cI cJ S4 ++ (stW q5 cI cJ S5 ++ (stW q6 cI cJ S6 ++ (txW qt cI T)))))))) := by
  refine kBody.met (cc := cL_pumpsHold) (maxL := 10) (ret := (some .boolean)) (by decide) rfl (Nat.le_of_ble_eq_true rfl) ?_
  intro p9 e9 s9 m9 below meth c9 A9 ls hx hb hr hml hts hown hlk hK hP hD hA hl
  have hown : s9.vm.findClass RL = some m9.cls := hown
  have inX0 : ∀ w ∈ wsX00, w ∈ wsL_pumpsHold := fun w h => List.mem_cons_of_mem _ (List.mem_append_left _ (List.mem_append_left _ (List.mem_append_right _ (h))))
  have inX2 : ∀ w ∈ wsX20, w ∈ wsL_pumpsHold := fun w h => List.mem_cons_of_mem _ (List.mem_append_left _ (List.mem_append_left _ (List.mem_append_left _ (List.mem_append_right _ (h)))))
  have inX3 : ∀ w ∈ wsX30, w ∈ wsL_pumpsHold := fun w h => List.mem_cons_of_mem _ (List.mem_append_left _ (List.mem_append_left _ (List.mem_append_left _ (List.mem_append_left _ (List.mem_append_right _ (h))))))
  have inX4 : ∀ w ∈ wsX40, w ∈ wsL_pumpsHold := fun w h => List.mem_cons_of_mem _ (List.mem_append_left _ (List.mem_append_left _ (List.mem_append_left _ (List.mem_append_left _ (List.mem_append_left _ (List.mem_append_right _ (h)))))))
  have hS : va_S A9 s9.heap s9.heap [] := va_S.rf
  have hl : lv_has ls 10 [(0, .ref o)] := hl
  refine lv_aload_n hx hb dL_pumpsHold_0 rfl (lv_at hl 0 rfl) ?_
  refine lv_iconst (v := 4) hx hb dL_pumpsHold_1 (by decide) ?_
  refine k_calli (a := []) (z := []) (wc := (poC o q1 q2 q3 q4 q5 q6 qt sv ++ (stW q1 cI cJ S1 ++ (stW q2 cI cJ S2 ++ (stW q3 cI cJ S3 ++ (stW q4 cI cJ S4 ++ (stW q5 cI cJ S5 ++ (stW q6 cI cJ S6 ++ (txW qt cI T))))))))) (wc' := (poC o q1 q2 q3 q4 q5 q6 qt sv ++ (stW q1 cI cJ S1 ++ (stW q2 cI cJ S2 ++ (stW q3 cI cJ S3 ++ (stW q4 cI cJ S4 ++ (stW q5 cI cJ S5 ++ (stW q6 cI cJ S6 ++ (txW qt cI T))))))))) (w' := (poC o q1 q2 q3 q4 q5 q6 qt sv ++ (stW q1 cI cJ S1 ++ (stW q2 cI cJ S2 ++ (stW q3 cI cJ S3 ++ (stW q4 cI cJ S4 ++ (stW q5 cI cJ S5 ++ (stW q6 cI cJ S6 ++ (txW qt cI T))))))))) (vx_runSW (As := [.ref o, .int 4]) (rest := []) ⟨hx, hb, hml, hown, hts⟩ (m_L_value l D o q1 q2 q3 q4 q5 q6 qt cI cJ S1 S2 S3 S4 S5 S6 T sv 4 n hn hn6 (by decide) _) (vx_cwSW 2 hts gL_pumpsHold_L_value rfl rfl rfl (by decide +kernel) ⟨Nat.le_of_ble_eq_true rfl, Nat.le_of_ble_eq_true rfl⟩) ⟨kB_blind, k_pre (a := []) (z := []) (k_w0 _) hK hP hD⟩ rfl rfl hl.1 rfl (lv_room (Nat.le_of_ble_eq_true rfl)) dL_pumpsHold_2 ⟨Nat.zero_le _, Nat.zero_le _⟩) (k_w0 _) (k_w0 _) rfl hP hD hS hA (fun H locs hP hD hS => ?_)
  rw [show s_num S2 n 4 = S2.1 8 from sn_4 S2 n]
  rw [show S2.1 8 = nI n from hn]
  refine lv_istore_n (lv' := [(1, .int (nI n)), (0, .ref o)]) hx hb dL_pumpsHold_5 rfl hl (by decide) rfl (fun ls hl => ?_)
  refine lv_iconst (v := 0) hx hb dL_pumpsHold_6 (by decide) ?_
  refine lv_istore_n (lv' := [(2, .int 0), (1, .int (nI n)), (0, .ref o)]) hx hb dL_pumpsHold_7 rfl hl (by decide) rfl (fun ls hl => ?_)
  refine lv_iconst (v := 0) hx hb dL_pumpsHold_8 (by decide) ?_
  refine lv_istore_n (lv' := [(3, .int 0), (2, .int 0), (1, .int (nI n)), (0, .ref o)]) hx hb dL_pumpsHold_9 rfl hl (by decide) rfl (fun ls hl => ?_)
  refine lv_iconst (v := 0) hx hb dL_pumpsHold_10 (by decide) ?_
  refine lv_istore (lv' := [(4, .int 0), (3, .int 0), (2, .int 0), (1, .int (nI n)), (0, .ref o)]) hx hb dL_pumpsHold_11 hl (by decide) rfl (fun ls hl => ?_)
  refine lv_iconst (v := 0) hx hb dL_pumpsHold_13 (by decide) ?_
  refine lv_istore (lv' := [(5, .int 0), (4, .int 0), (3, .int 0), (2, .int 0), (1, .int (nI n)), (0, .ref o)]) hx hb dL_pumpsHold_14 hl (by decide) rfl (fun ls hl => ?_)
  refine lv_lconst (v := 0) hx hb dL_pumpsHold_16 (by decide) ?_
  refine lv_lstore (lv' := [(6, .long 0), (5, .int 0), (4, .int 0), (3, .int 0), (2, .int 0), (1, .int (nI n)), (0, .ref o)]) hx hb dL_pumpsHold_17 hl (by decide) rfl (fun ls hl => ?_)
  refine lv_iconst (v := 1) hx hb dL_pumpsHold_19 (by decide) ?_
  refine lv_istore (lv' := [(8, .int 1), (6, .long 0), (5, .int 0), (4, .int 0), (3, .int 0), (2, .int 0), (1, .int (nI n)), (0, .ref o)]) hx hb dL_pumpsHold_20 hl (by decide) rfl (fun ls hl => ?_)
  refine lv_iconst (v := 0) hx hb dL_pumpsHold_22 (by decide) ?_
  refine lv_istore (lv' := [(9, .int 0), (8, .int 1), (6, .long 0), (5, .int 0), (4, .int 0), (3, .int 0), (2, .int 0), (1, .int (nI n)), (0, .ref o)]) hx hb dL_pumpsHold_23 hl (by decide) rfl (fun ls hl => ?_)
  have L_25_0 : ∀ (d : Nat) (k : Nat) (x : Int32) (y : Int32) (z : Int32) (u : Int32) (v : Int64), n < k + d → k ≤ n → ∀  (e25 : itr (hp_B S2) k (0, 0, 0, 0, 0) = (x, y, z, u, v)) (H : Heap) (locs : List Loc) (ls : Array Slot), va_P D vwCl (poC o q1 q2 q3 q4 q5 q6 qt sv ++ (stW q1 cI cJ S1 ++ (stW q2 cI cJ S2 ++ (stW q3 cI cJ S3 ++ (stW q4 cI cJ S4 ++ (stW q5 cI cJ S5 ++ (stW q6 cI cJ S6 ++ (txW qt cI T)))))))) H → va_D A9 (poC o q1 q2 q3 q4 q5 q6 qt sv ++ (stW q1 cI cJ S1 ++ (stW q2 cI cJ S2 ++ (stW q3 cI cJ S3 ++ (stW q4 cI cJ S4 ++ (stW q5 cI cJ S5 ++ (stW q6 cI cJ S6 ++ (txW qt cI T)))))))) → va_S A9 s9.heap H locs → lv_has ls 10 [(0, .ref o), (1, .int (nI n)), (2, .int x), (3, .int y), (4, .int z), (5, .int u), (6, .long v), (8, .int 1), (9, .int (nI k))] → W p9 l e9 ({ frames := 4, cells := 0, slots := 0, locals := 88 } : Room) s9 m9 (List.toArray [.ref o]) below meth c9 H locs 0 0 (MQ below (va_Qi (fun r (_ : Unit) => r = 1) (fun _ t9 => va_P D vwCl (poC o q1 q2 q3 q4 q5 q6 qt sv ++ (stW q1 cI cJ S1 ++ (stW q2 cI cJ S2 ++ (stW q3 cI cJ S3 ++ (stW q4 cI cJ S4 ++ (stW q5 cI cJ S5 ++ (stW q6 cI cJ S6 ++ (txW qt cI T)))))))) t9.heap) A9) (List.toArray [.ref o]) s9 0 0 A9) (F0 m9 25 ls []) := by
    intro d
    induction d with
    | zero =>
      intro k x y z u v hf
      intro hkn; exact absurd hf (by omega)
    | succ d ih_25 =>
      intro k x y z u v hf_25 hkn_25 e25 H locs ls hP hD hS hl
      refine lv_iload hx hb dL_pumpsHold_25 (lv_at hl 8 rfl) ?_
      refine lv_iload_n hx hb dL_pumpsHold_27 rfl (lv_at hl 1 rfl) ?_
      refine lv_icmp_ge (tgt := 206) hx hb dL_pumpsHold_28 (by decide) (fun c_28_1 => ?_) (fun c_28_1 => ?_)
      · have c_28_1 : (nI n) ≤ (nI k) := c_28_1
        have hke_25 : n = k := by
          have q9 := (nI_leI (a := n) (b := k) (by omega) (by omega)).mp c_28_1
          omega
        subst hke_25
        have hX := e25.symm.trans hF.2
        refine lv_iload hx hb dL_pumpsHold_206 (lv_at hl 7 rfl) ?_
        refine lv_if_eq (tgt := 266) hx hb dL_pumpsHold_208 (by decide) (fun h => absurd h (by decide)) (fun _ => ?_)
        refine lv_aload_n hx hb dL_pumpsHold_211 rfl (lv_at hl 0 rfl) ?_
        refine lv_iconst (v := 5) hx hb dL_pumpsHold_212 (by decide) ?_
        refine k_calli (a := []) (z := []) (wc := (poC o q1 q2 q3 q4 q5 q6 qt sv ++ (stW q1 cI cJ S1 ++ (stW q2 cI cJ S2 ++ (stW q3 cI cJ S3 ++ (stW q4 cI cJ S4 ++ (stW q5 cI cJ S5 ++ (stW q6 cI cJ S6 ++ (txW qt cI T))))))))) (wc' := (poC o q1 q2 q3 q4 q5 q6 qt sv ++ (stW q1 cI cJ S1 ++ (stW q2 cI cJ S2 ++ (stW q3 cI cJ S3 ++ (stW q4 cI cJ S4 ++ (stW q5 cI cJ S5 ++ (stW q6 cI cJ S6 ++ (txW qt cI T))))))))) (w' := (poC o q1 q2 q3 q4 q5 q6 qt sv ++ (stW q1 cI cJ S1 ++ (stW q2 cI cJ S2 ++ (stW q3 cI cJ S3 ++ (stW q4 cI cJ S4 ++ (stW q5 cI cJ S5 ++ (stW q6 cI cJ S6 ++ (txW qt cI T))))))))) (vx_runSW (As := [.ref o, .int 5]) (rest := []) ⟨hx, hb, hml, hown, hts⟩ (m_L_value l D o q1 q2 q3 q4 q5 q6 qt cI cJ S1 S2 S3 S4 S5 S6 T sv 5 n hn hn6 (by decide) _) (vx_cwSW 2 hts gL_pumpsHold_L_value rfl rfl rfl (by decide +kernel) ⟨Nat.le_of_ble_eq_true rfl, Nat.le_of_ble_eq_true rfl⟩) ⟨kB_blind, k_pre (a := []) (z := []) (k_w0 _) hK hP hD⟩ rfl rfl hl.1 rfl (lv_room (Nat.le_of_ble_eq_true rfl)) dL_pumpsHold_213 ⟨Nat.zero_le _, Nat.zero_le _⟩) (k_w0 _) (k_w0 _) rfl hP hD hS hA (fun H locs hP hD hS => ?_)
        rw [show s_num S2 n 5 = p_count S2 n 1 from sn_5 S2 n]
        refine lv_iload_n hx hb dL_pumpsHold_216 rfl (lv_at hl 2 rfl) ?_
        refine lv_icmp_ne (tgt := 266) hx hb dL_pumpsHold_217 (by decide) (fun c_217_3 => ?_) (fun c_217_3 => ?_)
        · have c_217_3 : ¬ (p_count S2 n 1) = x := c_217_3
          exact absurd (congrArg (fun q => q.1) hX).symm c_217_3 -- done
        · have c_217_3 : (p_count S2 n 1) = x := c_217_3
          refine lv_aload_n hx hb dL_pumpsHold_220 rfl (lv_at hl 0 rfl) ?_
          refine lv_bipush (v := 6) hx hb dL_pumpsHold_221 (by decide) ?_
          refine k_calli (a := []) (z := []) (wc := (poC o q1 q2 q3 q4 q5 q6 qt sv ++ (stW q1 cI cJ S1 ++ (stW q2 cI cJ S2 ++ (stW q3 cI cJ S3 ++ (stW q4 cI cJ S4 ++ (stW q5 cI cJ S5 ++ (stW q6 cI cJ S6 ++ (txW qt cI T))))))))) (wc' := (poC o q1 q2 q3 q4 q5 q6 qt sv ++ (stW q1 cI cJ S1 ++ (stW q2 cI cJ S2 ++ (stW q3 cI cJ S3 ++ (stW q4 cI cJ S4 ++ (stW q5 cI cJ S5 ++ (stW q6 cI cJ S6 ++ (txW qt cI T))))))))) (w' := (poC o q1 q2 q3 q4 q5 q6 qt sv ++ (stW q1 cI cJ S1 ++ (stW q2 cI cJ S2 ++ (stW q3 cI cJ S3 ++ (stW q4 cI cJ S4 ++ (stW q5 cI cJ S5 ++ (stW q6 cI cJ S6 ++ (txW qt cI T))))))))) (vx_runSW (As := [.ref o, .int 6]) (rest := []) ⟨hx, hb, hml, hown, hts⟩ (m_L_value l D o q1 q2 q3 q4 q5 q6 qt cI cJ S1 S2 S3 S4 S5 S6 T sv 6 n hn hn6 (by decide) _) (vx_cwSW 2 hts gL_pumpsHold_L_value rfl rfl rfl (by decide +kernel) ⟨Nat.le_of_ble_eq_true rfl, Nat.le_of_ble_eq_true rfl⟩) ⟨kB_blind, k_pre (a := []) (z := []) (k_w0 _) hK hP hD⟩ rfl rfl hl.1 rfl (lv_room (Nat.le_of_ble_eq_true rfl)) dL_pumpsHold_223 ⟨Nat.zero_le _, Nat.zero_le _⟩) (k_w0 _) (k_w0 _) rfl hP hD hS hA (fun H locs hP hD hS => ?_)
          rw [show s_num S2 n 6 = p_count S2 n 2 from sn_6 S2 n]
          refine lv_iload_n hx hb dL_pumpsHold_226 rfl (lv_at hl 3 rfl) ?_
          refine lv_icmp_ne (tgt := 266) hx hb dL_pumpsHold_227 (by decide) (fun c_227_4 => ?_) (fun c_227_4 => ?_)
          · have c_227_4 : ¬ (p_count S2 n 2) = y := c_227_4
            exact absurd (congrArg (fun q => q.2.1) hX).symm c_227_4 -- done
          · have c_227_4 : (p_count S2 n 2) = y := c_227_4
            refine lv_iload hx hb dL_pumpsHold_230 (lv_at hl 4 rfl) ?_
            refine lv_iconst (v := 1) hx hb dL_pumpsHold_232 (by decide) ?_
            refine lv_iload_n hx hb dL_pumpsHold_233 rfl (lv_at hl 1 rfl) ?_
            refine lv_ishl hx hb dL_pumpsHold_234 ?_
            refine lv_iconst (v := 1) hx hb dL_pumpsHold_235 (by decide) ?_
            refine lv_isub hx hb dL_pumpsHold_236 ?_
            refine lv_icmp_ne (tgt := 266) hx hb dL_pumpsHold_237 (by decide) (fun c_237_5 => ?_) (fun c_237_5 => ?_)
            · have c_237_5 : ¬ z = ((1 <<< ((nI n) &&& 31)) - 1) := c_237_5
              exact absurd (congrArg (fun q => q.2.2.1) hX) c_237_5 -- done
            · have c_237_5 : z = ((1 <<< ((nI n) &&& 31)) - 1) := c_237_5
              refine lv_aload_n hx hb dL_pumpsHold_240 rfl (lv_at hl 0 rfl) ?_
              refine lv_bipush (v := 9) hx hb dL_pumpsHold_241 (by decide) ?_
              refine k_calli (a := []) (z := []) (wc := (poC o q1 q2 q3 q4 q5 q6 qt sv ++ (stW q1 cI cJ S1 ++ (stW q2 cI cJ S2 ++ (stW q3 cI cJ S3 ++ (stW q4 cI cJ S4 ++ (stW q5 cI cJ S5 ++ (stW q6 cI cJ S6 ++ (txW qt cI T))))))))) (wc' := (poC o q1 q2 q3 q4 q5 q6 qt sv ++ (stW q1 cI cJ S1 ++ (stW q2 cI cJ S2 ++ (stW q3 cI cJ S3 ++ (stW q4 cI cJ S4 ++ (stW q5 cI cJ S5 ++ (stW q6 cI cJ S6 ++ (txW qt cI T))))))))) (w' := (poC o q1 q2 q3 q4 q5 q6 qt sv ++ (stW q1 cI cJ S1 ++ (stW q2 cI cJ S2 ++ (stW q3 cI cJ S3 ++ (stW q4 cI cJ S4 ++ (stW q5 cI cJ S5 ++ (stW q6 cI cJ S6 ++ (txW qt cI T))))))))) (vx_runSW (As := [.ref o, .int 9]) (rest := []) ⟨hx, hb, hml, hown, hts⟩ (m_L_value l D o q1 q2 q3 q4 q5 q6 qt cI cJ S1 S2 S3 S4 S5 S6 T sv 9 n hn hn6 (by decide) _) (vx_cwSW 2 hts gL_pumpsHold_L_value rfl rfl rfl (by decide +kernel) ⟨Nat.le_of_ble_eq_true rfl, Nat.le_of_ble_eq_true rfl⟩) ⟨kB_blind, k_pre (a := []) (z := []) (k_w0 _) hK hP hD⟩ rfl rfl hl.1 rfl (lv_room (Nat.le_of_ble_eq_true rfl)) dL_pumpsHold_243 ⟨Nat.zero_le _, Nat.zero_le _⟩) (k_w0 _) (k_w0 _) rfl hP hD hS hA (fun H locs hP hD hS => ?_)
              rw [show s_num S2 n 9 = S2.1 5 from sn_9 S2 n]
              refine lv_iload hx hb dL_pumpsHold_246 (lv_at hl 5 rfl) ?_
              refine lv_icmp_ne (tgt := 266) hx hb dL_pumpsHold_248 (by decide) (fun c_248_6 => ?_) (fun c_248_6 => ?_)
              · have c_248_6 : ¬ (S2.1 5) = u := c_248_6
                exact absurd (congrArg (fun q => q.2.2.2.1) hX).symm c_248_6 -- done
              · have c_248_6 : (S2.1 5) = u := c_248_6
                refine lv_aload_n hx hb dL_pumpsHold_251 rfl (lv_at hl 0 rfl) ?_
                refine lv_iconst (v := 0) hx hb dL_pumpsHold_252 (by decide) ?_
                refine k_calll (a := []) (z := []) (wc := (poC o q1 q2 q3 q4 q5 q6 qt sv ++ (stW q1 cI cJ S1 ++ (stW q2 cI cJ S2 ++ (stW q3 cI cJ S3 ++ (stW q4 cI cJ S4 ++ (stW q5 cI cJ S5 ++ (stW q6 cI cJ S6 ++ (txW qt cI T))))))))) (wc' := (poC o q1 q2 q3 q4 q5 q6 qt sv ++ (stW q1 cI cJ S1 ++ (stW q2 cI cJ S2 ++ (stW q3 cI cJ S3 ++ (stW q4 cI cJ S4 ++ (stW q5 cI cJ S5 ++ (stW q6 cI cJ S6 ++ (txW qt cI T))))))))) (w' := (poC o q1 q2 q3 q4 q5 q6 qt sv ++ (stW q1 cI cJ S1 ++ (stW q2 cI cJ S2 ++ (stW q3 cI cJ S3 ++ (stW q4 cI cJ S4 ++ (stW q5 cI cJ S5 ++ (stW q6 cI cJ S6 ++ (txW qt cI T))))))))) (vx_runSW (As := [.ref o, .int 0]) (rest := []) ⟨hx, hb, hml, hown, hts⟩ (m_L_water l D o q1 q2 q3 q4 q5 q6 qt cI cJ S1 S2 S3 S4 S5 S6 T sv 0 (by decide) _) (vx_cwSW 2 hts gL_pumpsHold_L_water rfl rfl rfl (by decide +kernel) ⟨Nat.le_of_ble_eq_true rfl, Nat.le_of_ble_eq_true rfl⟩) ⟨kB_blind, k_pre (a := []) (z := []) (k_w0 _) hK hP hD⟩ rfl rfl hl.1 rfl (lv_room (Nat.le_of_ble_eq_true rfl)) dL_pumpsHold_253 ⟨Nat.zero_le _, Nat.zero_le _⟩) (k_w0 _) (k_w0 _) rfl hP hD hS hA (fun H locs hP hD hS => ?_)
                rw [show s_wat S2 0 = S2.2.2.2 0 from rfl]
                refine lv_lload hx hb dL_pumpsHold_256 (lv_at hl 6 rfl) ?_
                refine W.lcmp hx hb dL_pumpsHold_258 ?_
                refine lv_if_ne (tgt := 266) hx hb dL_pumpsHold_259 (by decide) (fun c_259_7 => ?_) (fun c_259_7 => ?_)
                · have c_259_7 : ¬ (S2.2.2.2 0) = v := mt (lg_cmp_eq (S2.2.2.2 0) v).mpr c_259_7
                  exact absurd (congrArg (fun q => q.2.2.2.2) hX).symm c_259_7 -- done
                · have c_259_7 : (S2.2.2.2 0) = v := (lg_cmp_eq (S2.2.2.2 0) v).mp c_259_7
                  refine lv_iconst (v := 1) hx hb dL_pumpsHold_262 (by decide) ?_
                  refine lv_goto (tgt := 267) hx hb dL_pumpsHold_263 (by decide) ?_
                  exact k_iret hx hb hr hlk hP hS dL_pumpsHold_267 rfl (by first | rfl | (simp only [c_28_1, c_217_3, c_227_4, c_237_5, c_248_6, c_259_7]; done) | (simp [c_28_1, c_217_3, c_227_4, c_237_5, c_248_6, c_259_7]; done)) (fun h => h)
      · have c_28_1 : ¬ (nI n) ≤ (nI k) := c_28_1
        have hkl_25 : k < n := (nI_ltI (by omega) (by omega)).mp (Int32.not_le.mp c_28_1)
        have hp := p_has_k hkl_25 hn hn6
        refine lv_iload hx hb dL_pumpsHold_31 (lv_at hl 7 rfl) ?_
        refine lv_if_eq (tgt := 206) hx hb dL_pumpsHold_33 (by decide) (fun h => absurd h (by decide)) (fun _ => ?_)
        refine lv_iload_n hx hb dL_pumpsHold_36 rfl (lv_at hl 2 rfl) ?_
        refine lv_aload_n hx hb dL_pumpsHold_37 rfl (lv_at hl 0 rfl) ?_
        refine lv_iload hx hb dL_pumpsHold_38 (lv_at hl 8 rfl) ?_
        refine lv_iconst (v := 2) hx hb dL_pumpsHold_40 (by decide) ?_
        refine k_calli (a := []) (z := []) (wc := (poC o q1 q2 q3 q4 q5 q6 qt sv ++ (stW q1 cI cJ S1 ++ (stW q2 cI cJ S2 ++ (stW q3 cI cJ S3 ++ (stW q4 cI cJ S4 ++ (stW q5 cI cJ S5 ++ (stW q6 cI cJ S6 ++ (txW qt cI T))))))))) (wc' := (poC o q1 q2 q3 q4 q5 q6 qt sv ++ (stW q1 cI cJ S1 ++ (stW q2 cI cJ S2 ++ (stW q3 cI cJ S3 ++ (stW q4 cI cJ S4 ++ (stW q5 cI cJ S5 ++ (stW q6 cI cJ S6 ++ (txW qt cI T))))))))) (w' := (poC o q1 q2 q3 q4 q5 q6 qt sv ++ (stW q1 cI cJ S1 ++ (stW q2 cI cJ S2 ++ (stW q3 cI cJ S3 ++ (stW q4 cI cJ S4 ++ (stW q5 cI cJ S5 ++ (stW q6 cI cJ S6 ++ (txW qt cI T))))))))) (vx_runSW (As := [.ref o, .int (nI k), .int 2]) (rest := [.int x]) ⟨hx, hb, hml, hown, hts⟩ (m_L_pump l D o q1 q2 q3 q4 q5 q6 qt cI cJ S1 S2 S3 S4 S5 S6 T sv (nI k) 2 n hn hn6 hp (by decide) _) (vx_cwSW 3 hts gL_pumpsHold_L_pump rfl rfl rfl (by decide +kernel) ⟨Nat.le_of_ble_eq_true rfl, Nat.le_of_ble_eq_true rfl⟩) ⟨kB_blind, k_pre (a := []) (z := []) (k_w0 _) hK hP hD⟩ rfl rfl hl.1 rfl (lv_room (Nat.le_of_ble_eq_true rfl)) dL_pumpsHold_41 ⟨Nat.zero_le _, Nat.zero_le _⟩) (k_w0 _) (k_w0 _) rfl hP hD hS hA (fun H locs hP hD hS => ?_)
        rw [show p_fact S2 (nI k) 2 = S2.2.2.1 4 k from pf_2 hp (by omega)]
        refine lv_iconst (v := 1) hx hb dL_pumpsHold_44 (by decide) ?_
        refine lv_icmp_ne (tgt := 52) hx hb dL_pumpsHold_45 (by decide) (fun c_45_9 => ?_) (fun c_45_9 => ?_)
        · have c_45_9 : ¬ (S2.2.2.1 4 k) = 1 := c_45_9
          refine lv_iconst (v := 0) hx hb dL_pumpsHold_52 (by decide) ?_
          refine lv_iadd hx hb dL_pumpsHold_53 ?_
          refine lv_istore_n (lv' := [(2, .int (x + 0)), (0, .ref o), (1, .int (nI n)), (3, .int y), (4, .int z), (5, .int u), (6, .long v), (8, .int 1), (9, .int (nI k))]) hx hb dL_pumpsHold_54 rfl hl (by decide) rfl (fun ls hl => ?_)
          refine lv_iload_n hx hb dL_pumpsHold_55 rfl (lv_at hl 3 rfl) ?_
          refine lv_aload_n hx hb dL_pumpsHold_56 rfl (lv_at hl 1 rfl) ?_
          refine lv_iload hx hb dL_pumpsHold_57 (lv_at hl 8 rfl) ?_
          refine lv_iconst (v := 2) hx hb dL_pumpsHold_59 (by decide) ?_
          refine k_calli (a := []) (z := []) (wc := (poC o q1 q2 q3 q4 q5 q6 qt sv ++ (stW q1 cI cJ S1 ++ (stW q2 cI cJ S2 ++ (stW q3 cI cJ S3 ++ (stW q4 cI cJ S4 ++ (stW q5 cI cJ S5 ++ (stW q6 cI cJ S6 ++ (txW qt cI T))))))))) (wc' := (poC o q1 q2 q3 q4 q5 q6 qt sv ++ (stW q1 cI cJ S1 ++ (stW q2 cI cJ S2 ++ (stW q3 cI cJ S3 ++ (stW q4 cI cJ S4 ++ (stW q5 cI cJ S5 ++ (stW q6 cI cJ S6 ++ (txW qt cI T))))))))) (w' := (poC o q1 q2 q3 q4 q5 q6 qt sv ++ (stW q1 cI cJ S1 ++ (stW q2 cI cJ S2 ++ (stW q3 cI cJ S3 ++ (stW q4 cI cJ S4 ++ (stW q5 cI cJ S5 ++ (stW q6 cI cJ S6 ++ (txW qt cI T))))))))) (vx_runSW (As := [.ref o, .int (nI k), .int 2]) (rest := [.int y]) ⟨hx, hb, hml, hown, hts⟩ (m_L_pump l D o q1 q2 q3 q4 q5 q6 qt cI cJ S1 S2 S3 S4 S5 S6 T sv (nI k) 2 n hn hn6 hp (by decide) _) (vx_cwSW 3 hts gL_pumpsHold_L_pump rfl rfl rfl (by decide +kernel) ⟨Nat.le_of_ble_eq_true rfl, Nat.le_of_ble_eq_true rfl⟩) ⟨kB_blind, k_pre (a := []) (z := []) (k_w0 _) hK hP hD⟩ rfl rfl hl.1 rfl (lv_room (Nat.le_of_ble_eq_true rfl)) dL_pumpsHold_60 ⟨Nat.zero_le _, Nat.zero_le _⟩) (k_w0 _) (k_w0 _) rfl hP hD hS hA (fun H locs hP hD hS => ?_)
          rw [show p_fact S2 (nI k) 2 = S2.2.2.1 4 k from pf_2 hp (by omega)]
          refine lv_iconst (v := 2) hx hb dL_pumpsHold_63 (by decide) ?_
          refine lv_icmp_ne (tgt := 71) hx hb dL_pumpsHold_64 (by decide) (fun c_64_10 => ?_) (fun c_64_10 => ?_)
          · have c_64_10 : ¬ (S2.2.2.1 4 k) = 2 := c_64_10
            refine lv_iconst (v := 0) hx hb dL_pumpsHold_71 (by decide) ?_
            refine lv_iadd hx hb dL_pumpsHold_72 ?_
            refine lv_istore_n (lv' := [(3, .int (y + 0)), (2, .int (x + 0)), (0, .ref o), (1, .int (nI n)), (4, .int z), (5, .int u), (6, .long v), (8, .int 1), (9, .int (nI k))]) hx hb dL_pumpsHold_73 rfl hl (by decide) rfl (fun ls hl => ?_)
            refine lv_iload hx hb dL_pumpsHold_74 (lv_at hl 4 rfl) ?_
            refine lv_iconst (v := 1) hx hb dL_pumpsHold_76 (by decide) ?_
            refine lv_aload_n hx hb dL_pumpsHold_77 rfl (lv_at hl 2 rfl) ?_
            refine lv_iload hx hb dL_pumpsHold_78 (lv_at hl 8 rfl) ?_
            refine lv_iconst (v := 3) hx hb dL_pumpsHold_80 (by decide) ?_
            refine k_calli (a := []) (z := []) (wc := (poC o q1 q2 q3 q4 q5 q6 qt sv ++ (stW q1 cI cJ S1 ++ (stW q2 cI cJ S2 ++ (stW q3 cI cJ S3 ++ (stW q4 cI cJ S4 ++ (stW q5 cI cJ S5 ++ (stW q6 cI cJ S6 ++ (txW qt cI T))))))))) (wc' := (poC o q1 q2 q3 q4 q5 q6 qt sv ++ (stW q1 cI cJ S1 ++ (stW q2 cI cJ S2 ++ (stW q3 cI cJ S3 ++ (stW q4 cI cJ S4 ++ (stW q5 cI cJ S5 ++ (stW q6 cI cJ S6 ++ (txW qt cI T))))))))) (w' := (poC o q1 q2 q3 q4 q5 q6 qt sv ++ (stW q1 cI cJ S1 ++ (stW q2 cI cJ S2 ++ (stW q3 cI cJ S3 ++ (stW q4 cI cJ S4 ++ (stW q5 cI cJ S5 ++ (stW q6 cI cJ S6 ++ (txW qt cI T))))))))) (vx_runSW (As := [.ref o, .int (nI k), .int 3]) (rest := [.int 1, .int z]) ⟨hx, hb, hml, hown, hts⟩ (m_L_pump l D o q1 q2 q3 q4 q5 q6 qt cI cJ S1 S2 S3 S4 S5 S6 T sv (nI k) 3 n hn hn6 hp (by decide) _) (vx_cwSW 3 hts gL_pumpsHold_L_pump rfl rfl rfl (by decide +kernel) ⟨Nat.le_of_ble_eq_true rfl, Nat.le_of_ble_eq_true rfl⟩) ⟨kB_blind, k_pre (a := []) (z := []) (k_w0 _) hK hP hD⟩ rfl rfl hl.1 rfl (lv_room (Nat.le_of_ble_eq_true rfl)) dL_pumpsHold_81 ⟨Nat.zero_le _, Nat.zero_le _⟩) (k_w0 _) (k_w0 _) rfl hP hD hS hA (fun H locs hP hD hS => ?_)
            rw [show p_fact S2 (nI k) 3 = S2.2.2.1 5 k from pf_3 hp (by omega)]
            refine lv_ishl hx hb dL_pumpsHold_84 ?_
            refine lv_ior hx hb dL_pumpsHold_85 ?_
            refine lv_istore (lv' := [(4, .int (z ||| (1 <<< ((S2.2.2.1 5 k) &&& 31)))), (3, .int (y + 0)), (2, .int (x + 0)), (0, .ref o), (1, .int (nI n)), (5, .int u), (6, .long v), (8, .int 1), (9, .int (nI k))]) hx hb dL_pumpsHold_86 hl (by decide) rfl (fun ls hl => ?_)
            refine lv_iload hx hb dL_pumpsHold_88 (lv_at hl 5 rfl) ?_
            refine lv_aload_n hx hb dL_pumpsHold_90 rfl (lv_at hl 3 rfl) ?_
            refine lv_iload hx hb dL_pumpsHold_91 (lv_at hl 8 rfl) ?_
            refine lv_bipush (v := 7) hx hb dL_pumpsHold_93 (by decide) ?_
            refine k_calli (a := []) (z := []) (wc := (poC o q1 q2 q3 q4 q5 q6 qt sv ++ (stW q1 cI cJ S1 ++ (stW q2 cI cJ S2 ++ (stW q3 cI cJ S3 ++ (stW q4 cI cJ S4 ++ (stW q5 cI cJ S5 ++ (stW q6 cI cJ S6 ++ (txW qt cI T))))))))) (wc' := (poC o q1 q2 q3 q4 q5 q6 qt sv ++ (stW q1 cI cJ S1 ++ (stW q2 cI cJ S2 ++ (stW q3 cI cJ S3 ++ (stW q4 cI cJ S4 ++ (stW q5 cI cJ S5 ++ (stW q6 cI cJ S6 ++ (txW qt cI T))))))))) (w' := (poC o q1 q2 q3 q4 q5 q6 qt sv ++ (stW q1 cI cJ S1 ++ (stW q2 cI cJ S2 ++ (stW q3 cI cJ S3 ++ (stW q4 cI cJ S4 ++ (stW q5 cI cJ S5 ++ (stW q6 cI cJ S6 ++ (txW qt cI T))))))))) (vx_runSW (As := [.ref o, .int (nI k), .int 7]) (rest := [.int u]) ⟨hx, hb, hml, hown, hts⟩ (m_L_pump l D o q1 q2 q3 q4 q5 q6 qt cI cJ S1 S2 S3 S4 S5 S6 T sv (nI k) 7 n hn hn6 hp (by decide) _) (vx_cwSW 3 hts gL_pumpsHold_L_pump rfl rfl rfl (by decide +kernel) ⟨Nat.le_of_ble_eq_true rfl, Nat.le_of_ble_eq_true rfl⟩) ⟨kB_blind, k_pre (a := []) (z := []) (k_w0 _) hK hP hD⟩ rfl rfl hl.1 rfl (lv_room (Nat.le_of_ble_eq_true rfl)) dL_pumpsHold_95 ⟨Nat.zero_le _, Nat.zero_le _⟩) (k_w0 _) (k_w0 _) rfl hP hD hS hA (fun H locs hP hD hS => ?_)
            rw [show p_fact S2 (nI k) 7 = S2.2.2.1 9 k from pf_7 hp (by omega)]
            refine lv_iadd hx hb dL_pumpsHold_98 ?_
            refine lv_istore (lv' := [(5, .int (u + (S2.2.2.1 9 k))), (4, .int (z ||| (1 <<< ((S2.2.2.1 5 k) &&& 31)))), (3, .int (y + 0)), (2, .int (x + 0)), (0, .ref o), (1, .int (nI n)), (6, .long v), (8, .int 1), (9, .int (nI k))]) hx hb dL_pumpsHold_99 hl (by decide) rfl (fun ls hl => ?_)
            refine lv_lload hx hb dL_pumpsHold_101 (lv_at hl 6 rfl) ?_
            refine lv_aload_n hx hb dL_pumpsHold_103 rfl (lv_at hl 4 rfl) ?_
            refine lv_iload hx hb dL_pumpsHold_104 (lv_at hl 8 rfl) ?_
            refine lv_iconst (v := 0) hx hb dL_pumpsHold_106 (by decide) ?_
            refine k_calli (a := []) (z := []) (wc := (poC o q1 q2 q3 q4 q5 q6 qt sv ++ (stW q1 cI cJ S1 ++ (stW q2 cI cJ S2 ++ (stW q3 cI cJ S3 ++ (stW q4 cI cJ S4 ++ (stW q5 cI cJ S5 ++ (stW q6 cI cJ S6 ++ (txW qt cI T))))))))) (wc' := (poC o q1 q2 q3 q4 q5 q6 qt sv ++ (stW q1 cI cJ S1 ++ (stW q2 cI cJ S2 ++ (stW q3 cI cJ S3 ++ (stW q4 cI cJ S4 ++ (stW q5 cI cJ S5 ++ (stW q6 cI cJ S6 ++ (txW qt cI T))))))))) (w' := (poC o q1 q2 q3 q4 q5 q6 qt sv ++ (stW q1 cI cJ S1 ++ (stW q2 cI cJ S2 ++ (stW q3 cI cJ S3 ++ (stW q4 cI cJ S4 ++ (stW q5 cI cJ S5 ++ (stW q6 cI cJ S6 ++ (txW qt cI T))))))))) (vx_runSW (As := [.ref o, .int (nI k), .int 0]) (rest := [.long v]) ⟨hx, hb, hml, hown, hts⟩ (m_L_pump l D o q1 q2 q3 q4 q5 q6 qt cI cJ S1 S2 S3 S4 S5 S6 T sv (nI k) 0 n hn hn6 hp (by decide) _) (vx_cwSW 3 hts gL_pumpsHold_L_pump rfl rfl rfl (by decide +kernel) ⟨Nat.le_of_ble_eq_true rfl, Nat.le_of_ble_eq_true rfl⟩) ⟨kB_blind, k_pre (a := []) (z := []) (k_w0 _) hK hP hD⟩ rfl rfl hl.1 rfl (lv_room (Nat.le_of_ble_eq_true rfl)) dL_pumpsHold_107 ⟨Nat.zero_le _, Nat.zero_le _⟩) (k_w0 _) (k_w0 _) rfl hP hD hS hA (fun H locs hP hD hS => ?_)
            rw [show p_fact S2 (nI k) 0 = S2.2.2.1 2 k from pf_0 hp (by omega)]
            refine lv_i2l hx hb dL_pumpsHold_110 rfl ?_
            refine lv_aload_n hx hb dL_pumpsHold_111 rfl (lv_at hl 4 rfl) ?_
            refine lv_iload hx hb dL_pumpsHold_112 (lv_at hl 8 rfl) ?_
            refine lv_bipush (v := 6) hx hb dL_pumpsHold_114 (by decide) ?_
            refine k_calli (a := []) (z := []) (wc := (poC o q1 q2 q3 q4 q5 q6 qt sv ++ (stW q1 cI cJ S1 ++ (stW q2 cI cJ S2 ++ (stW q3 cI cJ S3 ++ (stW q4 cI cJ S4 ++ (stW q5 cI cJ S5 ++ (stW q6 cI cJ S6 ++ (txW qt cI T))))))))) (wc' := (poC o q1 q2 q3 q4 q5 q6 qt sv ++ (stW q1 cI cJ S1 ++ (stW q2 cI cJ S2 ++ (stW q3 cI cJ S3 ++ (stW q4 cI cJ S4 ++ (stW q5 cI cJ S5 ++ (stW q6 cI cJ S6 ++ (txW qt cI T))))))))) (w' := (poC o q1 q2 q3 q4 q5 q6 qt sv ++ (stW q1 cI cJ S1 ++ (stW q2 cI cJ S2 ++ (stW q3 cI cJ S3 ++ (stW q4 cI cJ S4 ++ (stW q5 cI cJ S5 ++ (stW q6 cI cJ S6 ++ (txW qt cI T))))))))) (vx_runSW (As := [.ref o, .int (nI k), .int 6]) (rest := [.long ((S2.2.2.1 2 k).toInt64), .long v]) ⟨hx, hb, hml, hown, hts⟩ (m_L_pump l D o q1 q2 q3 q4 q5 q6 qt cI cJ S1 S2 S3 S4 S5 S6 T sv (nI k) 6 n hn hn6 hp (by decide) _) (vx_cwSW 3 hts gL_pumpsHold_L_pump rfl rfl rfl (by decide +kernel) ⟨Nat.le_of_ble_eq_true rfl, Nat.le_of_ble_eq_true rfl⟩) ⟨kB_blind, k_pre (a := []) (z := []) (k_w0 _) hK hP hD⟩ rfl rfl hl.1 rfl (lv_room (Nat.le_of_ble_eq_true rfl)) dL_pumpsHold_116 ⟨Nat.zero_le _, Nat.zero_le _⟩) (k_w0 _) (k_w0 _) rfl hP hD hS hA (fun H locs hP hD hS => ?_)
            rw [show p_fact S2 (nI k) 6 = S2.2.2.1 8 k from pf_6 hp (by omega)]
            refine lv_i2l hx hb dL_pumpsHold_119 rfl ?_
            refine lv_lmul hx hb dL_pumpsHold_120 ?_
            refine lv_ladd hx hb dL_pumpsHold_121 ?_
            refine lv_lstore (lv' := [(6, .long (v + (((S2.2.2.1 2 k).toInt64) * ((S2.2.2.1 8 k).toInt64)))), (5, .int (u + (S2.2.2.1 9 k))), (4, .int (z ||| (1 <<< ((S2.2.2.1 5 k) &&& 31)))), (3, .int (y + 0)), (2, .int (x + 0)), (0, .ref o), (1, .int (nI n)), (8, .int 1), (9, .int (nI k))]) hx hb dL_pumpsHold_122 hl (by decide) rfl (fun ls hl => ?_)
            refine lv_aload_n hx hb dL_pumpsHold_124 rfl (lv_at hl 5 rfl) ?_
            refine lv_iload hx hb dL_pumpsHold_125 (lv_at hl 8 rfl) ?_
            refine lv_iconst (v := 4) hx hb dL_pumpsHold_127 (by decide) ?_
            refine k_calli (a := []) (z := []) (wc := (poC o q1 q2 q3 q4 q5 q6 qt sv ++ (stW q1 cI cJ S1 ++ (stW q2 cI cJ S2 ++ (stW q3 cI cJ S3 ++ (stW q4 cI cJ S4 ++ (stW q5 cI cJ S5 ++ (stW q6 cI cJ S6 ++ (txW qt cI T))))))))) (wc' := (poC o q1 q2 q3 q4 q5 q6 qt sv ++ (stW q1 cI cJ S1 ++ (stW q2 cI cJ S2 ++ (stW q3 cI cJ S3 ++ (stW q4 cI cJ S4 ++ (stW q5 cI cJ S5 ++ (stW q6 cI cJ S6 ++ (txW qt cI T))))))))) (w' := (poC o q1 q2 q3 q4 q5 q6 qt sv ++ (stW q1 cI cJ S1 ++ (stW q2 cI cJ S2 ++ (stW q3 cI cJ S3 ++ (stW q4 cI cJ S4 ++ (stW q5 cI cJ S5 ++ (stW q6 cI cJ S6 ++ (txW qt cI T))))))))) (vx_runSW (As := [.ref o, .int (nI k), .int 4]) (rest := []) ⟨hx, hb, hml, hown, hts⟩ (m_L_pump l D o q1 q2 q3 q4 q5 q6 qt cI cJ S1 S2 S3 S4 S5 S6 T sv (nI k) 4 n hn hn6 hp (by decide) _) (vx_cwSW 3 hts gL_pumpsHold_L_pump rfl rfl rfl (by decide +kernel) ⟨Nat.le_of_ble_eq_true rfl, Nat.le_of_ble_eq_true rfl⟩) ⟨kB_blind, k_pre (a := []) (z := []) (k_w0 _) hK hP hD⟩ rfl rfl hl.1 rfl (lv_room (Nat.le_of_ble_eq_true rfl)) dL_pumpsHold_128 ⟨Nat.zero_le _, Nat.zero_le _⟩) (k_w0 _) (k_w0 _) rfl hP hD hS hA (fun H locs hP hD hS => ?_)
            rw [show p_fact S2 (nI k) 4 = S2.2.2.1 6 k from pf_4 hp (by omega)]
            refine lv_aload_n hx hb dL_pumpsHold_131 rfl (lv_at hl 5 rfl) ?_
            refine lv_iload hx hb dL_pumpsHold_132 (lv_at hl 8 rfl) ?_
            refine lv_iconst (v := 5) hx hb dL_pumpsHold_134 (by decide) ?_
            refine k_calli (a := []) (z := []) (wc := (poC o q1 q2 q3 q4 q5 q6 qt sv ++ (stW q1 cI cJ S1 ++ (stW q2 cI cJ S2 ++ (stW q3 cI cJ S3 ++ (stW q4 cI cJ S4 ++ (stW q5 cI cJ S5 ++ (stW q6 cI cJ S6 ++ (txW qt cI T))))))))) (wc' := (poC o q1 q2 q3 q4 q5 q6 qt sv ++ (stW q1 cI cJ S1 ++ (stW q2 cI cJ S2 ++ (stW q3 cI cJ S3 ++ (stW q4 cI cJ S4 ++ (stW q5 cI cJ S5 ++ (stW q6 cI cJ S6 ++ (txW qt cI T))))))))) (w' := (poC o q1 q2 q3 q4 q5 q6 qt sv ++ (stW q1 cI cJ S1 ++ (stW q2 cI cJ S2 ++ (stW q3 cI cJ S3 ++ (stW q4 cI cJ S4 ++ (stW q5 cI cJ S5 ++ (stW q6 cI cJ S6 ++ (txW qt cI T))))))))) (vx_runSW (As := [.ref o, .int (nI k), .int 5]) (rest := [.int (S2.2.2.1 6 k)]) ⟨hx, hb, hml, hown, hts⟩ (m_L_pump l D o q1 q2 q3 q4 q5 q6 qt cI cJ S1 S2 S3 S4 S5 S6 T sv (nI k) 5 n hn hn6 hp (by decide) _) (vx_cwSW 3 hts gL_pumpsHold_L_pump rfl rfl rfl (by decide +kernel) ⟨Nat.le_of_ble_eq_true rfl, Nat.le_of_ble_eq_true rfl⟩) ⟨kB_blind, k_pre (a := []) (z := []) (k_w0 _) hK hP hD⟩ rfl rfl hl.1 rfl (lv_room (Nat.le_of_ble_eq_true rfl)) dL_pumpsHold_135 ⟨Nat.zero_le _, Nat.zero_le _⟩) (k_w0 _) (k_w0 _) rfl hP hD hS hA (fun H locs hP hD hS => ?_)
            rw [show p_fact S2 (nI k) 5 = S2.2.2.1 7 k from pf_5 hp (by omega)]
            refine lv_icmp_gt (tgt := 197) hx hb dL_pumpsHold_138 (by decide) (fun c_138_11 => ?_) (fun c_138_11 => ?_)
            · have c_138_11 : (S2.2.2.1 7 k) < (S2.2.2.1 6 k) := c_138_11
              exact absurd c_138_11 ((hF.1 k hkl_25).1) -- done
            · have c_138_11 : ¬ (S2.2.2.1 7 k) < (S2.2.2.1 6 k) := c_138_11
              refine lv_aload_n hx hb dL_pumpsHold_141 rfl (lv_at hl 5 rfl) ?_
              refine lv_iload hx hb dL_pumpsHold_142 (lv_at hl 8 rfl) ?_
              refine lv_bipush (v := 7) hx hb dL_pumpsHold_144 (by decide) ?_
              refine k_calli (a := []) (z := []) (wc := (poC o q1 q2 q3 q4 q5 q6 qt sv ++ (stW q1 cI cJ S1 ++ (stW q2 cI cJ S2 ++ (stW q3 cI cJ S3 ++ (stW q4 cI cJ S4 ++ (stW q5 cI cJ S5 ++ (stW q6 cI cJ S6 ++ (txW qt cI T))))))))) (wc' := (poC o q1 q2 q3 q4 q5 q6 qt sv ++ (stW q1 cI cJ S1 ++ (stW q2 cI cJ S2 ++ (stW q3 cI cJ S3 ++ (stW q4 cI cJ S4 ++ (stW q5 cI cJ S5 ++ (stW q6 cI cJ S6 ++ (txW qt cI T))))))))) (w' := (poC o q1 q2 q3 q4 q5 q6 qt sv ++ (stW q1 cI cJ S1 ++ (stW q2 cI cJ S2 ++ (stW q3 cI cJ S3 ++ (stW q4 cI cJ S4 ++ (stW q5 cI cJ S5 ++ (stW q6 cI cJ S6 ++ (txW qt cI T))))))))) (vx_runSW (As := [.ref o, .int (nI k), .int 7]) (rest := []) ⟨hx, hb, hml, hown, hts⟩ (m_L_pump l D o q1 q2 q3 q4 q5 q6 qt cI cJ S1 S2 S3 S4 S5 S6 T sv (nI k) 7 n hn hn6 hp (by decide) _) (vx_cwSW 3 hts gL_pumpsHold_L_pump rfl rfl rfl (by decide +kernel) ⟨Nat.le_of_ble_eq_true rfl, Nat.le_of_ble_eq_true rfl⟩) ⟨kB_blind, k_pre (a := []) (z := []) (k_w0 _) hK hP hD⟩ rfl rfl hl.1 rfl (lv_room (Nat.le_of_ble_eq_true rfl)) dL_pumpsHold_146 ⟨Nat.zero_le _, Nat.zero_le _⟩) (k_w0 _) (k_w0 _) rfl hP hD hS hA (fun H locs hP hD hS => ?_)
              rw [show p_fact S2 (nI k) 7 = S2.2.2.1 9 k from pf_7 hp (by omega)]
              refine lv_aload_n hx hb dL_pumpsHold_149 rfl (lv_at hl 5 rfl) ?_
              refine lv_iload hx hb dL_pumpsHold_150 (lv_at hl 8 rfl) ?_
              refine lv_iconst (v := 5) hx hb dL_pumpsHold_152 (by decide) ?_
              refine k_calli (a := []) (z := []) (wc := (poC o q1 q2 q3 q4 q5 q6 qt sv ++ (stW q1 cI cJ S1 ++ (stW q2 cI cJ S2 ++ (stW q3 cI cJ S3 ++ (stW q4 cI cJ S4 ++ (stW q5 cI cJ S5 ++ (stW q6 cI cJ S6 ++ (txW qt cI T))))))))) (wc' := (poC o q1 q2 q3 q4 q5 q6 qt sv ++ (stW q1 cI cJ S1 ++ (stW q2 cI cJ S2 ++ (stW q3 cI cJ S3 ++ (stW q4 cI cJ S4 ++ (stW q5 cI cJ S5 ++ (stW q6 cI cJ S6 ++ (txW qt cI T))))))))) (w' := (poC o q1 q2 q3 q4 q5 q6 qt sv ++ (stW q1 cI cJ S1 ++ (stW q2 cI cJ S2 ++ (stW q3 cI cJ S3 ++ (stW q4 cI cJ S4 ++ (stW q5 cI cJ S5 ++ (stW q6 cI cJ S6 ++ (txW qt cI T))))))))) (vx_runSW (As := [.ref o, .int (nI k), .int 5]) (rest := [.int (S2.2.2.1 9 k)]) ⟨hx, hb, hml, hown, hts⟩ (m_L_pump l D o q1 q2 q3 q4 q5 q6 qt cI cJ S1 S2 S3 S4 S5 S6 T sv (nI k) 5 n hn hn6 hp (by decide) _) (vx_cwSW 3 hts gL_pumpsHold_L_pump rfl rfl rfl (by decide +kernel) ⟨Nat.le_of_ble_eq_true rfl, Nat.le_of_ble_eq_true rfl⟩) ⟨kB_blind, k_pre (a := []) (z := []) (k_w0 _) hK hP hD⟩ rfl rfl hl.1 rfl (lv_room (Nat.le_of_ble_eq_true rfl)) dL_pumpsHold_153 ⟨Nat.zero_le _, Nat.zero_le _⟩) (k_w0 _) (k_w0 _) rfl hP hD hS hA (fun H locs hP hD hS => ?_)
              rw [show p_fact S2 (nI k) 5 = S2.2.2.1 7 k from pf_5 hp (by omega)]
              refine lv_icmp_gt (tgt := 197) hx hb dL_pumpsHold_156 (by decide) (fun c_156_12 => ?_) (fun c_156_12 => ?_)
              · have c_156_12 : (S2.2.2.1 7 k) < (S2.2.2.1 9 k) := c_156_12
                exact absurd c_156_12 ((hF.1 k hkl_25).2.1) -- done
              · have c_156_12 : ¬ (S2.2.2.1 7 k) < (S2.2.2.1 9 k) := c_156_12
                refine lv_aload_n hx hb dL_pumpsHold_159 rfl (lv_at hl 5 rfl) ?_
                refine lv_bipush (v := 11) hx hb dL_pumpsHold_160 (by decide) ?_
                refine k_calli (a := []) (z := []) (wc := (poC o q1 q2 q3 q4 q5 q6 qt sv ++ (stW q1 cI cJ S1 ++ (stW q2 cI cJ S2 ++ (stW q3 cI cJ S3 ++ (stW q4 cI cJ S4 ++ (stW q5 cI cJ S5 ++ (stW q6 cI cJ S6 ++ (txW qt cI T))))))))) (wc' := (poC o q1 q2 q3 q4 q5 q6 qt sv ++ (stW q1 cI cJ S1 ++ (stW q2 cI cJ S2 ++ (stW q3 cI cJ S3 ++ (stW q4 cI cJ S4 ++ (stW q5 cI cJ S5 ++ (stW q6 cI cJ S6 ++ (txW qt cI T))))))))) (w' := (poC o q1 q2 q3 q4 q5 q6 qt sv ++ (stW q1 cI cJ S1 ++ (stW q2 cI cJ S2 ++ (stW q3 cI cJ S3 ++ (stW q4 cI cJ S4 ++ (stW q5 cI cJ S5 ++ (stW q6 cI cJ S6 ++ (txW qt cI T))))))))) (vx_runSW (As := [.ref o, .int 11]) (rest := []) ⟨hx, hb, hml, hown, hts⟩ (m_L_value l D o q1 q2 q3 q4 q5 q6 qt cI cJ S1 S2 S3 S4 S5 S6 T sv 11 n hn hn6 (by decide) _) (vx_cwSW 2 hts gL_pumpsHold_L_value rfl rfl rfl (by decide +kernel) ⟨Nat.le_of_ble_eq_true rfl, Nat.le_of_ble_eq_true rfl⟩) ⟨kB_blind, k_pre (a := []) (z := []) (k_w0 _) hK hP hD⟩ rfl rfl hl.1 rfl (lv_room (Nat.le_of_ble_eq_true rfl)) dL_pumpsHold_162 ⟨Nat.zero_le _, Nat.zero_le _⟩) (k_w0 _) (k_w0 _) rfl hP hD hS hA (fun H locs hP hD hS => ?_)
                rw [show s_num S2 n 11 = p_lead S2 n from sn_11 S2 n]
                refine lv_iload hx hb dL_pumpsHold_165 (lv_at hl 8 rfl) ?_
                refine lv_icmp_ne (tgt := 174) hx hb dL_pumpsHold_167 (by decide) (fun c_167_13 => ?_) (fun c_167_13 => ?_)
                · have c_167_13 : ¬ (p_lead S2 n) = (nI k) := c_167_13
                  have hq0 : ¬ S2.2.2.1 5 k = 0 := fun z9 => c_167_13 ((hF.1 k hkl_25).2.2.mpr z9)
                  refine lv_iconst (v := 0) hx hb dL_pumpsHold_174 (by decide) ?_
                  refine lv_aload_n hx hb dL_pumpsHold_175 rfl (lv_at hl 5 rfl) ?_
                  refine lv_iload hx hb dL_pumpsHold_176 (lv_at hl 8 rfl) ?_
                  refine lv_iconst (v := 3) hx hb dL_pumpsHold_178 (by decide) ?_
                  refine k_calli (a := []) (z := []) (wc := (poC o q1 q2 q3 q4 q5 q6 qt sv ++ (stW q1 cI cJ S1 ++ (stW q2 cI cJ S2 ++ (stW q3 cI cJ S3 ++ (stW q4 cI cJ S4 ++ (stW q5 cI cJ S5 ++ (stW q6 cI cJ S6 ++ (txW qt cI T))))))))) (wc' := (poC o q1 q2 q3 q4 q5 q6 qt sv ++ (stW q1 cI cJ S1 ++ (stW q2 cI cJ S2 ++ (stW q3 cI cJ S3 ++ (stW q4 cI cJ S4 ++ (stW q5 cI cJ S5 ++ (stW q6 cI cJ S6 ++ (txW qt cI T))))))))) (w' := (poC o q1 q2 q3 q4 q5 q6 qt sv ++ (stW q1 cI cJ S1 ++ (stW q2 cI cJ S2 ++ (stW q3 cI cJ S3 ++ (stW q4 cI cJ S4 ++ (stW q5 cI cJ S5 ++ (stW q6 cI cJ S6 ++ (txW qt cI T))))))))) (vx_runSW (As := [.ref o, .int (nI k), .int 3]) (rest := [.int 0]) ⟨hx, hb, hml, hown, hts⟩ (m_L_pump l D o q1 q2 q3 q4 q5 q6 qt cI cJ S1 S2 S3 S4 S5 S6 T sv (nI k) 3 n hn hn6 hp (by decide) _) (vx_cwSW 3 hts gL_pumpsHold_L_pump rfl rfl rfl (by decide +kernel) ⟨Nat.le_of_ble_eq_true rfl, Nat.le_of_ble_eq_true rfl⟩) ⟨kB_blind, k_pre (a := []) (z := []) (k_w0 _) hK hP hD⟩ rfl rfl hl.1 rfl (lv_room (Nat.le_of_ble_eq_true rfl)) dL_pumpsHold_179 ⟨Nat.zero_le _, Nat.zero_le _⟩) (k_w0 _) (k_w0 _) rfl hP hD hS hA (fun H locs hP hD hS => ?_)
                  rw [show p_fact S2 (nI k) 3 = S2.2.2.1 5 k from pf_3 hp (by omega)]
                  refine lv_if_ne (tgt := 189) hx hb dL_pumpsHold_182 (by decide) (fun c_182_14 => ?_) (fun c_182_14 => ?_)
                  · have c_182_14 : ¬ (S2.2.2.1 5 k) = 0 := c_182_14
                    refine lv_iconst (v := 0) hx hb dL_pumpsHold_189 (by decide) ?_
                    refine lv_icmp_ne (tgt := 197) hx hb dL_pumpsHold_190 (by decide) (fun h => absurd h (by decide)) (fun _ => ?_)
                    refine lv_iconst (v := 1) hx hb dL_pumpsHold_193 (by decide) ?_
                    refine lv_goto (tgt := 198) hx hb dL_pumpsHold_194 (by decide) ?_
                    refine lv_istore (lv' := [(8, .int 1), (6, .long (v + (((S2.2.2.1 2 k).toInt64) * ((S2.2.2.1 8 k).toInt64)))), (5, .int (u + (S2.2.2.1 9 k))), (4, .int (z ||| (1 <<< ((S2.2.2.1 5 k) &&& 31)))), (3, .int (y + 0)), (2, .int (x + 0)), (0, .ref o), (1, .int (nI n)), (9, .int (nI k))]) hx hb dL_pumpsHold_198 hl (by decide) rfl (fun ls hl => ?_)
                    refine lv_iinc (v := (nI k) + 1) (lv' := [(9, .int ((nI k) + 1)), (8, .int 1), (6, .long (v + (((S2.2.2.1 2 k).toInt64) * ((S2.2.2.1 8 k).toInt64)))), (5, .int (u + (S2.2.2.1 9 k))), (4, .int (z ||| (1 <<< ((S2.2.2.1 5 k) &&& 31)))), (3, .int (y + 0)), (2, .int (x + 0)), (0, .ref o), (1, .int (nI n))]) hx hb dL_pumpsHold_200 hl (k := 8) rfl rfl (by decide) rfl (fun ls hl => ?_)
                    refine lv_goto (tgt := 25) hx hb dL_pumpsHold_203 (by decide) ?_
                    rw [show ((nI k) + 1) = (nI (k + 1)) from nI_1 _] at hl
                    exact ih_25 (k + 1) (x + 0) (y + 0) (z ||| (1 <<< ((S2.2.2.1 5 k) &&& 31))) (u + (S2.2.2.1 9 k)) (v + (((S2.2.2.1 2 k).toInt64) * ((S2.2.2.1 8 k).toInt64))) (by omega) (by omega) (by rw [itr_s, e25]; simp only [hp_B]; (repeat' split) <;> first | rfl | contradiction) _ _ _ hP hD hS (lv_sub hl [7, 8, 6, 5, 4, 3, 2, 1, 0] rfl)
                  · have c_182_14 : (S2.2.2.1 5 k) = 0 := c_182_14
                    exact absurd c_182_14 hq0
                · have c_167_13 : (p_lead S2 n) = (nI k) := c_167_13
                  have hq0 : S2.2.2.1 5 k = 0 := (hF.1 k hkl_25).2.2.mp c_167_13
                  refine lv_iconst (v := 1) hx hb dL_pumpsHold_170 (by decide) ?_
                  refine lv_goto (tgt := 175) hx hb dL_pumpsHold_171 (by decide) ?_
                  refine lv_aload_n hx hb dL_pumpsHold_175 rfl (lv_at hl 5 rfl) ?_
                  refine lv_iload hx hb dL_pumpsHold_176 (lv_at hl 8 rfl) ?_
                  refine lv_iconst (v := 3) hx hb dL_pumpsHold_178 (by decide) ?_
                  refine k_calli (a := []) (z := []) (wc := (poC o q1 q2 q3 q4 q5 q6 qt sv ++ (stW q1 cI cJ S1 ++ (stW q2 cI cJ S2 ++ (stW q3 cI cJ S3 ++ (stW q4 cI cJ S4 ++ (stW q5 cI cJ S5 ++ (stW q6 cI cJ S6 ++ (txW qt cI T))))))))) (wc' := (poC o q1 q2 q3 q4 q5 q6 qt sv ++ (stW q1 cI cJ S1 ++ (stW q2 cI cJ S2 ++ (stW q3 cI cJ S3 ++ (stW q4 cI cJ S4 ++ (stW q5 cI cJ S5 ++ (stW q6 cI cJ S6 ++ (txW qt cI T))))))))) (w' := (poC o q1 q2 q3 q4 q5 q6 qt sv ++ (stW q1 cI cJ S1 ++ (stW q2 cI cJ S2 ++ (stW q3 cI cJ S3 ++ (stW q4 cI cJ S4 ++ (stW q5 cI cJ S5 ++ (stW q6 cI cJ S6 ++ (txW qt cI T))))))))) (vx_runSW (As := [.ref o, .int (nI k), .int 3]) (rest := [.int 1]) ⟨hx, hb, hml, hown, hts⟩ (m_L_pump l D o q1 q2 q3 q4 q5 q6 qt cI cJ S1 S2 S3 S4 S5 S6 T sv (nI k) 3 n hn hn6 hp (by decide) _) (vx_cwSW 3 hts gL_pumpsHold_L_pump rfl rfl rfl (by decide +kernel) ⟨Nat.le_of_ble_eq_true rfl, Nat.le_of_ble_eq_true rfl⟩) ⟨kB_blind, k_pre (a := []) (z := []) (k_w0 _) hK hP hD⟩ rfl rfl hl.1 rfl (lv_room (Nat.le_of_ble_eq_true rfl)) dL_pumpsHold_179 ⟨Nat.zero_le _, Nat.zero_le _⟩) (k_w0 _) (k_w0 _) rfl hP hD hS hA (fun H locs hP hD hS => ?_)
                  rw [show p_fact S2 (nI k) 3 = S2.2.2.1 5 k from pf_3 hp (by omega)]
                  refine lv_if_ne (tgt := 189) hx hb dL_pumpsHold_182 (by decide) (fun c_182_16 => ?_) (fun c_182_16 => ?_)
                  · have c_182_16 : ¬ (S2.2.2.1 5 k) = 0 := c_182_16
                    exact absurd hq0 c_182_16
                  · have c_182_16 : (S2.2.2.1 5 k) = 0 := c_182_16
                    refine lv_iconst (v := 1) hx hb dL_pumpsHold_185 (by decide) ?_
                    refine lv_goto (tgt := 190) hx hb dL_pumpsHold_186 (by decide) ?_
                    refine lv_icmp_ne (tgt := 197) hx hb dL_pumpsHold_190 (by decide) (fun h => absurd h (by decide)) (fun _ => ?_)
                    refine lv_iconst (v := 1) hx hb dL_pumpsHold_193 (by decide) ?_
                    refine lv_goto (tgt := 198) hx hb dL_pumpsHold_194 (by decide) ?_
                    refine lv_istore (lv' := [(8, .int 1), (6, .long (v + (((S2.2.2.1 2 k).toInt64) * ((S2.2.2.1 8 k).toInt64)))), (5, .int (u + (S2.2.2.1 9 k))), (4, .int (z ||| (1 <<< ((S2.2.2.1 5 k) &&& 31)))), (3, .int (y + 0)), (2, .int (x + 0)), (0, .ref o), (1, .int (nI n)), (9, .int (nI k))]) hx hb dL_pumpsHold_198 hl (by decide) rfl (fun ls hl => ?_)
                    refine lv_iinc (v := (nI k) + 1) (lv' := [(9, .int ((nI k) + 1)), (8, .int 1), (6, .long (v + (((S2.2.2.1 2 k).toInt64) * ((S2.2.2.1 8 k).toInt64)))), (5, .int (u + (S2.2.2.1 9 k))), (4, .int (z ||| (1 <<< ((S2.2.2.1 5 k) &&& 31)))), (3, .int (y + 0)), (2, .int (x + 0)), (0, .ref o), (1, .int (nI n))]) hx hb dL_pumpsHold_200 hl (k := 8) rfl rfl (by decide) rfl (fun ls hl => ?_)
                    refine lv_goto (tgt := 25) hx hb dL_pumpsHold_203 (by decide) ?_
                    rw [show ((nI k) + 1) = (nI (k + 1)) from nI_1 _] at hl
                    exact ih_25 (k + 1) (x + 0) (y + 0) (z ||| (1 <<< ((S2.2.2.1 5 k) &&& 31))) (u + (S2.2.2.1 9 k)) (v + (((S2.2.2.1 2 k).toInt64) * ((S2.2.2.1 8 k).toInt64))) (by omega) (by omega) (by rw [itr_s, e25]; simp only [hp_B]; (repeat' split) <;> first | rfl | contradiction) _ _ _ hP hD hS (lv_sub hl [7, 8, 6, 5, 4, 3, 2, 1, 0] rfl)
          · have c_64_10 : (S2.2.2.1 4 k) = 2 := c_64_10
            refine lv_iconst (v := 1) hx hb dL_pumpsHold_67 (by decide) ?_
            refine lv_goto (tgt := 72) hx hb dL_pumpsHold_68 (by decide) ?_
            refine lv_iadd hx hb dL_pumpsHold_72 ?_
            refine lv_istore_n (lv' := [(3, .int (y + 1)), (2, .int (x + 0)), (0, .ref o), (1, .int (nI n)), (4, .int z), (5, .int u), (6, .long v), (8, .int 1), (9, .int (nI k))]) hx hb dL_pumpsHold_73 rfl hl (by decide) rfl (fun ls hl => ?_)
            refine lv_iload hx hb dL_pumpsHold_74 (lv_at hl 4 rfl) ?_
            refine lv_iconst (v := 1) hx hb dL_pumpsHold_76 (by decide) ?_
            refine lv_aload_n hx hb dL_pumpsHold_77 rfl (lv_at hl 2 rfl) ?_
            refine lv_iload hx hb dL_pumpsHold_78 (lv_at hl 8 rfl) ?_
            refine lv_iconst (v := 3) hx hb dL_pumpsHold_80 (by decide) ?_
            refine k_calli (a := []) (z := []) (wc := (poC o q1 q2 q3 q4 q5 q6 qt sv ++ (stW q1 cI cJ S1 ++ (stW q2 cI cJ S2 ++ (stW q3 cI cJ S3 ++ (stW q4 cI cJ S4 ++ (stW q5 cI cJ S5 ++ (stW q6 cI cJ S6 ++ (txW qt cI T))))))))) (wc' := (poC o q1 q2 q3 q4 q5 q6 qt sv ++ (stW q1 cI cJ S1 ++ (stW q2 cI cJ S2 ++ (stW q3 cI cJ S3 ++ (stW q4 cI cJ S4 ++ (stW q5 cI cJ S5 ++ (stW q6 cI cJ S6 ++ (txW qt cI T))))))))) (w' := (poC o q1 q2 q3 q4 q5 q6 qt sv ++ (stW q1 cI cJ S1 ++ (stW q2 cI cJ S2 ++ (stW q3 cI cJ S3 ++ (stW q4 cI cJ S4 ++ (stW q5 cI cJ S5 ++ (stW q6 cI cJ S6 ++ (txW qt cI T))))))))) (vx_runSW (As := [.ref o, .int (nI k), .int 3]) (rest := [.int 1, .int z]) ⟨hx, hb, hml, hown, hts⟩ (m_L_pump l D o q1 q2 q3 q4 q5 q6 qt cI cJ S1 S2 S3 S4 S5 S6 T sv (nI k) 3 n hn hn6 hp (by decide) _) (vx_cwSW 3 hts gL_pumpsHold_L_pump rfl rfl rfl (by decide +kernel) ⟨Nat.le_of_ble_eq_true rfl, Nat.le_of_ble_eq_true rfl⟩) ⟨kB_blind, k_pre (a := []) (z := []) (k_w0 _) hK hP hD⟩ rfl rfl hl.1 rfl (lv_room (Nat.le_of_ble_eq_true rfl)) dL_pumpsHold_81 ⟨Nat.zero_le _, Nat.zero_le _⟩) (k_w0 _) (k_w0 _) rfl hP hD hS hA (fun H locs hP hD hS => ?_)
            rw [show p_fact S2 (nI k) 3 = S2.2.2.1 5 k from pf_3 hp (by omega)]
            refine lv_ishl hx hb dL_pumpsHold_84 ?_
            refine lv_ior hx hb dL_pumpsHold_85 ?_
            refine lv_istore (lv' := [(4, .int (z ||| (1 <<< ((S2.2.2.1 5 k) &&& 31)))), (3, .int (y + 1)), (2, .int (x + 0)), (0, .ref o), (1, .int (nI n)), (5, .int u), (6, .long v), (8, .int 1), (9, .int (nI k))]) hx hb dL_pumpsHold_86 hl (by decide) rfl (fun ls hl => ?_)
            refine lv_iload hx hb dL_pumpsHold_88 (lv_at hl 5 rfl) ?_
            refine lv_aload_n hx hb dL_pumpsHold_90 rfl (lv_at hl 3 rfl) ?_
            refine lv_iload hx hb dL_pumpsHold_91 (lv_at hl 8 rfl) ?_
            refine lv_bipush (v := 7) hx hb dL_pumpsHold_93 (by decide) ?_
            refine k_calli (a := []) (z := []) (wc := (poC o q1 q2 q3 q4 q5 q6 qt sv ++ (stW q1 cI cJ S1 ++ (stW q2 cI cJ S2 ++ (stW q3 cI cJ S3 ++ (stW q4 cI cJ S4 ++ (stW q5 cI cJ S5 ++ (stW q6 cI cJ S6 ++ (txW qt cI T))))))))) (wc' := (poC o q1 q2 q3 q4 q5 q6 qt sv ++ (stW q1 cI cJ S1 ++ (stW q2 cI cJ S2 ++ (stW q3 cI cJ S3 ++ (stW q4 cI cJ S4 ++ (stW q5 cI cJ S5 ++ (stW q6 cI cJ S6 ++ (txW qt cI T))))))))) (w' := (poC o q1 q2 q3 q4 q5 q6 qt sv ++ (stW q1 cI cJ S1 ++ (stW q2 cI cJ S2 ++ (stW q3 cI cJ S3 ++ (stW q4 cI cJ S4 ++ (stW q5 cI cJ S5 ++ (stW q6 cI cJ S6 ++ (txW qt cI T))))))))) (vx_runSW (As := [.ref o, .int (nI k), .int 7]) (rest := [.int u]) ⟨hx, hb, hml, hown, hts⟩ (m_L_pump l D o q1 q2 q3 q4 q5 q6 qt cI cJ S1 S2 S3 S4 S5 S6 T sv (nI k) 7 n hn hn6 hp (by decide) _) (vx_cwSW 3 hts gL_pumpsHold_L_pump rfl rfl rfl (by decide +kernel) ⟨Nat.le_of_ble_eq_true rfl, Nat.le_of_ble_eq_true rfl⟩) ⟨kB_blind, k_pre (a := []) (z := []) (k_w0 _) hK hP hD⟩ rfl rfl hl.1 rfl (lv_room (Nat.le_of_ble_eq_true rfl)) dL_pumpsHold_95 ⟨Nat.zero_le _, Nat.zero_le _⟩) (k_w0 _) (k_w0 _) rfl hP hD hS hA (fun H locs hP hD hS => ?_)
            rw [show p_fact S2 (nI k) 7 = S2.2.2.1 9 k from pf_7 hp (by omega)]
            refine lv_iadd hx hb dL_pumpsHold_98 ?_
            refine lv_istore (lv' := [(5, .int (u + (S2.2.2.1 9 k))), (4, .int (z ||| (1 <<< ((S2.2.2.1 5 k) &&& 31)))), (3, .int (y + 1)), (2, .int (x + 0)), (0, .ref o), (1, .int (nI n)), (6, .long v), (8, .int 1), (9, .int (nI k))]) hx hb dL_pumpsHold_99 hl (by decide) rfl (fun ls hl => ?_)
            refine lv_lload hx hb dL_pumpsHold_101 (lv_at hl 6 rfl) ?_
            refine lv_aload_n hx hb dL_pumpsHold_103 rfl (lv_at hl 4 rfl) ?_
            refine lv_iload hx hb dL_pumpsHold_104 (lv_at hl 8 rfl) ?_
            refine lv_iconst (v := 0) hx hb dL_pumpsHold_106 (by decide) ?_
            refine k_calli (a := []) (z := []) (wc := (poC o q1 q2 q3 q4 q5 q6 qt sv ++ (stW q1 cI cJ S1 ++ (stW q2 cI cJ S2 ++ (stW q3 cI cJ S3 ++ (stW q4 cI cJ S4 ++ (stW q5 cI cJ S5 ++ (stW q6 cI cJ S6 ++ (txW qt cI T))))))))) (wc' := (poC o q1 q2 q3 q4 q5 q6 qt sv ++ (stW q1 cI cJ S1 ++ (stW q2 cI cJ S2 ++ (stW q3 cI cJ S3 ++ (stW q4 cI cJ S4 ++ (stW q5 cI cJ S5 ++ (stW q6 cI cJ S6 ++ (txW qt cI T))))))))) (w' := (poC o q1 q2 q3 q4 q5 q6 qt sv ++ (stW q1 cI cJ S1 ++ (stW q2 cI cJ S2 ++ (stW q3 cI cJ S3 ++ (stW q4 cI cJ S4 ++ (stW q5 cI cJ S5 ++ (stW q6 cI cJ S6 ++ (txW qt cI T))))))))) (vx_runSW (As := [.ref o, .int (nI k), .int 0]) (rest := [.long v]) ⟨hx, hb, hml, hown, hts⟩ (m_L_pump l D o q1 q2 q3 q4 q5 q6 qt cI cJ S1 S2 S3 S4 S5 S6 T sv (nI k) 0 n hn hn6 hp (by decide) _) (vx_cwSW 3 hts gL_pumpsHold_L_pump rfl rfl rfl (by decide +kernel) ⟨Nat.le_of_ble_eq_true rfl, Nat.le_of_ble_eq_true rfl⟩) ⟨kB_blind, k_pre (a := []) (z := []) (k_w0 _) hK hP hD⟩ rfl rfl hl.1 rfl (lv_room (Nat.le_of_ble_eq_true rfl)) dL_pumpsHold_107 ⟨Nat.zero_le _, Nat.zero_le _⟩) (k_w0 _) (k_w0 _) rfl hP hD hS hA (fun H locs hP hD hS => ?_)
            rw [show p_fact S2 (nI k) 0 = S2.2.2.1 2 k from pf_0 hp (by omega)]
            refine lv_i2l hx hb dL_pumpsHold_110 rfl ?_
            refine lv_aload_n hx hb dL_pumpsHold_111 rfl (lv_at hl 4 rfl) ?_
            refine lv_iload hx hb dL_pumpsHold_112 (lv_at hl 8 rfl) ?_
            refine lv_bipush (v := 6) hx hb dL_pumpsHold_114 (by decide) ?_
            refine k_calli (a := []) (z := []) (wc := (poC o q1 q2 q3 q4 q5 q6 qt sv ++ (stW q1 cI cJ S1 ++ (stW q2 cI cJ S2 ++ (stW q3 cI cJ S3 ++ (stW q4 cI cJ S4 ++ (stW q5 cI cJ S5 ++ (stW q6 cI cJ S6 ++ (txW qt cI T))))))))) (wc' := (poC o q1 q2 q3 q4 q5 q6 qt sv ++ (stW q1 cI cJ S1 ++ (stW q2 cI cJ S2 ++ (stW q3 cI cJ S3 ++ (stW q4 cI cJ S4 ++ (stW q5 cI cJ S5 ++ (stW q6 cI cJ S6 ++ (txW qt cI T))))))))) (w' := (poC o q1 q2 q3 q4 q5 q6 qt sv ++ (stW q1 cI cJ S1 ++ (stW q2 cI cJ S2 ++ (stW q3 cI cJ S3 ++ (stW q4 cI cJ S4 ++ (stW q5 cI cJ S5 ++ (stW q6 cI cJ S6 ++ (txW qt cI T))))))))) (vx_runSW (As := [.ref o, .int (nI k), .int 6]) (rest := [.long ((S2.2.2.1 2 k).toInt64), .long v]) ⟨hx, hb, hml, hown, hts⟩ (m_L_pump l D o q1 q2 q3 q4 q5 q6 qt cI cJ S1 S2 S3 S4 S5 S6 T sv (nI k) 6 n hn hn6 hp (by decide) _) (vx_cwSW 3 hts gL_pumpsHold_L_pump rfl rfl rfl (by decide +kernel) ⟨Nat.le_of_ble_eq_true rfl, Nat.le_of_ble_eq_true rfl⟩) ⟨kB_blind, k_pre (a := []) (z := []) (k_w0 _) hK hP hD⟩ rfl rfl hl.1 rfl (lv_room (Nat.le_of_ble_eq_true rfl)) dL_pumpsHold_116 ⟨Nat.zero_le _, Nat.zero_le _⟩) (k_w0 _) (k_w0 _) rfl hP hD hS hA (fun H locs hP hD hS => ?_)
            rw [show p_fact S2 (nI k) 6 = S2.2.2.1 8 k from pf_6 hp (by omega)]
            refine lv_i2l hx hb dL_pumpsHold_119 rfl ?_
            refine lv_lmul hx hb dL_pumpsHold_120 ?_
            refine lv_ladd hx hb dL_pumpsHold_121 ?_
            refine lv_lstore (lv' := [(6, .long (v + (((S2.2.2.1 2 k).toInt64) * ((S2.2.2.1 8 k).toInt64)))), (5, .int (u + (S2.2.2.1 9 k))), (4, .int (z ||| (1 <<< ((S2.2.2.1 5 k) &&& 31)))), (3, .int (y + 1)), (2, .int (x + 0)), (0, .ref o), (1, .int (nI n)), (8, .int 1), (9, .int (nI k))]) hx hb dL_pumpsHold_122 hl (by decide) rfl (fun ls hl => ?_)
            refine lv_aload_n hx hb dL_pumpsHold_124 rfl (lv_at hl 5 rfl) ?_
            refine lv_iload hx hb dL_pumpsHold_125 (lv_at hl 8 rfl) ?_
            refine lv_iconst (v := 4) hx hb dL_pumpsHold_127 (by decide) ?_
            refine k_calli (a := []) (z := []) (wc := (poC o q1 q2 q3 q4 q5 q6 qt sv ++ (stW q1 cI cJ S1 ++ (stW q2 cI cJ S2 ++ (stW q3 cI cJ S3 ++ (stW q4 cI cJ S4 ++ (stW q5 cI cJ S5 ++ (stW q6 cI cJ S6 ++ (txW qt cI T))))))))) (wc' := (poC o q1 q2 q3 q4 q5 q6 qt sv ++ (stW q1 cI cJ S1 ++ (stW q2 cI cJ S2 ++ (stW q3 cI cJ S3 ++ (stW q4 cI cJ S4 ++ (stW q5 cI cJ S5 ++ (stW q6 cI cJ S6 ++ (txW qt cI T))))))))) (w' := (poC o q1 q2 q3 q4 q5 q6 qt sv ++ (stW q1 cI cJ S1 ++ (stW q2 cI cJ S2 ++ (stW q3 cI cJ S3 ++ (stW q4 cI cJ S4 ++ (stW q5 cI cJ S5 ++ (stW q6 cI cJ S6 ++ (txW qt cI T))))))))) (vx_runSW (As := [.ref o, .int (nI k), .int 4]) (rest := []) ⟨hx, hb, hml, hown, hts⟩ (m_L_pump l D o q1 q2 q3 q4 q5 q6 qt cI cJ S1 S2 S3 S4 S5 S6 T sv (nI k) 4 n hn hn6 hp (by decide) _) (vx_cwSW 3 hts gL_pumpsHold_L_pump rfl rfl rfl (by decide +kernel) ⟨Nat.le_of_ble_eq_true rfl, Nat.le_of_ble_eq_true rfl⟩) ⟨kB_blind, k_pre (a := []) (z := []) (k_w0 _) hK hP hD⟩ rfl rfl hl.1 rfl (lv_room (Nat.le_of_ble_eq_true rfl)) dL_pumpsHold_128 ⟨Nat.zero_le _, Nat.zero_le _⟩) (k_w0 _) (k_w0 _) rfl hP hD hS hA (fun H locs hP hD hS => ?_)
            rw [show p_fact S2 (nI k) 4 = S2.2.2.1 6 k from pf_4 hp (by omega)]
            refine lv_aload_n hx hb dL_pumpsHold_131 rfl (lv_at hl 5 rfl) ?_
            refine lv_iload hx hb dL_pumpsHold_132 (lv_at hl 8 rfl) ?_
            refine lv_iconst (v := 5) hx hb dL_pumpsHold_134 (by decide) ?_
            refine k_calli (a := []) (z := []) (wc := (poC o q1 q2 q3 q4 q5 q6 qt sv ++ (stW q1 cI cJ S1 ++ (stW q2 cI cJ S2 ++ (stW q3 cI cJ S3 ++ (stW q4 cI cJ S4 ++ (stW q5 cI cJ S5 ++ (stW q6 cI cJ S6 ++ (txW qt cI T))))))))) (wc' := (poC o q1 q2 q3 q4 q5 q6 qt sv ++ (stW q1 cI cJ S1 ++ (stW q2 cI cJ S2 ++ (stW q3 cI cJ S3 ++ (stW q4 cI cJ S4 ++ (stW q5 cI cJ S5 ++ (stW q6 cI cJ S6 ++ (txW qt cI T))))))))) (w' := (poC o q1 q2 q3 q4 q5 q6 qt sv ++ (stW q1 cI cJ S1 ++ (stW q2 cI cJ S2 ++ (stW q3 cI cJ S3 ++ (stW q4 cI cJ S4 ++ (stW q5 cI cJ S5 ++ (stW q6 cI cJ S6 ++ (txW qt cI T))))))))) (vx_runSW (As := [.ref o, .int (nI k), .int 5]) (rest := [.int (S2.2.2.1 6 k)]) ⟨hx, hb, hml, hown, hts⟩ (m_L_pump l D o q1 q2 q3 q4 q5 q6 qt cI cJ S1 S2 S3 S4 S5 S6 T sv (nI k) 5 n hn hn6 hp (by decide) _) (vx_cwSW 3 hts gL_pumpsHold_L_pump rfl rfl rfl (by decide +kernel) ⟨Nat.le_of_ble_eq_true rfl, Nat.le_of_ble_eq_true rfl⟩) ⟨kB_blind, k_pre (a := []) (z := []) (k_w0 _) hK hP hD⟩ rfl rfl hl.1 rfl (lv_room (Nat.le_of_ble_eq_true rfl)) dL_pumpsHold_135 ⟨Nat.zero_le _, Nat.zero_le _⟩) (k_w0 _) (k_w0 _) rfl hP hD hS hA (fun H locs hP hD hS => ?_)
            rw [show p_fact S2 (nI k) 5 = S2.2.2.1 7 k from pf_5 hp (by omega)]
            refine lv_icmp_gt (tgt := 197) hx hb dL_pumpsHold_138 (by decide) (fun c_138_18 => ?_) (fun c_138_18 => ?_)
            · have c_138_18 : (S2.2.2.1 7 k) < (S2.2.2.1 6 k) := c_138_18
              exact absurd c_138_18 ((hF.1 k hkl_25).1) -- done
            · have c_138_18 : ¬ (S2.2.2.1 7 k) < (S2.2.2.1 6 k) := c_138_18
              refine lv_aload_n hx hb dL_pumpsHold_141 rfl (lv_at hl 5 rfl) ?_
              refine lv_iload hx hb dL_pumpsHold_142 (lv_at hl 8 rfl) ?_
              refine lv_bipush (v := 7) hx hb dL_pumpsHold_144 (by decide) ?_
              refine k_calli (a := []) (z := []) (wc := (poC o q1 q2 q3 q4 q5 q6 qt sv ++ (stW q1 cI cJ S1 ++ (stW q2 cI cJ S2 ++ (stW q3 cI cJ S3 ++ (stW q4 cI cJ S4 ++ (stW q5 cI cJ S5 ++ (stW q6 cI cJ S6 ++ (txW qt cI T))))))))) (wc' := (poC o q1 q2 q3 q4 q5 q6 qt sv ++ (stW q1 cI cJ S1 ++ (stW q2 cI cJ S2 ++ (stW q3 cI cJ S3 ++ (stW q4 cI cJ S4 ++ (stW q5 cI cJ S5 ++ (stW q6 cI cJ S6 ++ (txW qt cI T))))))))) (w' := (poC o q1 q2 q3 q4 q5 q6 qt sv ++ (stW q1 cI cJ S1 ++ (stW q2 cI cJ S2 ++ (stW q3 cI cJ S3 ++ (stW q4 cI cJ S4 ++ (stW q5 cI cJ S5 ++ (stW q6 cI cJ S6 ++ (txW qt cI T))))))))) (vx_runSW (As := [.ref o, .int (nI k), .int 7]) (rest := []) ⟨hx, hb, hml, hown, hts⟩ (m_L_pump l D o q1 q2 q3 q4 q5 q6 qt cI cJ S1 S2 S3 S4 S5 S6 T sv (nI k) 7 n hn hn6 hp (by decide) _) (vx_cwSW 3 hts gL_pumpsHold_L_pump rfl rfl rfl (by decide +kernel) ⟨Nat.le_of_ble_eq_true rfl, Nat.le_of_ble_eq_true rfl⟩) ⟨kB_blind, k_pre (a := []) (z := []) (k_w0 _) hK hP hD⟩ rfl rfl hl.1 rfl (lv_room (Nat.le_of_ble_eq_true rfl)) dL_pumpsHold_146 ⟨Nat.zero_le _, Nat.zero_le _⟩) (k_w0 _) (k_w0 _) rfl hP hD hS hA (fun H locs hP hD hS => ?_)
              rw [show p_fact S2 (nI k) 7 = S2.2.2.1 9 k from pf_7 hp (by omega)]
              refine lv_aload_n hx hb dL_pumpsHold_149 rfl (lv_at hl 5 rfl) ?_
              refine lv_iload hx hb dL_pumpsHold_150 (lv_at hl 8 rfl) ?_
              refine lv_iconst (v := 5) hx hb dL_pumpsHold_152 (by decide) ?_
              refine k_calli (a := []) (z := []) (wc := (poC o q1 q2 q3 q4 q5 q6 qt sv ++ (stW q1 cI cJ S1 ++ (stW q2 cI cJ S2 ++ (stW q3 cI cJ S3 ++ (stW q4 cI cJ S4 ++ (stW q5 cI cJ S5 ++ (stW q6 cI cJ S6 ++ (txW qt cI T))))))))) (wc' := (poC o q1 q2 q3 q4 q5 q6 qt sv ++ (stW q1 cI cJ S1 ++ (stW q2 cI cJ S2 ++ (stW q3 cI cJ S3 ++ (stW q4 cI cJ S4 ++ (stW q5 cI cJ S5 ++ (stW q6 cI cJ S6 ++ (txW qt cI T))))))))) (w' := (poC o q1 q2 q3 q4 q5 q6 qt sv ++ (stW q1 cI cJ S1 ++ (stW q2 cI cJ S2 ++ (stW q3 cI cJ S3 ++ (stW q4 cI cJ S4 ++ (stW q5 cI cJ S5 ++ (stW q6 cI cJ S6 ++ (txW qt cI T))))))))) (vx_runSW (As := [.ref o, .int (nI k), .int 5]) (rest := [.int (S2.2.2.1 9 k)]) ⟨hx, hb, hml, hown, hts⟩ (m_L_pump l D o q1 q2 q3 q4 q5 q6 qt cI cJ S1 S2 S3 S4 S5 S6 T sv (nI k) 5 n hn hn6 hp (by decide) _) (vx_cwSW 3 hts gL_pumpsHold_L_pump rfl rfl rfl (by decide +kernel) ⟨Nat.le_of_ble_eq_true rfl, Nat.le_of_ble_eq_true rfl⟩) ⟨kB_blind, k_pre (a := []) (z := []) (k_w0 _) hK hP hD⟩ rfl rfl hl.1 rfl (lv_room (Nat.le_of_ble_eq_true rfl)) dL_pumpsHold_153 ⟨Nat.zero_le _, Nat.zero_le _⟩) (k_w0 _) (k_w0 _) rfl hP hD hS hA (fun H locs hP hD hS => ?_)
              rw [show p_fact S2 (nI k) 5 = S2.2.2.1 7 k from pf_5 hp (by omega)]
              refine lv_icmp_gt (tgt := 197) hx hb dL_pumpsHold_156 (by decide) (fun c_156_19 => ?_) (fun c_156_19 => ?_)
              · have c_156_19 : (S2.2.2.1 7 k) < (S2.2.2.1 9 k) := c_156_19
                exact absurd c_156_19 ((hF.1 k hkl_25).2.1) -- done
              · have c_156_19 : ¬ (S2.2.2.1 7 k) < (S2.2.2.1 9 k) := c_156_19
                refine lv_aload_n hx hb dL_pumpsHold_159 rfl (lv_at hl 5 rfl) ?_
                refine lv_bipush (v := 11) hx hb dL_pumpsHold_160 (by decide) ?_
                refine k_calli (a := []) (z := []) (wc := (poC o q1 q2 q3 q4 q5 q6 qt sv ++ (stW q1 cI cJ S1 ++ (stW q2 cI cJ S2 ++ (stW q3 cI cJ S3 ++ (stW q4 cI cJ S4 ++ (stW q5 cI cJ S5 ++ (stW q6 cI cJ S6 ++ (txW qt cI T))))))))) (wc' := (poC o q1 q2 q3 q4 q5 q6 qt sv ++ (stW q1 cI cJ S1 ++ (stW q2 cI cJ S2 ++ (stW q3 cI cJ S3 ++ (stW q4 cI cJ S4 ++ (stW q5 cI cJ S5 ++ (stW q6 cI cJ S6 ++ (txW qt cI T))))))))) (w' := (poC o q1 q2 q3 q4 q5 q6 qt sv ++ (stW q1 cI cJ S1 ++ (stW q2 cI cJ S2 ++ (stW q3 cI cJ S3 ++ (stW q4 cI cJ S4 ++ (stW q5 cI cJ S5 ++ (stW q6 cI cJ S6 ++ (txW qt cI T))))))))) (vx_runSW (As := [.ref o, .int 11]) (rest := []) ⟨hx, hb, hml, hown, hts⟩ (m_L_value l D o q1 q2 q3 q4 q5 q6 qt cI cJ S1 S2 S3 S4 S5 S6 T sv 11 n hn hn6 (by decide) _) (vx_cwSW 2 hts gL_pumpsHold_L_value rfl rfl rfl (by decide +kernel) ⟨Nat.le_of_ble_eq_true rfl, Nat.le_of_ble_eq_true rfl⟩) ⟨kB_blind, k_pre (a := []) (z := []) (k_w0 _) hK hP hD⟩ rfl rfl hl.1 rfl (lv_room (Nat.le_of_ble_eq_true rfl)) dL_pumpsHold_162 ⟨Nat.zero_le _, Nat.zero_le _⟩) (k_w0 _) (k_w0 _) rfl hP hD hS hA (fun H locs hP hD hS => ?_)
                rw [show s_num S2 n 11 = p_lead S2 n from sn_11 S2 n]
                refine lv_iload hx hb dL_pumpsHold_165 (lv_at hl 8 rfl) ?_
                refine lv_icmp_ne (tgt := 174) hx hb dL_pumpsHold_167 (by decide) (fun c_167_20 => ?_) (fun c_167_20 => ?_)
                · have c_167_20 : ¬ (p_lead S2 n) = (nI k) := c_167_20
                  have hq0 : ¬ S2.2.2.1 5 k = 0 := fun z9 => c_167_20 ((hF.1 k hkl_25).2.2.mpr z9)
                  refine lv_iconst (v := 0) hx hb dL_pumpsHold_174 (by decide) ?_
                  refine lv_aload_n hx hb dL_pumpsHold_175 rfl (lv_at hl 5 rfl) ?_
                  refine lv_iload hx hb dL_pumpsHold_176 (lv_at hl 8 rfl) ?_
                  refine lv_iconst (v := 3) hx hb dL_pumpsHold_178 (by decide) ?_
                  refine k_calli (a := []) (z := []) (wc := (poC o q1 q2 q3 q4 q5 q6 qt sv ++ (stW q1 cI cJ S1 ++ (stW q2 cI cJ S2 ++ (stW q3 cI cJ S3 ++ (stW q4 cI cJ S4 ++ (stW q5 cI cJ S5 ++ (stW q6 cI cJ S6 ++ (txW qt cI T))))))))) (wc' := (poC o q1 q2 q3 q4 q5 q6 qt sv ++ (stW q1 cI cJ S1 ++ (stW q2 cI cJ S2 ++ (stW q3 cI cJ S3 ++ (stW q4 cI cJ S4 ++ (stW q5 cI cJ S5 ++ (stW q6 cI cJ S6 ++ (txW qt cI T))))))))) (w' := (poC o q1 q2 q3 q4 q5 q6 qt sv ++ (stW q1 cI cJ S1 ++ (stW q2 cI cJ S2 ++ (stW q3 cI cJ S3 ++ (stW q4 cI cJ S4 ++ (stW q5 cI cJ S5 ++ (stW q6 cI cJ S6 ++ (txW qt cI T))))))))) (vx_runSW (As := [.ref o, .int (nI k), .int 3]) (rest := [.int 0]) ⟨hx, hb, hml, hown, hts⟩ (m_L_pump l D o q1 q2 q3 q4 q5 q6 qt cI cJ S1 S2 S3 S4 S5 S6 T sv (nI k) 3 n hn hn6 hp (by decide) _) (vx_cwSW 3 hts gL_pumpsHold_L_pump rfl rfl rfl (by decide +kernel) ⟨Nat.le_of_ble_eq_true rfl, Nat.le_of_ble_eq_true rfl⟩) ⟨kB_blind, k_pre (a := []) (z := []) (k_w0 _) hK hP hD⟩ rfl rfl hl.1 rfl (lv_room (Nat.le_of_ble_eq_true rfl)) dL_pumpsHold_179 ⟨Nat.zero_le _, Nat.zero_le _⟩) (k_w0 _) (k_w0 _) rfl hP hD hS hA (fun H locs hP hD hS => ?_)
                  rw [show p_fact S2 (nI k) 3 = S2.2.2.1 5 k from pf_3 hp (by omega)]
                  refine lv_if_ne (tgt := 189) hx hb dL_pumpsHold_182 (by decide) (fun c_182_21 => ?_) (fun c_182_21 => ?_)
                  · have c_182_21 : ¬ (S2.2.2.1 5 k) = 0 := c_182_21
                    refine lv_iconst (v := 0) hx hb dL_pumpsHold_189 (by decide) ?_
                    refine lv_icmp_ne (tgt := 197) hx hb dL_pumpsHold_190 (by decide) (fun h => absurd h (by decide)) (fun _ => ?_)
                    refine lv_iconst (v := 1) hx hb dL_pumpsHold_193 (by decide) ?_
                    refine lv_goto (tgt := 198) hx hb dL_pumpsHold_194 (by decide) ?_
                    refine lv_istore (lv' := [(8, .int 1), (6, .long (v + (((S2.2.2.1 2 k).toInt64) * ((S2.2.2.1 8 k).toInt64)))), (5, .int (u + (S2.2.2.1 9 k))), (4, .int (z ||| (1 <<< ((S2.2.2.1 5 k) &&& 31)))), (3, .int (y + 1)), (2, .int (x + 0)), (0, .ref o), (1, .int (nI n)), (9, .int (nI k))]) hx hb dL_pumpsHold_198 hl (by decide) rfl (fun ls hl => ?_)
                    refine lv_iinc (v := (nI k) + 1) (lv' := [(9, .int ((nI k) + 1)), (8, .int 1), (6, .long (v + (((S2.2.2.1 2 k).toInt64) * ((S2.2.2.1 8 k).toInt64)))), (5, .int (u + (S2.2.2.1 9 k))), (4, .int (z ||| (1 <<< ((S2.2.2.1 5 k) &&& 31)))), (3, .int (y + 1)), (2, .int (x + 0)), (0, .ref o), (1, .int (nI n))]) hx hb dL_pumpsHold_200 hl (k := 8) rfl rfl (by decide) rfl (fun ls hl => ?_)
                    refine lv_goto (tgt := 25) hx hb dL_pumpsHold_203 (by decide) ?_
                    rw [show ((nI k) + 1) = (nI (k + 1)) from nI_1 _] at hl
                    exact ih_25 (k + 1) (x + 0) (y + 1) (z ||| (1 <<< ((S2.2.2.1 5 k) &&& 31))) (u + (S2.2.2.1 9 k)) (v + (((S2.2.2.1 2 k).toInt64) * ((S2.2.2.1 8 k).toInt64))) (by omega) (by omega) (by rw [itr_s, e25]; simp only [hp_B]; (repeat' split) <;> first | rfl | contradiction) _ _ _ hP hD hS (lv_sub hl [7, 8, 6, 5, 4, 3, 2, 1, 0] rfl)
                  · have c_182_21 : (S2.2.2.1 5 k) = 0 := c_182_21
                    exact absurd c_182_21 hq0
                · have c_167_20 : (p_lead S2 n) = (nI k) := c_167_20
                  have hq0 : S2.2.2.1 5 k = 0 := (hF.1 k hkl_25).2.2.mp c_167_20
                  refine lv_iconst (v := 1) hx hb dL_pumpsHold_170 (by decide) ?_
                  refine lv_goto (tgt := 175) hx hb dL_pumpsHold_171 (by decide) ?_
                  refine lv_aload_n hx hb dL_pumpsHold_175 rfl (lv_at hl 5 rfl) ?_
                  refine lv_iload hx hb dL_pumpsHold_176 (lv_at hl 8 rfl) ?_
                  refine lv_iconst (v := 3) hx hb dL_pumpsHold_178 (by decide) ?_
                  refine k_calli (a := []) (z := []) (wc := (poC o q1 q2 q3 q4 q5 q6 qt sv ++ (stW q1 cI cJ S1 ++ (stW q2 cI cJ S2 ++ (stW q3 cI cJ S3 ++ (stW q4 cI cJ S4 ++ (stW q5 cI cJ S5 ++ (stW q6 cI cJ S6 ++ (txW qt cI T))))))))) (wc' := (poC o q1 q2 q3 q4 q5 q6 qt sv ++ (stW q1 cI cJ S1 ++ (stW q2 cI cJ S2 ++ (stW q3 cI cJ S3 ++ (stW q4 cI cJ S4 ++ (stW q5 cI cJ S5 ++ (stW q6 cI cJ S6 ++ (txW qt cI T))))))))) (w' := (poC o q1 q2 q3 q4 q5 q6 qt sv ++ (stW q1 cI cJ S1 ++ (stW q2 cI cJ S2 ++ (stW q3 cI cJ S3 ++ (stW q4 cI cJ S4 ++ (stW q5 cI cJ S5 ++ (stW q6 cI cJ S6 ++ (txW qt cI T))))))))) (vx_runSW (As := [.ref o, .int (nI k), .int 3]) (rest := [.int 1]) ⟨hx, hb, hml, hown, hts⟩ (m_L_pump l D o q1 q2 q3 q4 q5 q6 qt cI cJ S1 S2 S3 S4 S5 S6 T sv (nI k) 3 n hn hn6 hp (by decide) _) (vx_cwSW 3 hts gL_pumpsHold_L_pump rfl rfl rfl (by decide +kernel) ⟨Nat.le_of_ble_eq_true rfl, Nat.le_of_ble_eq_true rfl⟩) ⟨kB_blind, k_pre (a := []) (z := []) (k_w0 _) hK hP hD⟩ rfl rfl hl.1 rfl (lv_room (Nat.le_of_ble_eq_true rfl)) dL_pumpsHold_179 ⟨Nat.zero_le _, Nat.zero_le _⟩) (k_w0 _) (k_w0 _) rfl hP hD hS hA (fun H locs hP hD hS => ?_)
                  rw [show p_fact S2 (nI k) 3 = S2.2.2.1 5 k from pf_3 hp (by omega)]
                  refine lv_if_ne (tgt := 189) hx hb dL_pumpsHold_182 (by decide) (fun c_182_23 => ?_) (fun c_182_23 => ?_)
                  · have c_182_23 : ¬ (S2.2.2.1 5 k) = 0 := c_182_23
                    exact absurd hq0 c_182_23
                  · have c_182_23 : (S2.2.2.1 5 k) = 0 := c_182_23
                    refine lv_iconst (v := 1) hx hb dL_pumpsHold_185 (by decide) ?_
                    refine lv_goto (tgt := 190) hx hb dL_pumpsHold_186 (by decide) ?_
                    refine lv_icmp_ne (tgt := 197) hx hb dL_pumpsHold_190 (by decide) (fun h => absurd h (by decide)) (fun _ => ?_)
                    refine lv_iconst (v := 1) hx hb dL_pumpsHold_193 (by decide) ?_
                    refine lv_goto (tgt := 198) hx hb dL_pumpsHold_194 (by decide) ?_
                    refine lv_istore (lv' := [(8, .int 1), (6, .long (v + (((S2.2.2.1 2 k).toInt64) * ((S2.2.2.1 8 k).toInt64)))), (5, .int (u + (S2.2.2.1 9 k))), (4, .int (z ||| (1 <<< ((S2.2.2.1 5 k) &&& 31)))), (3, .int (y + 1)), (2, .int (x + 0)), (0, .ref o), (1, .int (nI n)), (9, .int (nI k))]) hx hb dL_pumpsHold_198 hl (by decide) rfl (fun ls hl => ?_)
                    refine lv_iinc (v := (nI k) + 1) (lv' := [(9, .int ((nI k) + 1)), (8, .int 1), (6, .long (v + (((S2.2.2.1 2 k).toInt64) * ((S2.2.2.1 8 k).toInt64)))), (5, .int (u + (S2.2.2.1 9 k))), (4, .int (z ||| (1 <<< ((S2.2.2.1 5 k) &&& 31)))), (3, .int (y + 1)), (2, .int (x + 0)), (0, .ref o), (1, .int (nI n))]) hx hb dL_pumpsHold_200 hl (k := 8) rfl rfl (by decide) rfl (fun ls hl => ?_)
                    refine lv_goto (tgt := 25) hx hb dL_pumpsHold_203 (by decide) ?_
                    rw [show ((nI k) + 1) = (nI (k + 1)) from nI_1 _] at hl
                    exact ih_25 (k + 1) (x + 0) (y + 1) (z ||| (1 <<< ((S2.2.2.1 5 k) &&& 31))) (u + (S2.2.2.1 9 k)) (v + (((S2.2.2.1 2 k).toInt64) * ((S2.2.2.1 8 k).toInt64))) (by omega) (by omega) (by rw [itr_s, e25]; simp only [hp_B]; (repeat' split) <;> first | rfl | contradiction) _ _ _ hP hD hS (lv_sub hl [7, 8, 6, 5, 4, 3, 2, 1, 0] rfl)
        · have c_45_9 : (S2.2.2.1 4 k) = 1 := c_45_9
          refine lv_iconst (v := 1) hx hb dL_pumpsHold_48 (by decide) ?_
          refine lv_goto (tgt := 53) hx hb dL_pumpsHold_49 (by decide) ?_
          refine lv_iadd hx hb dL_pumpsHold_53 ?_
          refine lv_istore_n (lv' := [(2, .int (x + 1)), (0, .ref o), (1, .int (nI n)), (3, .int y), (4, .int z), (5, .int u), (6, .long v), (8, .int 1), (9, .int (nI k))]) hx hb dL_pumpsHold_54 rfl hl (by decide) rfl (fun ls hl => ?_)
          refine lv_iload_n hx hb dL_pumpsHold_55 rfl (lv_at hl 3 rfl) ?_
          refine lv_aload_n hx hb dL_pumpsHold_56 rfl (lv_at hl 1 rfl) ?_
          refine lv_iload hx hb dL_pumpsHold_57 (lv_at hl 8 rfl) ?_
          refine lv_iconst (v := 2) hx hb dL_pumpsHold_59 (by decide) ?_
          refine k_calli (a := []) (z := []) (wc := (poC o q1 q2 q3 q4 q5 q6 qt sv ++ (stW q1 cI cJ S1 ++ (stW q2 cI cJ S2 ++ (stW q3 cI cJ S3 ++ (stW q4 cI cJ S4 ++ (stW q5 cI cJ S5 ++ (stW q6 cI cJ S6 ++ (txW qt cI T))))))))) (wc' := (poC o q1 q2 q3 q4 q5 q6 qt sv ++ (stW q1 cI cJ S1 ++ (stW q2 cI cJ S2 ++ (stW q3 cI cJ S3 ++ (stW q4 cI cJ S4 ++ (stW q5 cI cJ S5 ++ (stW q6 cI cJ S6 ++ (txW qt cI T))))))))) (w' := (poC o q1 q2 q3 q4 q5 q6 qt sv ++ (stW q1 cI cJ S1 ++ (stW q2 cI cJ S2 ++ (stW q3 cI cJ S3 ++ (stW q4 cI cJ S4 ++ (stW q5 cI cJ S5 ++ (stW q6 cI cJ S6 ++ (txW qt cI T))))))))) (vx_runSW (As := [.ref o, .int (nI k), .int 2]) (rest := [.int y]) ⟨hx, hb, hml, hown, hts⟩ (m_L_pump l D o q1 q2 q3 q4 q5 q6 qt cI cJ S1 S2 S3 S4 S5 S6 T sv (nI k) 2 n hn hn6 hp (by decide) _) (vx_cwSW 3 hts gL_pumpsHold_L_pump rfl rfl rfl (by decide +kernel) ⟨Nat.le_of_ble_eq_true rfl, Nat.le_of_ble_eq_true rfl⟩) ⟨kB_blind, k_pre (a := []) (z := []) (k_w0 _) hK hP hD⟩ rfl rfl hl.1 rfl (lv_room (Nat.le_of_ble_eq_true rfl)) dL_pumpsHold_60 ⟨Nat.zero_le _, Nat.zero_le _⟩) (k_w0 _) (k_w0 _) rfl hP hD hS hA (fun H locs hP hD hS => ?_)
          rw [show p_fact S2 (nI k) 2 = S2.2.2.1 4 k from pf_2 hp (by omega)]
          refine lv_iconst (v := 2) hx hb dL_pumpsHold_63 (by decide) ?_
          refine lv_icmp_ne (tgt := 71) hx hb dL_pumpsHold_64 (by decide) (fun c_64_25 => ?_) (fun c_64_25 => ?_)
          · have c_64_25 : ¬ (S2.2.2.1 4 k) = 2 := c_64_25
            refine lv_iconst (v := 0) hx hb dL_pumpsHold_71 (by decide) ?_
            refine lv_iadd hx hb dL_pumpsHold_72 ?_
            refine lv_istore_n (lv' := [(3, .int (y + 0)), (2, .int (x + 1)), (0, .ref o), (1, .int (nI n)), (4, .int z), (5, .int u), (6, .long v), (8, .int 1), (9, .int (nI k))]) hx hb dL_pumpsHold_73 rfl hl (by decide) rfl (fun ls hl => ?_)
            refine lv_iload hx hb dL_pumpsHold_74 (lv_at hl 4 rfl) ?_
            refine lv_iconst (v := 1) hx hb dL_pumpsHold_76 (by decide) ?_
            refine lv_aload_n hx hb dL_pumpsHold_77 rfl (lv_at hl 2 rfl) ?_
            refine lv_iload hx hb dL_pumpsHold_78 (lv_at hl 8 rfl) ?_
            refine lv_iconst (v := 3) hx hb dL_pumpsHold_80 (by decide) ?_
            refine k_calli (a := []) (z := []) (wc := (poC o q1 q2 q3 q4 q5 q6 qt sv ++ (stW q1 cI cJ S1 ++ (stW q2 cI cJ S2 ++ (stW q3 cI cJ S3 ++ (stW q4 cI cJ S4 ++ (stW q5 cI cJ S5 ++ (stW q6 cI cJ S6 ++ (txW qt cI T))))))))) (wc' := (poC o q1 q2 q3 q4 q5 q6 qt sv ++ (stW q1 cI cJ S1 ++ (stW q2 cI cJ S2 ++ (stW q3 cI cJ S3 ++ (stW q4 cI cJ S4 ++ (stW q5 cI cJ S5 ++ (stW q6 cI cJ S6 ++ (txW qt cI T))))))))) (w' := (poC o q1 q2 q3 q4 q5 q6 qt sv ++ (stW q1 cI cJ S1 ++ (stW q2 cI cJ S2 ++ (stW q3 cI cJ S3 ++ (stW q4 cI cJ S4 ++ (stW q5 cI cJ S5 ++ (stW q6 cI cJ S6 ++ (txW qt cI T))))))))) (vx_runSW (As := [.ref o, .int (nI k), .int 3]) (rest := [.int 1, .int z]) ⟨hx, hb, hml, hown, hts⟩ (m_L_pump l D o q1 q2 q3 q4 q5 q6 qt cI cJ S1 S2 S3 S4 S5 S6 T sv (nI k) 3 n hn hn6 hp (by decide) _) (vx_cwSW 3 hts gL_pumpsHold_L_pump rfl rfl rfl (by decide +kernel) ⟨Nat.le_of_ble_eq_true rfl, Nat.le_of_ble_eq_true rfl⟩) ⟨kB_blind, k_pre (a := []) (z := []) (k_w0 _) hK hP hD⟩ rfl rfl hl.1 rfl (lv_room (Nat.le_of_ble_eq_true rfl)) dL_pumpsHold_81 ⟨Nat.zero_le _, Nat.zero_le _⟩) (k_w0 _) (k_w0 _) rfl hP hD hS hA (fun H locs hP hD hS => ?_)
            rw [show p_fact S2 (nI k) 3 = S2.2.2.1 5 k from pf_3 hp (by omega)]
            refine lv_ishl hx hb dL_pumpsHold_84 ?_
            refine lv_ior hx hb dL_pumpsHold_85 ?_
            refine lv_istore (lv' := [(4, .int (z ||| (1 <<< ((S2.2.2.1 5 k) &&& 31)))), (3, .int (y + 0)), (2, .int (x + 1)), (0, .ref o), (1, .int (nI n)), (5, .int u), (6, .long v), (8, .int 1), (9, .int (nI k))]) hx hb dL_pumpsHold_86 hl (by decide) rfl (fun ls hl => ?_)
            refine lv_iload hx hb dL_pumpsHold_88 (lv_at hl 5 rfl) ?_
            refine lv_aload_n hx hb dL_pumpsHold_90 rfl (lv_at hl 3 rfl) ?_
            refine lv_iload hx hb dL_pumpsHold_91 (lv_at hl 8 rfl) ?_
            refine lv_bipush (v := 7) hx hb dL_pumpsHold_93 (by decide) ?_
            refine k_calli (a := []) (z := []) (wc := (poC o q1 q2 q3 q4 q5 q6 qt sv ++ (stW q1 cI cJ S1 ++ (stW q2 cI cJ S2 ++ (stW q3 cI cJ S3 ++ (stW q4 cI cJ S4 ++ (stW q5 cI cJ S5 ++ (stW q6 cI cJ S6 ++ (txW qt cI T))))))))) (wc' := (poC o q1 q2 q3 q4 q5 q6 qt sv ++ (stW q1 cI cJ S1 ++ (stW q2 cI cJ S2 ++ (stW q3 cI cJ S3 ++ (stW q4 cI cJ S4 ++ (stW q5 cI cJ S5 ++ (stW q6 cI cJ S6 ++ (txW qt cI T))))))))) (w' := (poC o q1 q2 q3 q4 q5 q6 qt sv ++ (stW q1 cI cJ S1 ++ (stW q2 cI cJ S2 ++ (stW q3 cI cJ S3 ++ (stW q4 cI cJ S4 ++ (stW q5 cI cJ S5 ++ (stW q6 cI cJ S6 ++ (txW qt cI T))))))))) (vx_runSW (As := [.ref o, .int (nI k), .int 7]) (rest := [.int u]) ⟨hx, hb, hml, hown, hts⟩ (m_L_pump l D o q1 q2 q3 q4 q5 q6 qt cI cJ S1 S2 S3 S4 S5 S6 T sv (nI k) 7 n hn hn6 hp (by decide) _) (vx_cwSW 3 hts gL_pumpsHold_L_pump rfl rfl rfl (by decide +kernel) ⟨Nat.le_of_ble_eq_true rfl, Nat.le_of_ble_eq_true rfl⟩) ⟨kB_blind, k_pre (a := []) (z := []) (k_w0 _) hK hP hD⟩ rfl rfl hl.1 rfl (lv_room (Nat.le_of_ble_eq_true rfl)) dL_pumpsHold_95 ⟨Nat.zero_le _, Nat.zero_le _⟩) (k_w0 _) (k_w0 _) rfl hP hD hS hA (fun H locs hP hD hS => ?_)
            rw [show p_fact S2 (nI k) 7 = S2.2.2.1 9 k from pf_7 hp (by omega)]
            refine lv_iadd hx hb dL_pumpsHold_98 ?_
            refine lv_istore (lv' := [(5, .int (u + (S2.2.2.1 9 k))), (4, .int (z ||| (1 <<< ((S2.2.2.1 5 k) &&& 31)))), (3, .int (y + 0)), (2, .int (x + 1)), (0, .ref o), (1, .int (nI n)), (6, .long v), (8, .int 1), (9, .int (nI k))]) hx hb dL_pumpsHold_99 hl (by decide) rfl (fun ls hl => ?_)
            refine lv_lload hx hb dL_pumpsHold_101 (lv_at hl 6 rfl) ?_
            refine lv_aload_n hx hb dL_pumpsHold_103 rfl (lv_at hl 4 rfl) ?_
            refine lv_iload hx hb dL_pumpsHold_104 (lv_at hl 8 rfl) ?_
            refine lv_iconst (v := 0) hx hb dL_pumpsHold_106 (by decide) ?_
            refine k_calli (a := []) (z := []) (wc := (poC o q1 q2 q3 q4 q5 q6 qt sv ++ (stW q1 cI cJ S1 ++ (stW q2 cI cJ S2 ++ (stW q3 cI cJ S3 ++ (stW q4 cI cJ S4 ++ (stW q5 cI cJ S5 ++ (stW q6 cI cJ S6 ++ (txW qt cI T))))))))) (wc' := (poC o q1 q2 q3 q4 q5 q6 qt sv ++ (stW q1 cI cJ S1 ++ (stW q2 cI cJ S2 ++ (stW q3 cI cJ S3 ++ (stW q4 cI cJ S4 ++ (stW q5 cI cJ S5 ++ (stW q6 cI cJ S6 ++ (txW qt cI T))))))))) (w' := (poC o q1 q2 q3 q4 q5 q6 qt sv ++ (stW q1 cI cJ S1 ++ (stW q2 cI cJ S2 ++ (stW q3 cI cJ S3 ++ (stW q4 cI cJ S4 ++ (stW q5 cI cJ S5 ++ (stW q6 cI cJ S6 ++ (txW qt cI T))))))))) (vx_runSW (As := [.ref o, .int (nI k), .int 0]) (rest := [.long v]) ⟨hx, hb, hml, hown, hts⟩ (m_L_pump l D o q1 q2 q3 q4 q5 q6 qt cI cJ S1 S2 S3 S4 S5 S6 T sv (nI k) 0 n hn hn6 hp (by decide) _) (vx_cwSW 3 hts gL_pumpsHold_L_pump rfl rfl rfl (by decide +kernel) ⟨Nat.le_of_ble_eq_true rfl, Nat.le_of_ble_eq_true rfl⟩) ⟨kB_blind, k_pre (a := []) (z := []) (k_w0 _) hK hP hD⟩ rfl rfl hl.1 rfl (lv_room (Nat.le_of_ble_eq_true rfl)) dL_pumpsHold_107 ⟨Nat.zero_le _, Nat.zero_le _⟩) (k_w0 _) (k_w0 _) rfl hP hD hS hA (fun H locs hP hD hS => ?_)
            rw [show p_fact S2 (nI k) 0 = S2.2.2.1 2 k from pf_0 hp (by omega)]
            refine lv_i2l hx hb dL_pumpsHold_110 rfl ?_
            refine lv_aload_n hx hb dL_pumpsHold_111 rfl (lv_at hl 4 rfl) ?_
            refine lv_iload hx hb dL_pumpsHold_112 (lv_at hl 8 rfl) ?_
            refine lv_bipush (v := 6) hx hb dL_pumpsHold_114 (by decide) ?_
            refine k_calli (a := []) (z := []) (wc := (poC o q1 q2 q3 q4 q5 q6 qt sv ++ (stW q1 cI cJ S1 ++ (stW q2 cI cJ S2 ++ (stW q3 cI cJ S3 ++ (stW q4 cI cJ S4 ++ (stW q5 cI cJ S5 ++ (stW q6 cI cJ S6 ++ (txW qt cI T))))))))) (wc' := (poC o q1 q2 q3 q4 q5 q6 qt sv ++ (stW q1 cI cJ S1 ++ (stW q2 cI cJ S2 ++ (stW q3 cI cJ S3 ++ (stW q4 cI cJ S4 ++ (stW q5 cI cJ S5 ++ (stW q6 cI cJ S6 ++ (txW qt cI T))))))))) (w' := (poC o q1 q2 q3 q4 q5 q6 qt sv ++ (stW q1 cI cJ S1 ++ (stW q2 cI cJ S2 ++ (stW q3 cI cJ S3 ++ (stW q4 cI cJ S4 ++ (stW q5 cI cJ S5 ++ (stW q6 cI cJ S6 ++ (txW qt cI T))))))))) (vx_runSW (As := [.ref o, .int (nI k), .int 6]) (rest := [.long ((S2.2.2.1 2 k).toInt64), .long v]) ⟨hx, hb, hml, hown, hts⟩ (m_L_pump l D o q1 q2 q3 q4 q5 q6 qt cI cJ S1 S2 S3 S4 S5 S6 T sv (nI k) 6 n hn hn6 hp (by decide) _) (vx_cwSW 3 hts gL_pumpsHold_L_pump rfl rfl rfl (by decide +kernel) ⟨Nat.le_of_ble_eq_true rfl, Nat.le_of_ble_eq_true rfl⟩) ⟨kB_blind, k_pre (a := []) (z := []) (k_w0 _) hK hP hD⟩ rfl rfl hl.1 rfl (lv_room (Nat.le_of_ble_eq_true rfl)) dL_pumpsHold_116 ⟨Nat.zero_le _, Nat.zero_le _⟩) (k_w0 _) (k_w0 _) rfl hP hD hS hA (fun H locs hP hD hS => ?_)
            rw [show p_fact S2 (nI k) 6 = S2.2.2.1 8 k from pf_6 hp (by omega)]
            refine lv_i2l hx hb dL_pumpsHold_119 rfl ?_
            refine lv_lmul hx hb dL_pumpsHold_120 ?_
            refine lv_ladd hx hb dL_pumpsHold_121 ?_
            refine lv_lstore (lv' := [(6, .long (v + (((S2.2.2.1 2 k).toInt64) * ((S2.2.2.1 8 k).toInt64)))), (5, .int (u + (S2.2.2.1 9 k))), (4, .int (z ||| (1 <<< ((S2.2.2.1 5 k) &&& 31)))), (3, .int (y + 0)), (2, .int (x + 1)), (0, .ref o), (1, .int (nI n)), (8, .int 1), (9, .int (nI k))]) hx hb dL_pumpsHold_122 hl (by decide) rfl (fun ls hl => ?_)
            refine lv_aload_n hx hb dL_pumpsHold_124 rfl (lv_at hl 5 rfl) ?_
            refine lv_iload hx hb dL_pumpsHold_125 (lv_at hl 8 rfl) ?_
            refine lv_iconst (v := 4) hx hb dL_pumpsHold_127 (by decide) ?_
            refine k_calli (a := []) (z := []) (wc := (poC o q1 q2 q3 q4 q5 q6 qt sv ++ (stW q1 cI cJ S1 ++ (stW q2 cI cJ S2 ++ (stW q3 cI cJ S3 ++ (stW q4 cI cJ S4 ++ (stW q5 cI cJ S5 ++ (stW q6 cI cJ S6 ++ (txW qt cI T))))))))) (wc' := (poC o q1 q2 q3 q4 q5 q6 qt sv ++ (stW q1 cI cJ S1 ++ (stW q2 cI cJ S2 ++ (stW q3 cI cJ S3 ++ (stW q4 cI cJ S4 ++ (stW q5 cI cJ S5 ++ (stW q6 cI cJ S6 ++ (txW qt cI T))))))))) (w' := (poC o q1 q2 q3 q4 q5 q6 qt sv ++ (stW q1 cI cJ S1 ++ (stW q2 cI cJ S2 ++ (stW q3 cI cJ S3 ++ (stW q4 cI cJ S4 ++ (stW q5 cI cJ S5 ++ (stW q6 cI cJ S6 ++ (txW qt cI T))))))))) (vx_runSW (As := [.ref o, .int (nI k), .int 4]) (rest := []) ⟨hx, hb, hml, hown, hts⟩ (m_L_pump l D o q1 q2 q3 q4 q5 q6 qt cI cJ S1 S2 S3 S4 S5 S6 T sv (nI k) 4 n hn hn6 hp (by decide) _) (vx_cwSW 3 hts gL_pumpsHold_L_pump rfl rfl rfl (by decide +kernel) ⟨Nat.le_of_ble_eq_true rfl, Nat.le_of_ble_eq_true rfl⟩) ⟨kB_blind, k_pre (a := []) (z := []) (k_w0 _) hK hP hD⟩ rfl rfl hl.1 rfl (lv_room (Nat.le_of_ble_eq_true rfl)) dL_pumpsHold_128 ⟨Nat.zero_le _, Nat.zero_le _⟩) (k_w0 _) (k_w0 _) rfl hP hD hS hA (fun H locs hP hD hS => ?_)
            rw [show p_fact S2 (nI k) 4 = S2.2.2.1 6 k from pf_4 hp (by omega)]
            refine lv_aload_n hx hb dL_pumpsHold_131 rfl (lv_at hl 5 rfl) ?_
            refine lv_iload hx hb dL_pumpsHold_132 (lv_at hl 8 rfl) ?_
            refine lv_iconst (v := 5) hx hb dL_pumpsHold_134 (by decide) ?_
            refine k_calli (a := []) (z := []) (wc := (poC o q1 q2 q3 q4 q5 q6 qt sv ++ (stW q1 cI cJ S1 ++ (stW q2 cI cJ S2 ++ (stW q3 cI cJ S3 ++ (stW q4 cI cJ S4 ++ (stW q5 cI cJ S5 ++ (stW q6 cI cJ S6 ++ (txW qt cI T))))))))) (wc' := (poC o q1 q2 q3 q4 q5 q6 qt sv ++ (stW q1 cI cJ S1 ++ (stW q2 cI cJ S2 ++ (stW q3 cI cJ S3 ++ (stW q4 cI cJ S4 ++ (stW q5 cI cJ S5 ++ (stW q6 cI cJ S6 ++ (txW qt cI T))))))))) (w' := (poC o q1 q2 q3 q4 q5 q6 qt sv ++ (stW q1 cI cJ S1 ++ (stW q2 cI cJ S2 ++ (stW q3 cI cJ S3 ++ (stW q4 cI cJ S4 ++ (stW q5 cI cJ S5 ++ (stW q6 cI cJ S6 ++ (txW qt cI T))))))))) (vx_runSW (As := [.ref o, .int (nI k), .int 5]) (rest := [.int (S2.2.2.1 6 k)]) ⟨hx, hb, hml, hown, hts⟩ (m_L_pump l D o q1 q2 q3 q4 q5 q6 qt cI cJ S1 S2 S3 S4 S5 S6 T sv (nI k) 5 n hn hn6 hp (by decide) _) (vx_cwSW 3 hts gL_pumpsHold_L_pump rfl rfl rfl (by decide +kernel) ⟨Nat.le_of_ble_eq_true rfl, Nat.le_of_ble_eq_true rfl⟩) ⟨kB_blind, k_pre (a := []) (z := []) (k_w0 _) hK hP hD⟩ rfl rfl hl.1 rfl (lv_room (Nat.le_of_ble_eq_true rfl)) dL_pumpsHold_135 ⟨Nat.zero_le _, Nat.zero_le _⟩) (k_w0 _) (k_w0 _) rfl hP hD hS hA (fun H locs hP hD hS => ?_)
            rw [show p_fact S2 (nI k) 5 = S2.2.2.1 7 k from pf_5 hp (by omega)]
            refine lv_icmp_gt (tgt := 197) hx hb dL_pumpsHold_138 (by decide) (fun c_138_26 => ?_) (fun c_138_26 => ?_)
            · have c_138_26 : (S2.2.2.1 7 k) < (S2.2.2.1 6 k) := c_138_26
              exact absurd c_138_26 ((hF.1 k hkl_25).1) -- done
            · have c_138_26 : ¬ (S2.2.2.1 7 k) < (S2.2.2.1 6 k) := c_138_26
              refine lv_aload_n hx hb dL_pumpsHold_141 rfl (lv_at hl 5 rfl) ?_
              refine lv_iload hx hb dL_pumpsHold_142 (lv_at hl 8 rfl) ?_
              refine lv_bipush (v := 7) hx hb dL_pumpsHold_144 (by decide) ?_
              refine k_calli (a := []) (z := []) (wc := (poC o q1 q2 q3 q4 q5 q6 qt sv ++ (stW q1 cI cJ S1 ++ (stW q2 cI cJ S2 ++ (stW q3 cI cJ S3 ++ (stW q4 cI cJ S4 ++ (stW q5 cI cJ S5 ++ (stW q6 cI cJ S6 ++ (txW qt cI T))))))))) (wc' := (poC o q1 q2 q3 q4 q5 q6 qt sv ++ (stW q1 cI cJ S1 ++ (stW q2 cI cJ S2 ++ (stW q3 cI cJ S3 ++ (stW q4 cI cJ S4 ++ (stW q5 cI cJ S5 ++ (stW q6 cI cJ S6 ++ (txW qt cI T))))))))) (w' := (poC o q1 q2 q3 q4 q5 q6 qt sv ++ (stW q1 cI cJ S1 ++ (stW q2 cI cJ S2 ++ (stW q3 cI cJ S3 ++ (stW q4 cI cJ S4 ++ (stW q5 cI cJ S5 ++ (stW q6 cI cJ S6 ++ (txW qt cI T))))))))) (vx_runSW (As := [.ref o, .int (nI k), .int 7]) (rest := []) ⟨hx, hb, hml, hown, hts⟩ (m_L_pump l D o q1 q2 q3 q4 q5 q6 qt cI cJ S1 S2 S3 S4 S5 S6 T sv (nI k) 7 n hn hn6 hp (by decide) _) (vx_cwSW 3 hts gL_pumpsHold_L_pump rfl rfl rfl (by decide +kernel) ⟨Nat.le_of_ble_eq_true rfl, Nat.le_of_ble_eq_true rfl⟩) ⟨kB_blind, k_pre (a := []) (z := []) (k_w0 _) hK hP hD⟩ rfl rfl hl.1 rfl (lv_room (Nat.le_of_ble_eq_true rfl)) dL_pumpsHold_146 ⟨Nat.zero_le _, Nat.zero_le _⟩) (k_w0 _) (k_w0 _) rfl hP hD hS hA (fun H locs hP hD hS => ?_)
              rw [show p_fact S2 (nI k) 7 = S2.2.2.1 9 k from pf_7 hp (by omega)]
              refine lv_aload_n hx hb dL_pumpsHold_149 rfl (lv_at hl 5 rfl) ?_
              refine lv_iload hx hb dL_pumpsHold_150 (lv_at hl 8 rfl) ?_
              refine lv_iconst (v := 5) hx hb dL_pumpsHold_152 (by decide) ?_
              refine k_calli (a := []) (z := []) (wc := (poC o q1 q2 q3 q4 q5 q6 qt sv ++ (stW q1 cI cJ S1 ++ (stW q2 cI cJ S2 ++ (stW q3 cI cJ S3 ++ (stW q4 cI cJ S4 ++ (stW q5 cI cJ S5 ++ (stW q6 cI cJ S6 ++ (txW qt cI T))))))))) (wc' := (poC o q1 q2 q3 q4 q5 q6 qt sv ++ (stW q1 cI cJ S1 ++ (stW q2 cI cJ S2 ++ (stW q3 cI cJ S3 ++ (stW q4 cI cJ S4 ++ (stW q5 cI cJ S5 ++ (stW q6 cI cJ S6 ++ (txW qt cI T))))))))) (w' := (poC o q1 q2 q3 q4 q5 q6 qt sv ++ (stW q1 cI cJ S1 ++ (stW q2 cI cJ S2 ++ (stW q3 cI cJ S3 ++ (stW q4 cI cJ S4 ++ (stW q5 cI cJ S5 ++ (stW q6 cI cJ S6 ++ (txW qt cI T))))))))) (vx_runSW (As := [.ref o, .int (nI k), .int 5]) (rest := [.int (S2.2.2.1 9 k)]) ⟨hx, hb, hml, hown, hts⟩ (m_L_pump l D o q1 q2 q3 q4 q5 q6 qt cI cJ S1 S2 S3 S4 S5 S6 T sv (nI k) 5 n hn hn6 hp (by decide) _) (vx_cwSW 3 hts gL_pumpsHold_L_pump rfl rfl rfl (by decide +kernel) ⟨Nat.le_of_ble_eq_true rfl, Nat.le_of_ble_eq_true rfl⟩) ⟨kB_blind, k_pre (a := []) (z := []) (k_w0 _) hK hP hD⟩ rfl rfl hl.1 rfl (lv_room (Nat.le_of_ble_eq_true rfl)) dL_pumpsHold_153 ⟨Nat.zero_le _, Nat.zero_le _⟩) (k_w0 _) (k_w0 _) rfl hP hD hS hA (fun H locs hP hD hS => ?_)
              rw [show p_fact S2 (nI k) 5 = S2.2.2.1 7 k from pf_5 hp (by omega)]
              refine lv_icmp_gt (tgt := 197) hx hb dL_pumpsHold_156 (by decide) (fun c_156_27 => ?_) (fun c_156_27 => ?_)
              · have c_156_27 : (S2.2.2.1 7 k) < (S2.2.2.1 9 k) := c_156_27
                exact absurd c_156_27 ((hF.1 k hkl_25).2.1) -- done
              · have c_156_27 : ¬ (S2.2.2.1 7 k) < (S2.2.2.1 9 k) := c_156_27
                refine lv_aload_n hx hb dL_pumpsHold_159 rfl (lv_at hl 5 rfl) ?_
                refine lv_bipush (v := 11) hx hb dL_pumpsHold_160 (by decide) ?_
                refine k_calli (a := []) (z := []) (wc := (poC o q1 q2 q3 q4 q5 q6 qt sv ++ (stW q1 cI cJ S1 ++ (stW q2 cI cJ S2 ++ (stW q3 cI cJ S3 ++ (stW q4 cI cJ S4 ++ (stW q5 cI cJ S5 ++ (stW q6 cI cJ S6 ++ (txW qt cI T))))))))) (wc' := (poC o q1 q2 q3 q4 q5 q6 qt sv ++ (stW q1 cI cJ S1 ++ (stW q2 cI cJ S2 ++ (stW q3 cI cJ S3 ++ (stW q4 cI cJ S4 ++ (stW q5 cI cJ S5 ++ (stW q6 cI cJ S6 ++ (txW qt cI T))))))))) (w' := (poC o q1 q2 q3 q4 q5 q6 qt sv ++ (stW q1 cI cJ S1 ++ (stW q2 cI cJ S2 ++ (stW q3 cI cJ S3 ++ (stW q4 cI cJ S4 ++ (stW q5 cI cJ S5 ++ (stW q6 cI cJ S6 ++ (txW qt cI T))))))))) (vx_runSW (As := [.ref o, .int 11]) (rest := []) ⟨hx, hb, hml, hown, hts⟩ (m_L_value l D o q1 q2 q3 q4 q5 q6 qt cI cJ S1 S2 S3 S4 S5 S6 T sv 11 n hn hn6 (by decide) _) (vx_cwSW 2 hts gL_pumpsHold_L_value rfl rfl rfl (by decide +kernel) ⟨Nat.le_of_ble_eq_true rfl, Nat.le_of_ble_eq_true rfl⟩) ⟨kB_blind, k_pre (a := []) (z := []) (k_w0 _) hK hP hD⟩ rfl rfl hl.1 rfl (lv_room (Nat.le_of_ble_eq_true rfl)) dL_pumpsHold_162 ⟨Nat.zero_le _, Nat.zero_le _⟩) (k_w0 _) (k_w0 _) rfl hP hD hS hA (fun H locs hP hD hS => ?_)
                rw [show s_num S2 n 11 = p_lead S2 n from sn_11 S2 n]
                refine lv_iload hx hb dL_pumpsHold_165 (lv_at hl 8 rfl) ?_
                refine lv_icmp_ne (tgt := 174) hx hb dL_pumpsHold_167 (by decide) (fun c_167_28 => ?_) (fun c_167_28 => ?_)
                · have c_167_28 : ¬ (p_lead S2 n) = (nI k) := c_167_28
                  have hq0 : ¬ S2.2.2.1 5 k = 0 := fun z9 => c_167_28 ((hF.1 k hkl_25).2.2.mpr z9)
                  refine lv_iconst (v := 0) hx hb dL_pumpsHold_174 (by decide) ?_
                  refine lv_aload_n hx hb dL_pumpsHold_175 rfl (lv_at hl 5 rfl) ?_
                  refine lv_iload hx hb dL_pumpsHold_176 (lv_at hl 8 rfl) ?_
                  refine lv_iconst (v := 3) hx hb dL_pumpsHold_178 (by decide) ?_
                  refine k_calli (a := []) (z := []) (wc := (poC o q1 q2 q3 q4 q5 q6 qt sv ++ (stW q1 cI cJ S1 ++ (stW q2 cI cJ S2 ++ (stW q3 cI cJ S3 ++ (stW q4 cI cJ S4 ++ (stW q5 cI cJ S5 ++ (stW q6 cI cJ S6 ++ (txW qt cI T))))))))) (wc' := (poC o q1 q2 q3 q4 q5 q6 qt sv ++ (stW q1 cI cJ S1 ++ (stW q2 cI cJ S2 ++ (stW q3 cI cJ S3 ++ (stW q4 cI cJ S4 ++ (stW q5 cI cJ S5 ++ (stW q6 cI cJ S6 ++ (txW qt cI T))))))))) (w' := (poC o q1 q2 q3 q4 q5 q6 qt sv ++ (stW q1 cI cJ S1 ++ (stW q2 cI cJ S2 ++ (stW q3 cI cJ S3 ++ (stW q4 cI cJ S4 ++ (stW q5 cI cJ S5 ++ (stW q6 cI cJ S6 ++ (txW qt cI T))))))))) (vx_runSW (As := [.ref o, .int (nI k), .int 3]) (rest := [.int 0]) ⟨hx, hb, hml, hown, hts⟩ (m_L_pump l D o q1 q2 q3 q4 q5 q6 qt cI cJ S1 S2 S3 S4 S5 S6 T sv (nI k) 3 n hn hn6 hp (by decide) _) (vx_cwSW 3 hts gL_pumpsHold_L_pump rfl rfl rfl (by decide +kernel) ⟨Nat.le_of_ble_eq_true rfl, Nat.le_of_ble_eq_true rfl⟩) ⟨kB_blind, k_pre (a := []) (z := []) (k_w0 _) hK hP hD⟩ rfl rfl hl.1 rfl (lv_room (Nat.le_of_ble_eq_true rfl)) dL_pumpsHold_179 ⟨Nat.zero_le _, Nat.zero_le _⟩) (k_w0 _) (k_w0 _) rfl hP hD hS hA (fun H locs hP hD hS => ?_)
                  rw [show p_fact S2 (nI k) 3 = S2.2.2.1 5 k from pf_3 hp (by omega)]
                  refine lv_if_ne (tgt := 189) hx hb dL_pumpsHold_182 (by decide) (fun c_182_29 => ?_) (fun c_182_29 => ?_)
                  · have c_182_29 : ¬ (S2.2.2.1 5 k) = 0 := c_182_29
                    refine lv_iconst (v := 0) hx hb dL_pumpsHold_189 (by decide) ?_
                    refine lv_icmp_ne (tgt := 197) hx hb dL_pumpsHold_190 (by decide) (fun h => absurd h (by decide)) (fun _ => ?_)
                    refine lv_iconst (v := 1) hx hb dL_pumpsHold_193 (by decide) ?_
                    refine lv_goto (tgt := 198) hx hb dL_pumpsHold_194 (by decide) ?_
                    refine lv_istore (lv' := [(8, .int 1), (6, .long (v + (((S2.2.2.1 2 k).toInt64) * ((S2.2.2.1 8 k).toInt64)))), (5, .int (u + (S2.2.2.1 9 k))), (4, .int (z ||| (1 <<< ((S2.2.2.1 5 k) &&& 31)))), (3, .int (y + 0)), (2, .int (x + 1)), (0, .ref o), (1, .int (nI n)), (9, .int (nI k))]) hx hb dL_pumpsHold_198 hl (by decide) rfl (fun ls hl => ?_)
                    refine lv_iinc (v := (nI k) + 1) (lv' := [(9, .int ((nI k) + 1)), (8, .int 1), (6, .long (v + (((S2.2.2.1 2 k).toInt64) * ((S2.2.2.1 8 k).toInt64)))), (5, .int (u + (S2.2.2.1 9 k))), (4, .int (z ||| (1 <<< ((S2.2.2.1 5 k) &&& 31)))), (3, .int (y + 0)), (2, .int (x + 1)), (0, .ref o), (1, .int (nI n))]) hx hb dL_pumpsHold_200 hl (k := 8) rfl rfl (by decide) rfl (fun ls hl => ?_)
                    refine lv_goto (tgt := 25) hx hb dL_pumpsHold_203 (by decide) ?_
                    rw [show ((nI k) + 1) = (nI (k + 1)) from nI_1 _] at hl
                    exact ih_25 (k + 1) (x + 1) (y + 0) (z ||| (1 <<< ((S2.2.2.1 5 k) &&& 31))) (u + (S2.2.2.1 9 k)) (v + (((S2.2.2.1 2 k).toInt64) * ((S2.2.2.1 8 k).toInt64))) (by omega) (by omega) (by rw [itr_s, e25]; simp only [hp_B]; (repeat' split) <;> first | rfl | contradiction) _ _ _ hP hD hS (lv_sub hl [7, 8, 6, 5, 4, 3, 2, 1, 0] rfl)
                  · have c_182_29 : (S2.2.2.1 5 k) = 0 := c_182_29
                    exact absurd c_182_29 hq0
                · have c_167_28 : (p_lead S2 n) = (nI k) := c_167_28
                  have hq0 : S2.2.2.1 5 k = 0 := (hF.1 k hkl_25).2.2.mp c_167_28
                  refine lv_iconst (v := 1) hx hb dL_pumpsHold_170 (by decide) ?_
                  refine lv_goto (tgt := 175) hx hb dL_pumpsHold_171 (by decide) ?_
                  refine lv_aload_n hx hb dL_pumpsHold_175 rfl (lv_at hl 5 rfl) ?_
                  refine lv_iload hx hb dL_pumpsHold_176 (lv_at hl 8 rfl) ?_
                  refine lv_iconst (v := 3) hx hb dL_pumpsHold_178 (by decide) ?_
                  refine k_calli (a := []) (z := []) (wc := (poC o q1 q2 q3 q4 q5 q6 qt sv ++ (stW q1 cI cJ S1 ++ (stW q2 cI cJ S2 ++ (stW q3 cI cJ S3 ++ (stW q4 cI cJ S4 ++ (stW q5 cI cJ S5 ++ (stW q6 cI cJ S6 ++ (txW qt cI T))))))))) (wc' := (poC o q1 q2 q3 q4 q5 q6 qt sv ++ (stW q1 cI cJ S1 ++ (stW q2 cI cJ S2 ++ (stW q3 cI cJ S3 ++ (stW q4 cI cJ S4 ++ (stW q5 cI cJ S5 ++ (stW q6 cI cJ S6 ++ (txW qt cI T))))))))) (w' := (poC o q1 q2 q3 q4 q5 q6 qt sv ++ (stW q1 cI cJ S1 ++ (stW q2 cI cJ S2 ++ (stW q3 cI cJ S3 ++ (stW q4 cI cJ S4 ++ (stW q5 cI cJ S5 ++ (stW q6 cI cJ S6 ++ (txW qt cI T))))))))) (vx_runSW (As := [.ref o, .int (nI k), .int 3]) (rest := [.int 1]) ⟨hx, hb, hml, hown, hts⟩ (m_L_pump l D o q1 q2 q3 q4 q5 q6 qt cI cJ S1 S2 S3 S4 S5 S6 T sv (nI k) 3 n hn hn6 hp (by decide) _) (vx_cwSW 3 hts gL_pumpsHold_L_pump rfl rfl rfl (by decide +kernel) ⟨Nat.le_of_ble_eq_true rfl, Nat.le_of_ble_eq_true rfl⟩) ⟨kB_blind, k_pre (a := []) (z := []) (k_w0 _) hK hP hD⟩ rfl rfl hl.1 rfl (lv_room (Nat.le_of_ble_eq_true rfl)) dL_pumpsHold_179 ⟨Nat.zero_le _, Nat.zero_le _⟩) (k_w0 _) (k_w0 _) rfl hP hD hS hA (fun H locs hP hD hS => ?_)
                  rw [show p_fact S2 (nI k) 3 = S2.2.2.1 5 k from pf_3 hp (by omega)]
                  refine lv_if_ne (tgt := 189) hx hb dL_pumpsHold_182 (by decide) (fun c_182_31 => ?_) (fun c_182_31 => ?_)
                  · have c_182_31 : ¬ (S2.2.2.1 5 k) = 0 := c_182_31
                    exact absurd hq0 c_182_31
                  · have c_182_31 : (S2.2.2.1 5 k) = 0 := c_182_31
                    refine lv_iconst (v := 1) hx hb dL_pumpsHold_185 (by decide) ?_
                    refine lv_goto (tgt := 190) hx hb dL_pumpsHold_186 (by decide) ?_
                    refine lv_icmp_ne (tgt := 197) hx hb dL_pumpsHold_190 (by decide) (fun h => absurd h (by decide)) (fun _ => ?_)
                    refine lv_iconst (v := 1) hx hb dL_pumpsHold_193 (by decide) ?_
                    refine lv_goto (tgt := 198) hx hb dL_pumpsHold_194 (by decide) ?_
                    refine lv_istore (lv' := [(8, .int 1), (6, .long (v + (((S2.2.2.1 2 k).toInt64) * ((S2.2.2.1 8 k).toInt64)))), (5, .int (u + (S2.2.2.1 9 k))), (4, .int (z ||| (1 <<< ((S2.2.2.1 5 k) &&& 31)))), (3, .int (y + 0)), (2, .int (x + 1)), (0, .ref o), (1, .int (nI n)), (9, .int (nI k))]) hx hb dL_pumpsHold_198 hl (by decide) rfl (fun ls hl => ?_)
                    refine lv_iinc (v := (nI k) + 1) (lv' := [(9, .int ((nI k) + 1)), (8, .int 1), (6, .long (v + (((S2.2.2.1 2 k).toInt64) * ((S2.2.2.1 8 k).toInt64)))), (5, .int (u + (S2.2.2.1 9 k))), (4, .int (z ||| (1 <<< ((S2.2.2.1 5 k) &&& 31)))), (3, .int (y + 0)), (2, .int (x + 1)), (0, .ref o), (1, .int (nI n))]) hx hb dL_pumpsHold_200 hl (k := 8) rfl rfl (by decide) rfl (fun ls hl => ?_)
                    refine lv_goto (tgt := 25) hx hb dL_pumpsHold_203 (by decide) ?_
                    rw [show ((nI k) + 1) = (nI (k + 1)) from nI_1 _] at hl
                    exact ih_25 (k + 1) (x + 1) (y + 0) (z ||| (1 <<< ((S2.2.2.1 5 k) &&& 31))) (u + (S2.2.2.1 9 k)) (v + (((S2.2.2.1 2 k).toInt64) * ((S2.2.2.1 8 k).toInt64))) (by omega) (by omega) (by rw [itr_s, e25]; simp only [hp_B]; (repeat' split) <;> first | rfl | contradiction) _ _ _ hP hD hS (lv_sub hl [7, 8, 6, 5, 4, 3, 2, 1, 0] rfl)
          · have c_64_25 : (S2.2.2.1 4 k) = 2 := c_64_25
            refine lv_iconst (v := 1) hx hb dL_pumpsHold_67 (by decide) ?_
            refine lv_goto (tgt := 72) hx hb dL_pumpsHold_68 (by decide) ?_
            refine lv_iadd hx hb dL_pumpsHold_72 ?_
            refine lv_istore_n (lv' := [(3, .int (y + 1)), (2, .int (x + 1)), (0, .ref o), (1, .int (nI n)), (4, .int z), (5, .int u), (6, .long v), (8, .int 1), (9, .int (nI k))]) hx hb dL_pumpsHold_73 rfl hl (by decide) rfl (fun ls hl => ?_)
            refine lv_iload hx hb dL_pumpsHold_74 (lv_at hl 4 rfl) ?_
            refine lv_iconst (v := 1) hx hb dL_pumpsHold_76 (by decide) ?_
            refine lv_aload_n hx hb dL_pumpsHold_77 rfl (lv_at hl 2 rfl) ?_
            refine lv_iload hx hb dL_pumpsHold_78 (lv_at hl 8 rfl) ?_
            refine lv_iconst (v := 3) hx hb dL_pumpsHold_80 (by decide) ?_
            refine k_calli (a := []) (z := []) (wc := (poC o q1 q2 q3 q4 q5 q6 qt sv ++ (stW q1 cI cJ S1 ++ (stW q2 cI cJ S2 ++ (stW q3 cI cJ S3 ++ (stW q4 cI cJ S4 ++ (stW q5 cI cJ S5 ++ (stW q6 cI cJ S6 ++ (txW qt cI T))))))))) (wc' := (poC o q1 q2 q3 q4 q5 q6 qt sv ++ (stW q1 cI cJ S1 ++ (stW q2 cI cJ S2 ++ (stW q3 cI cJ S3 ++ (stW q4 cI cJ S4 ++ (stW q5 cI cJ S5 ++ (stW q6 cI cJ S6 ++ (txW qt cI T))))))))) (w' := (poC o q1 q2 q3 q4 q5 q6 qt sv ++ (stW q1 cI cJ S1 ++ (stW q2 cI cJ S2 ++ (stW q3 cI cJ S3 ++ (stW q4 cI cJ S4 ++ (stW q5 cI cJ S5 ++ (stW q6 cI cJ S6 ++ (txW qt cI T))))))))) (vx_runSW (As := [.ref o, .int (nI k), .int 3]) (rest := [.int 1, .int z]) ⟨hx, hb, hml, hown, hts⟩ (m_L_pump l D o q1 q2 q3 q4 q5 q6 qt cI cJ S1 S2 S3 S4 S5 S6 T sv (nI k) 3 n hn hn6 hp (by decide) _) (vx_cwSW 3 hts gL_pumpsHold_L_pump rfl rfl rfl (by decide +kernel) ⟨Nat.le_of_ble_eq_true rfl, Nat.le_of_ble_eq_true rfl⟩) ⟨kB_blind, k_pre (a := []) (z := []) (k_w0 _) hK hP hD⟩ rfl rfl hl.1 rfl (lv_room (Nat.le_of_ble_eq_true rfl)) dL_pumpsHold_81 ⟨Nat.zero_le _, Nat.zero_le _⟩) (k_w0 _) (k_w0 _) rfl hP hD hS hA (fun H locs hP hD hS => ?_)
            rw [show p_fact S2 (nI k) 3 = S2.2.2.1 5 k from pf_3 hp (by omega)]
            refine lv_ishl hx hb dL_pumpsHold_84 ?_
            refine lv_ior hx hb dL_pumpsHold_85 ?_
            refine lv_istore (lv' := [(4, .int (z ||| (1 <<< ((S2.2.2.1 5 k) &&& 31)))), (3, .int (y + 1)), (2, .int (x + 1)), (0, .ref o), (1, .int (nI n)), (5, .int u), (6, .long v), (8, .int 1), (9, .int (nI k))]) hx hb dL_pumpsHold_86 hl (by decide) rfl (fun ls hl => ?_)
            refine lv_iload hx hb dL_pumpsHold_88 (lv_at hl 5 rfl) ?_
            refine lv_aload_n hx hb dL_pumpsHold_90 rfl (lv_at hl 3 rfl) ?_
            refine lv_iload hx hb dL_pumpsHold_91 (lv_at hl 8 rfl) ?_
            refine lv_bipush (v := 7) hx hb dL_pumpsHold_93 (by decide) ?_
            refine k_calli (a := []) (z := []) (wc := (poC o q1 q2 q3 q4 q5 q6 qt sv ++ (stW q1 cI cJ S1 ++ (stW q2 cI cJ S2 ++ (stW q3 cI cJ S3 ++ (stW q4 cI cJ S4 ++ (stW q5 cI cJ S5 ++ (stW q6 cI cJ S6 ++ (txW qt cI T))))))))) (wc' := (poC o q1 q2 q3 q4 q5 q6 qt sv ++ (stW q1 cI cJ S1 ++ (stW q2 cI cJ S2 ++ (stW q3 cI cJ S3 ++ (stW q4 cI cJ S4 ++ (stW q5 cI cJ S5 ++ (stW q6 cI cJ S6 ++ (txW qt cI T))))))))) (w' := (poC o q1 q2 q3 q4 q5 q6 qt sv ++ (stW q1 cI cJ S1 ++ (stW q2 cI cJ S2 ++ (stW q3 cI cJ S3 ++ (stW q4 cI cJ S4 ++ (stW q5 cI cJ S5 ++ (stW q6 cI cJ S6 ++ (txW qt cI T))))))))) (vx_runSW (As := [.ref o, .int (nI k), .int 7]) (rest := [.int u]) ⟨hx, hb, hml, hown, hts⟩ (m_L_pump l D o q1 q2 q3 q4 q5 q6 qt cI cJ S1 S2 S3 S4 S5 S6 T sv (nI k) 7 n hn hn6 hp (by decide) _) (vx_cwSW 3 hts gL_pumpsHold_L_pump rfl rfl rfl (by decide +kernel) ⟨Nat.le_of_ble_eq_true rfl, Nat.le_of_ble_eq_true rfl⟩) ⟨kB_blind, k_pre (a := []) (z := []) (k_w0 _) hK hP hD⟩ rfl rfl hl.1 rfl (lv_room (Nat.le_of_ble_eq_true rfl)) dL_pumpsHold_95 ⟨Nat.zero_le _, Nat.zero_le _⟩) (k_w0 _) (k_w0 _) rfl hP hD hS hA (fun H locs hP hD hS => ?_)
            rw [show p_fact S2 (nI k) 7 = S2.2.2.1 9 k from pf_7 hp (by omega)]
            refine lv_iadd hx hb dL_pumpsHold_98 ?_
            refine lv_istore (lv' := [(5, .int (u + (S2.2.2.1 9 k))), (4, .int (z ||| (1 <<< ((S2.2.2.1 5 k) &&& 31)))), (3, .int (y + 1)), (2, .int (x + 1)), (0, .ref o), (1, .int (nI n)), (6, .long v), (8, .int 1), (9, .int (nI k))]) hx hb dL_pumpsHold_99 hl (by decide) rfl (fun ls hl => ?_)
            refine lv_lload hx hb dL_pumpsHold_101 (lv_at hl 6 rfl) ?_
            refine lv_aload_n hx hb dL_pumpsHold_103 rfl (lv_at hl 4 rfl) ?_
            refine lv_iload hx hb dL_pumpsHold_104 (lv_at hl 8 rfl) ?_
            refine lv_iconst (v := 0) hx hb dL_pumpsHold_106 (by decide) ?_
            refine k_calli (a := []) (z := []) (wc := (poC o q1 q2 q3 q4 q5 q6 qt sv ++ (stW q1 cI cJ S1 ++ (stW q2 cI cJ S2 ++ (stW q3 cI cJ S3 ++ (stW q4 cI cJ S4 ++ (stW q5 cI cJ S5 ++ (stW q6 cI cJ S6 ++ (txW qt cI T))))))))) (wc' := (poC o q1 q2 q3 q4 q5 q6 qt sv ++ (stW q1 cI cJ S1 ++ (stW q2 cI cJ S2 ++ (stW q3 cI cJ S3 ++ (stW q4 cI cJ S4 ++ (stW q5 cI cJ S5 ++ (stW q6 cI cJ S6 ++ (txW qt cI T))))))))) (w' := (poC o q1 q2 q3 q4 q5 q6 qt sv ++ (stW q1 cI cJ S1 ++ (stW q2 cI cJ S2 ++ (stW q3 cI cJ S3 ++ (stW q4 cI cJ S4 ++ (stW q5 cI cJ S5 ++ (stW q6 cI cJ S6 ++ (txW qt cI T))))))))) (vx_runSW (As := [.ref o, .int (nI k), .int 0]) (rest := [.long v]) ⟨hx, hb, hml, hown, hts⟩ (m_L_pump l D o q1 q2 q3 q4 q5 q6 qt cI cJ S1 S2 S3 S4 S5 S6 T sv (nI k) 0 n hn hn6 hp (by decide) _) (vx_cwSW 3 hts gL_pumpsHold_L_pump rfl rfl rfl (by decide +kernel) ⟨Nat.le_of_ble_eq_true rfl, Nat.le_of_ble_eq_true rfl⟩) ⟨kB_blind, k_pre (a := []) (z := []) (k_w0 _) hK hP hD⟩ rfl rfl hl.1 rfl (lv_room (Nat.le_of_ble_eq_true rfl)) dL_pumpsHold_107 ⟨Nat.zero_le _, Nat.zero_le _⟩) (k_w0 _) (k_w0 _) rfl hP hD hS hA (fun H locs hP hD hS => ?_)
            rw [show p_fact S2 (nI k) 0 = S2.2.2.1 2 k from pf_0 hp (by omega)]
            refine lv_i2l hx hb dL_pumpsHold_110 rfl ?_
            refine lv_aload_n hx hb dL_pumpsHold_111 rfl (lv_at hl 4 rfl) ?_
            refine lv_iload hx hb dL_pumpsHold_112 (lv_at hl 8 rfl) ?_
            refine lv_bipush (v := 6) hx hb dL_pumpsHold_114 (by decide) ?_
            refine k_calli (a := []) (z := []) (wc := (poC o q1 q2 q3 q4 q5 q6 qt sv ++ (stW q1 cI cJ S1 ++ (stW q2 cI cJ S2 ++ (stW q3 cI cJ S3 ++ (stW q4 cI cJ S4 ++ (stW q5 cI cJ S5 ++ (stW q6 cI cJ S6 ++ (txW qt cI T))))))))) (wc' := (poC o q1 q2 q3 q4 q5 q6 qt sv ++ (stW q1 cI cJ S1 ++ (stW q2 cI cJ S2 ++ (stW q3 cI cJ S3 ++ (stW q4 cI cJ S4 ++ (stW q5 cI cJ S5 ++ (stW q6 cI cJ S6 ++ (txW qt cI T))))))))) (w' := (poC o q1 q2 q3 q4 q5 q6 qt sv ++ (stW q1 cI cJ S1 ++ (stW q2 cI cJ S2 ++ (stW q3 cI cJ S3 ++ (stW q4 cI cJ S4 ++ (stW q5 cI cJ S5 ++ (stW q6 cI cJ S6 ++ (txW qt cI T))))))))) (vx_runSW (As := [.ref o, .int (nI k), .int 6]) (rest := [.long ((S2.2.2.1 2 k).toInt64), .long v]) ⟨hx, hb, hml, hown, hts⟩ (m_L_pump l D o q1 q2 q3 q4 q5 q6 qt cI cJ S1 S2 S3 S4 S5 S6 T sv (nI k) 6 n hn hn6 hp (by decide) _) (vx_cwSW 3 hts gL_pumpsHold_L_pump rfl rfl rfl (by decide +kernel) ⟨Nat.le_of_ble_eq_true rfl, Nat.le_of_ble_eq_true rfl⟩) ⟨kB_blind, k_pre (a := []) (z := []) (k_w0 _) hK hP hD⟩ rfl rfl hl.1 rfl (lv_room (Nat.le_of_ble_eq_true rfl)) dL_pumpsHold_116 ⟨Nat.zero_le _, Nat.zero_le _⟩) (k_w0 _) (k_w0 _) rfl hP hD hS hA (fun H locs hP hD hS => ?_)
            rw [show p_fact S2 (nI k) 6 = S2.2.2.1 8 k from pf_6 hp (by omega)]
            refine lv_i2l hx hb dL_pumpsHold_119 rfl ?_
            refine lv_lmul hx hb dL_pumpsHold_120 ?_
            refine lv_ladd hx hb dL_pumpsHold_121 ?_
            refine lv_lstore (lv' := [(6, .long (v + (((S2.2.2.1 2 k).toInt64) * ((S2.2.2.1 8 k).toInt64)))), (5, .int (u + (S2.2.2.1 9 k))), (4, .int (z ||| (1 <<< ((S2.2.2.1 5 k) &&& 31)))), (3, .int (y + 1)), (2, .int (x + 1)), (0, .ref o), (1, .int (nI n)), (8, .int 1), (9, .int (nI k))]) hx hb dL_pumpsHold_122 hl (by decide) rfl (fun ls hl => ?_)
            refine lv_aload_n hx hb dL_pumpsHold_124 rfl (lv_at hl 5 rfl) ?_
            refine lv_iload hx hb dL_pumpsHold_125 (lv_at hl 8 rfl) ?_
            refine lv_iconst (v := 4) hx hb dL_pumpsHold_127 (by decide) ?_
            refine k_calli (a := []) (z := []) (wc := (poC o q1 q2 q3 q4 q5 q6 qt sv ++ (stW q1 cI cJ S1 ++ (stW q2 cI cJ S2 ++ (stW q3 cI cJ S3 ++ (stW q4 cI cJ S4 ++ (stW q5 cI cJ S5 ++ (stW q6 cI cJ S6 ++ (txW qt cI T))))))))) (wc' := (poC o q1 q2 q3 q4 q5 q6 qt sv ++ (stW q1 cI cJ S1 ++ (stW q2 cI cJ S2 ++ (stW q3 cI cJ S3 ++ (stW q4 cI cJ S4 ++ (stW q5 cI cJ S5 ++ (stW q6 cI cJ S6 ++ (txW qt cI T))))))))) (w' := (poC o q1 q2 q3 q4 q5 q6 qt sv ++ (stW q1 cI cJ S1 ++ (stW q2 cI cJ S2 ++ (stW q3 cI cJ S3 ++ (stW q4 cI cJ S4 ++ (stW q5 cI cJ S5 ++ (stW q6 cI cJ S6 ++ (txW qt cI T))))))))) (vx_runSW (As := [.ref o, .int (nI k), .int 4]) (rest := []) ⟨hx, hb, hml, hown, hts⟩ (m_L_pump l D o q1 q2 q3 q4 q5 q6 qt cI cJ S1 S2 S3 S4 S5 S6 T sv (nI k) 4 n hn hn6 hp (by decide) _) (vx_cwSW 3 hts gL_pumpsHold_L_pump rfl rfl rfl (by decide +kernel) ⟨Nat.le_of_ble_eq_true rfl, Nat.le_of_ble_eq_true rfl⟩) ⟨kB_blind, k_pre (a := []) (z := []) (k_w0 _) hK hP hD⟩ rfl rfl hl.1 rfl (lv_room (Nat.le_of_ble_eq_true rfl)) dL_pumpsHold_128 ⟨Nat.zero_le _, Nat.zero_le _⟩) (k_w0 _) (k_w0 _) rfl hP hD hS hA (fun H locs hP hD hS => ?_)
            rw [show p_fact S2 (nI k) 4 = S2.2.2.1 6 k from pf_4 hp (by omega)]
            refine lv_aload_n hx hb dL_pumpsHold_131 rfl (lv_at hl 5 rfl) ?_
            refine lv_iload hx hb dL_pumpsHold_132 (lv_at hl 8 rfl) ?_
            refine lv_iconst (v := 5) hx hb dL_pumpsHold_134 (by decide) ?_
            refine k_calli (a := []) (z := []) (wc := (poC o q1 q2 q3 q4 q5 q6 qt sv ++ (stW q1 cI cJ S1 ++ (stW q2 cI cJ S2 ++ (stW q3 cI cJ S3 ++ (stW q4 cI cJ S4 ++ (stW q5 cI cJ S5 ++ (stW q6 cI cJ S6 ++ (txW qt cI T))))))))) (wc' := (poC o q1 q2 q3 q4 q5 q6 qt sv ++ (stW q1 cI cJ S1 ++ (stW q2 cI cJ S2 ++ (stW q3 cI cJ S3 ++ (stW q4 cI cJ S4 ++ (stW q5 cI cJ S5 ++ (stW q6 cI cJ S6 ++ (txW qt cI T))))))))) (w' := (poC o q1 q2 q3 q4 q5 q6 qt sv ++ (stW q1 cI cJ S1 ++ (stW q2 cI cJ S2 ++ (stW q3 cI cJ S3 ++ (stW q4 cI cJ S4 ++ (stW q5 cI cJ S5 ++ (stW q6 cI cJ S6 ++ (txW qt cI T))))))))) (vx_runSW (As := [.ref o, .int (nI k), .int 5]) (rest := [.int (S2.2.2.1 6 k)]) ⟨hx, hb, hml, hown, hts⟩ (m_L_pump l D o q1 q2 q3 q4 q5 q6 qt cI cJ S1 S2 S3 S4 S5 S6 T sv (nI k) 5 n hn hn6 hp (by decide) _) (vx_cwSW 3 hts gL_pumpsHold_L_pump rfl rfl rfl (by decide +kernel) ⟨Nat.le_of_ble_eq_true rfl, Nat.le_of_ble_eq_true rfl⟩) ⟨kB_blind, k_pre (a := []) (z := []) (k_w0 _) hK hP hD⟩ rfl rfl hl.1 rfl (lv_room (Nat.le_of_ble_eq_true rfl)) dL_pumpsHold_135 ⟨Nat.zero_le _, Nat.zero_le _⟩) (k_w0 _) (k_w0 _) rfl hP hD hS hA (fun H locs hP hD hS => ?_)
            rw [show p_fact S2 (nI k) 5 = S2.2.2.1 7 k from pf_5 hp (by omega)]
            refine lv_icmp_gt (tgt := 197) hx hb dL_pumpsHold_138 (by decide) (fun c_138_33 => ?_) (fun c_138_33 => ?_)
            · have c_138_33 : (S2.2.2.1 7 k) < (S2.2.2.1 6 k) := c_138_33
              exact absurd c_138_33 ((hF.1 k hkl_25).1) -- done
            · have c_138_33 : ¬ (S2.2.2.1 7 k) < (S2.2.2.1 6 k) := c_138_33
              refine lv_aload_n hx hb dL_pumpsHold_141 rfl (lv_at hl 5 rfl) ?_
              refine lv_iload hx hb dL_pumpsHold_142 (lv_at hl 8 rfl) ?_
              refine lv_bipush (v := 7) hx hb dL_pumpsHold_144 (by decide) ?_
              refine k_calli (a := []) (z := []) (wc := (poC o q1 q2 q3 q4 q5 q6 qt sv ++ (stW q1 cI cJ S1 ++ (stW q2 cI cJ S2 ++ (stW q3 cI cJ S3 ++ (stW q4 cI cJ S4 ++ (stW q5 cI cJ S5 ++ (stW q6 cI cJ S6 ++ (txW qt cI T))))))))) (wc' := (poC o q1 q2 q3 q4 q5 q6 qt sv ++ (stW q1 cI cJ S1 ++ (stW q2 cI cJ S2 ++ (stW q3 cI cJ S3 ++ (stW q4 cI cJ S4 ++ (stW q5 cI cJ S5 ++ (stW q6 cI cJ S6 ++ (txW qt cI T))))))))) (w' := (poC o q1 q2 q3 q4 q5 q6 qt sv ++ (stW q1 cI cJ S1 ++ (stW q2 cI cJ S2 ++ (stW q3 cI cJ S3 ++ (stW q4 cI cJ S4 ++ (stW q5 cI cJ S5 ++ (stW q6 cI cJ S6 ++ (txW qt cI T))))))))) (vx_runSW (As := [.ref o, .int (nI k), .int 7]) (rest := []) ⟨hx, hb, hml, hown, hts⟩ (m_L_pump l D o q1 q2 q3 q4 q5 q6 qt cI cJ S1 S2 S3 S4 S5 S6 T sv (nI k) 7 n hn hn6 hp (by decide) _) (vx_cwSW 3 hts gL_pumpsHold_L_pump rfl rfl rfl (by decide +kernel) ⟨Nat.le_of_ble_eq_true rfl, Nat.le_of_ble_eq_true rfl⟩) ⟨kB_blind, k_pre (a := []) (z := []) (k_w0 _) hK hP hD⟩ rfl rfl hl.1 rfl (lv_room (Nat.le_of_ble_eq_true rfl)) dL_pumpsHold_146 ⟨Nat.zero_le _, Nat.zero_le _⟩) (k_w0 _) (k_w0 _) rfl hP hD hS hA (fun H locs hP hD hS => ?_)
              rw [show p_fact S2 (nI k) 7 = S2.2.2.1 9 k from pf_7 hp (by omega)]
              refine lv_aload_n hx hb dL_pumpsHold_149 rfl (lv_at hl 5 rfl) ?_
              refine lv_iload hx hb dL_pumpsHold_150 (lv_at hl 8 rfl) ?_
              refine lv_iconst (v := 5) hx hb dL_pumpsHold_152 (by decide) ?_
              refine k_calli (a := []) (z := []) (wc := (poC o q1 q2 q3 q4 q5 q6 qt sv ++ (stW q1 cI cJ S1 ++ (stW q2 cI cJ S2 ++ (stW q3 cI cJ S3 ++ (stW q4 cI cJ S4 ++ (stW q5 cI cJ S5 ++ (stW q6 cI cJ S6 ++ (txW qt cI T))))))))) (wc' := (poC o q1 q2 q3 q4 q5 q6 qt sv ++ (stW q1 cI cJ S1 ++ (stW q2 cI cJ S2 ++ (stW q3 cI cJ S3 ++ (stW q4 cI cJ S4 ++ (stW q5 cI cJ S5 ++ (stW q6 cI cJ S6 ++ (txW qt cI T))))))))) (w' := (poC o q1 q2 q3 q4 q5 q6 qt sv ++ (stW q1 cI cJ S1 ++ (stW q2 cI cJ S2 ++ (stW q3 cI cJ S3 ++ (stW q4 cI cJ S4 ++ (stW q5 cI cJ S5 ++ (stW q6 cI cJ S6 ++ (txW qt cI T))))))))) (vx_runSW (As := [.ref o, .int (nI k), .int 5]) (rest := [.int (S2.2.2.1 9 k)]) ⟨hx, hb, hml, hown, hts⟩ (m_L_pump l D o q1 q2 q3 q4 q5 q6 qt cI cJ S1 S2 S3 S4 S5 S6 T sv (nI k) 5 n hn hn6 hp (by decide) _) (vx_cwSW 3 hts gL_pumpsHold_L_pump rfl rfl rfl (by decide +kernel) ⟨Nat.le_of_ble_eq_true rfl, Nat.le_of_ble_eq_true rfl⟩) ⟨kB_blind, k_pre (a := []) (z := []) (k_w0 _) hK hP hD⟩ rfl rfl hl.1 rfl (lv_room (Nat.le_of_ble_eq_true rfl)) dL_pumpsHold_153 ⟨Nat.zero_le _, Nat.zero_le _⟩) (k_w0 _) (k_w0 _) rfl hP hD hS hA (fun H locs hP hD hS => ?_)
              rw [show p_fact S2 (nI k) 5 = S2.2.2.1 7 k from pf_5 hp (by omega)]
              refine lv_icmp_gt (tgt := 197) hx hb dL_pumpsHold_156 (by decide) (fun c_156_34 => ?_) (fun c_156_34 => ?_)
              · have c_156_34 : (S2.2.2.1 7 k) < (S2.2.2.1 9 k) := c_156_34
                exact absurd c_156_34 ((hF.1 k hkl_25).2.1) -- done
              · have c_156_34 : ¬ (S2.2.2.1 7 k) < (S2.2.2.1 9 k) := c_156_34
                refine lv_aload_n hx hb dL_pumpsHold_159 rfl (lv_at hl 5 rfl) ?_
                refine lv_bipush (v := 11) hx hb dL_pumpsHold_160 (by decide) ?_
                refine k_calli (a := []) (z := []) (wc := (poC o q1 q2 q3 q4 q5 q6 qt sv ++ (stW q1 cI cJ S1 ++ (stW q2 cI cJ S2 ++ (stW q3 cI cJ S3 ++ (stW q4 cI cJ S4 ++ (stW q5 cI cJ S5 ++ (stW q6 cI cJ S6 ++ (txW qt cI T))))))))) (wc' := (poC o q1 q2 q3 q4 q5 q6 qt sv ++ (stW q1 cI cJ S1 ++ (stW q2 cI cJ S2 ++ (stW q3 cI cJ S3 ++ (stW q4 cI cJ S4 ++ (stW q5 cI cJ S5 ++ (stW q6 cI cJ S6 ++ (txW qt cI T))))))))) (w' := (poC o q1 q2 q3 q4 q5 q6 qt sv ++ (stW q1 cI cJ S1 ++ (stW q2 cI cJ S2 ++ (stW q3 cI cJ S3 ++ (stW q4 cI cJ S4 ++ (stW q5 cI cJ S5 ++ (stW q6 cI cJ S6 ++ (txW qt cI T))))))))) (vx_runSW (As := [.ref o, .int 11]) (rest := []) ⟨hx, hb, hml, hown, hts⟩ (m_L_value l D o q1 q2 q3 q4 q5 q6 qt cI cJ S1 S2 S3 S4 S5 S6 T sv 11 n hn hn6 (by decide) _) (vx_cwSW 2 hts gL_pumpsHold_L_value rfl rfl rfl (by decide +kernel) ⟨Nat.le_of_ble_eq_true rfl, Nat.le_of_ble_eq_true rfl⟩) ⟨kB_blind, k_pre (a := []) (z := []) (k_w0 _) hK hP hD⟩ rfl rfl hl.1 rfl (lv_room (Nat.le_of_ble_eq_true rfl)) dL_pumpsHold_162 ⟨Nat.zero_le _, Nat.zero_le _⟩) (k_w0 _) (k_w0 _) rfl hP hD hS hA (fun H locs hP hD hS => ?_)
                rw [show s_num S2 n 11 = p_lead S2 n from sn_11 S2 n]
                refine lv_iload hx hb dL_pumpsHold_165 (lv_at hl 8 rfl) ?_
                refine lv_icmp_ne (tgt := 174) hx hb dL_pumpsHold_167 (by decide) (fun c_167_35 => ?_) (fun c_167_35 => ?_)
                · have c_167_35 : ¬ (p_lead S2 n) = (nI k) := c_167_35
                  have hq0 : ¬ S2.2.2.1 5 k = 0 := fun z9 => c_167_35 ((hF.1 k hkl_25).2.2.mpr z9)
                  refine lv_iconst (v := 0) hx hb dL_pumpsHold_174 (by decide) ?_
                  refine lv_aload_n hx hb dL_pumpsHold_175 rfl (lv_at hl 5 rfl) ?_
                  refine lv_iload hx hb dL_pumpsHold_176 (lv_at hl 8 rfl) ?_
                  refine lv_iconst (v := 3) hx hb dL_pumpsHold_178 (by decide) ?_
                  refine k_calli (a := []) (z := []) (wc := (poC o q1 q2 q3 q4 q5 q6 qt sv ++ (stW q1 cI cJ S1 ++ (stW q2 cI cJ S2 ++ (stW q3 cI cJ S3 ++ (stW q4 cI cJ S4 ++ (stW q5 cI cJ S5 ++ (stW q6 cI cJ S6 ++ (txW qt cI T))))))))) (wc' := (poC o q1 q2 q3 q4 q5 q6 qt sv ++ (stW q1 cI cJ S1 ++ (stW q2 cI cJ S2 ++ (stW q3 cI cJ S3 ++ (stW q4 cI cJ S4 ++ (stW q5 cI cJ S5 ++ (stW q6 cI cJ S6 ++ (txW qt cI T))))))))) (w' := (poC o q1 q2 q3 q4 q5 q6 qt sv ++ (stW q1 cI cJ S1 ++ (stW q2 cI cJ S2 ++ (stW q3 cI cJ S3 ++ (stW q4 cI cJ S4 ++ (stW q5 cI cJ S5 ++ (stW q6 cI cJ S6 ++ (txW qt cI T))))))))) (vx_runSW (As := [.ref o, .int (nI k), .int 3]) (rest := [.int 0]) ⟨hx, hb, hml, hown, hts⟩ (m_L_pump l D o q1 q2 q3 q4 q5 q6 qt cI cJ S1 S2 S3 S4 S5 S6 T sv (nI k) 3 n hn hn6 hp (by decide) _) (vx_cwSW 3 hts gL_pumpsHold_L_pump rfl rfl rfl (by decide +kernel) ⟨Nat.le_of_ble_eq_true rfl, Nat.le_of_ble_eq_true rfl⟩) ⟨kB_blind, k_pre (a := []) (z := []) (k_w0 _) hK hP hD⟩ rfl rfl hl.1 rfl (lv_room (Nat.le_of_ble_eq_true rfl)) dL_pumpsHold_179 ⟨Nat.zero_le _, Nat.zero_le _⟩) (k_w0 _) (k_w0 _) rfl hP hD hS hA (fun H locs hP hD hS => ?_)
                  rw [show p_fact S2 (nI k) 3 = S2.2.2.1 5 k from pf_3 hp (by omega)]
                  refine lv_if_ne (tgt := 189) hx hb dL_pumpsHold_182 (by decide) (fun c_182_36 => ?_) (fun c_182_36 => ?_)
                  · have c_182_36 : ¬ (S2.2.2.1 5 k) = 0 := c_182_36
                    refine lv_iconst (v := 0) hx hb dL_pumpsHold_189 (by decide) ?_
                    refine lv_icmp_ne (tgt := 197) hx hb dL_pumpsHold_190 (by decide) (fun h => absurd h (by decide)) (fun _ => ?_)
                    refine lv_iconst (v := 1) hx hb dL_pumpsHold_193 (by decide) ?_
                    refine lv_goto (tgt := 198) hx hb dL_pumpsHold_194 (by decide) ?_
                    refine lv_istore (lv' := [(8, .int 1), (6, .long (v + (((S2.2.2.1 2 k).toInt64) * ((S2.2.2.1 8 k).toInt64)))), (5, .int (u + (S2.2.2.1 9 k))), (4, .int (z ||| (1 <<< ((S2.2.2.1 5 k) &&& 31)))), (3, .int (y + 1)), (2, .int (x + 1)), (0, .ref o), (1, .int (nI n)), (9, .int (nI k))]) hx hb dL_pumpsHold_198 hl (by decide) rfl (fun ls hl => ?_)
                    refine lv_iinc (v := (nI k) + 1) (lv' := [(9, .int ((nI k) + 1)), (8, .int 1), (6, .long (v + (((S2.2.2.1 2 k).toInt64) * ((S2.2.2.1 8 k).toInt64)))), (5, .int (u + (S2.2.2.1 9 k))), (4, .int (z ||| (1 <<< ((S2.2.2.1 5 k) &&& 31)))), (3, .int (y + 1)), (2, .int (x + 1)), (0, .ref o), (1, .int (nI n))]) hx hb dL_pumpsHold_200 hl (k := 8) rfl rfl (by decide) rfl (fun ls hl => ?_)
                    refine lv_goto (tgt := 25) hx hb dL_pumpsHold_203 (by decide) ?_
                    rw [show ((nI k) + 1) = (nI (k + 1)) from nI_1 _] at hl
                    exact ih_25 (k + 1) (x + 1) (y + 1) (z ||| (1 <<< ((S2.2.2.1 5 k) &&& 31))) (u + (S2.2.2.1 9 k)) (v + (((S2.2.2.1 2 k).toInt64) * ((S2.2.2.1 8 k).toInt64))) (by omega) (by omega) (by rw [itr_s, e25]; simp only [hp_B]; (repeat' split) <;> first | rfl | contradiction) _ _ _ hP hD hS (lv_sub hl [7, 8, 6, 5, 4, 3, 2, 1, 0] rfl)
                  · have c_182_36 : (S2.2.2.1 5 k) = 0 := c_182_36
                    exact absurd c_182_36 hq0
                · have c_167_35 : (p_lead S2 n) = (nI k) := c_167_35
                  have hq0 : S2.2.2.1 5 k = 0 := (hF.1 k hkl_25).2.2.mp c_167_35
                  refine lv_iconst (v := 1) hx hb dL_pumpsHold_170 (by decide) ?_
                  refine lv_goto (tgt := 175) hx hb dL_pumpsHold_171 (by decide) ?_
                  refine lv_aload_n hx hb dL_pumpsHold_175 rfl (lv_at hl 5 rfl) ?_
                  refine lv_iload hx hb dL_pumpsHold_176 (lv_at hl 8 rfl) ?_
                  refine lv_iconst (v := 3) hx hb dL_pumpsHold_178 (by decide) ?_
                  refine k_calli (a := []) (z := []) (wc := (poC o q1 q2 q3 q4 q5 q6 qt sv ++ (stW q1 cI cJ S1 ++ (stW q2 cI cJ S2 ++ (stW q3 cI cJ S3 ++ (stW q4 cI cJ S4 ++ (stW q5 cI cJ S5 ++ (stW q6 cI cJ S6 ++ (txW qt cI T))))))))) (wc' := (poC o q1 q2 q3 q4 q5 q6 qt sv ++ (stW q1 cI cJ S1 ++ (stW q2 cI cJ S2 ++ (stW q3 cI cJ S3 ++ (stW q4 cI cJ S4 ++ (stW q5 cI cJ S5 ++ (stW q6 cI cJ S6 ++ (txW qt cI T))))))))) (w' := (poC o q1 q2 q3 q4 q5 q6 qt sv ++ (stW q1 cI cJ S1 ++ (stW q2 cI cJ S2 ++ (stW q3 cI cJ S3 ++ (stW q4 cI cJ S4 ++ (stW q5 cI cJ S5 ++ (stW q6 cI cJ S6 ++ (txW qt cI T))))))))) (vx_runSW (As := [.ref o, .int (nI k), .int 3]) (rest := [.int 1]) ⟨hx, hb, hml, hown, hts⟩ (m_L_pump l D o q1 q2 q3 q4 q5 q6 qt cI cJ S1 S2 S3 S4 S5 S6 T sv (nI k) 3 n hn hn6 hp (by decide) _) (vx_cwSW 3 hts gL_pumpsHold_L_pump rfl rfl rfl (by decide +kernel) ⟨Nat.le_of_ble_eq_true rfl, Nat.le_of_ble_eq_true rfl⟩) ⟨kB_blind, k_pre (a := []) (z := []) (k_w0 _) hK hP hD⟩ rfl rfl hl.1 rfl (lv_room (Nat.le_of_ble_eq_true rfl)) dL_pumpsHold_179 ⟨Nat.zero_le _, Nat.zero_le _⟩) (k_w0 _) (k_w0 _) rfl hP hD hS hA (fun H locs hP hD hS => ?_)
                  rw [show p_fact S2 (nI k) 3 = S2.2.2.1 5 k from pf_3 hp (by omega)]
                  refine lv_if_ne (tgt := 189) hx hb dL_pumpsHold_182 (by decide) (fun c_182_38 => ?_) (fun c_182_38 => ?_)
                  · have c_182_38 : ¬ (S2.2.2.1 5 k) = 0 := c_182_38
                    exact absurd hq0 c_182_38
                  · have c_182_38 : (S2.2.2.1 5 k) = 0 := c_182_38
                    refine lv_iconst (v := 1) hx hb dL_pumpsHold_185 (by decide) ?_
                    refine lv_goto (tgt := 190) hx hb dL_pumpsHold_186 (by decide) ?_
                    refine lv_icmp_ne (tgt := 197) hx hb dL_pumpsHold_190 (by decide) (fun h => absurd h (by decide)) (fun _ => ?_)
                    refine lv_iconst (v := 1) hx hb dL_pumpsHold_193 (by decide) ?_
                    refine lv_goto (tgt := 198) hx hb dL_pumpsHold_194 (by decide) ?_
                    refine lv_istore (lv' := [(8, .int 1), (6, .long (v + (((S2.2.2.1 2 k).toInt64) * ((S2.2.2.1 8 k).toInt64)))), (5, .int (u + (S2.2.2.1 9 k))), (4, .int (z ||| (1 <<< ((S2.2.2.1 5 k) &&& 31)))), (3, .int (y + 1)), (2, .int (x + 1)), (0, .ref o), (1, .int (nI n)), (9, .int (nI k))]) hx hb dL_pumpsHold_198 hl (by decide) rfl (fun ls hl => ?_)
                    refine lv_iinc (v := (nI k) + 1) (lv' := [(9, .int ((nI k) + 1)), (8, .int 1), (6, .long (v + (((S2.2.2.1 2 k).toInt64) * ((S2.2.2.1 8 k).toInt64)))), (5, .int (u + (S2.2.2.1 9 k))), (4, .int (z ||| (1 <<< ((S2.2.2.1 5 k) &&& 31)))), (3, .int (y + 1)), (2, .int (x + 1)), (0, .ref o), (1, .int (nI n))]) hx hb dL_pumpsHold_200 hl (k := 8) rfl rfl (by decide) rfl (fun ls hl => ?_)
                    refine lv_goto (tgt := 25) hx hb dL_pumpsHold_203 (by decide) ?_
                    rw [show ((nI k) + 1) = (nI (k + 1)) from nI_1 _] at hl
                    exact ih_25 (k + 1) (x + 1) (y + 1) (z ||| (1 <<< ((S2.2.2.1 5 k) &&& 31))) (u + (S2.2.2.1 9 k)) (v + (((S2.2.2.1 2 k).toInt64) * ((S2.2.2.1 8 k).toInt64))) (by omega) (by omega) (by rw [itr_s, e25]; simp only [hp_B]; (repeat' split) <;> first | rfl | contradiction) _ _ _ hP hD hS (lv_sub hl [7, 8, 6, 5, 4, 3, 2, 1, 0] rfl)
  exact L_25_0 (n + 1) 0 0 0 0 0 0 (by omega) (by omega) (rfl) _ _ _ hP hD hS (lv_sub hl [8, 7, 6, 5, 4, 3, 2, 1, 0] rfl)
