set_option maxHeartbeats 1000000 in
set_option maxRecDepth 100000 in
theorem c_L_servicesOne_a (l : Launch) (D : va_G) (o : Nat) (q1 q2 q3 q4 q5 q6 qt : Nat → Nat) (cI cJ : ClassId) (S1 S2 S3 S4 S5 S6 : SS) (T : TS) (sv : Int32) (q : Nat) (n : Nat) (hn : S2.1 8 = nI n) (hn6 : n ≤ 6) (hst : l.stackTraces = false) (hq : q < n) (hm : S2.2.2.1 4 q = 2) : kHn l yL_servicesOne wsL_servicesOne ({ frames := 8, cells := 1, slots := 6, locals := 148 } : Room) 1 6 D [(cI, .int), (cJ, .long)] [.ref o, .int (nI q)] (poC o q1 q2 q3 q4 q5 q6 qt sv ++ (stW q1 cI cJ S1 ++ (stW q2 cI cJ S2 ++ (stW q3 cI cJ S3 ++ (stW q4 cI cJ S4 ++ (stW q5 cI cJ S5 ++ (stW q6 cI cJ S6 ++ (txW qt cI T)))))))) 1 (poC o q1 q2 q3 q4 q5 q6 qt (c_sv sv) ++ (stW q1 cI cJ S1 ++ (stW q2 cI cJ (setA S2 4 (upd (S2.2.2.1 4) (nI q).toNatClampNeg 0)) ++ (stW q3 cI cJ S2 ++ (stW q4 cI cJ S3 ++ (stW q5 cI cJ S4 ++ (stW q6 cI cJ S5 ++ (txW qt cI T)))))))) := by
  refine kHnBody.met (cc := cL_servicesOne) (maxL := 5) (ret := (some .boolean)) (by decide) rfl (Nat.le_of_ble_eq_true rfl) ?_
  intro p9 e9 s9 m9 below meth c9 A9 ls hx hb hr hml hts hown hlk hK hP hD hA hTT hN hl
  have hown : s9.vm.findClass RL = some m9.cls := hown
  have inX0 : ∀ w ∈ wsX00, w ∈ wsL_servicesOne := fun w h => List.mem_cons_of_mem _ (List.mem_append_left _ (List.mem_append_left _ (List.mem_append_left _ (List.mem_append_right _ (h)))))
  have inX2 : ∀ w ∈ wsX20, w ∈ wsL_servicesOne := fun w h => List.mem_cons_of_mem _ (List.mem_append_left _ (List.mem_append_left _ (List.mem_append_left _ (List.mem_append_left _ (List.mem_append_right _ (h))))))
  have inX3 : ∀ w ∈ wsX30, w ∈ wsL_servicesOne := fun w h => List.mem_cons_of_mem _ (List.mem_append_left _ (List.mem_append_left _ (List.mem_append_left _ (List.mem_append_left _ (List.mem_append_left _ (List.mem_append_right _ (h)))))))
  have inX4 : ∀ w ∈ wsX40, w ∈ wsL_servicesOne := fun w h => List.mem_cons_of_mem _ (List.mem_append_left _ (List.mem_append_left _ (List.mem_append_left _ (List.mem_append_left _ (List.mem_append_left _ (List.mem_append_left _ (List.mem_append_right _ (h))))))))
  have hS : va_S A9 s9.heap s9.heap [] := va_S.rf
  have hq9 : q < 2 ^ 31 := by omega
  have hp := p_has_k hq hn hn6
  have hcl : (nI q).toNatClampNeg = q := nI_clamp hq9
  have hs := svc_out hq9 hm
  have hs2 : bi (c_svc (setA S2 4 (upd (S2.2.2.1 4) (nI q).toNatClampNeg 0)) (nI q)) = 1 := by
    rw [c_svc, show p_has (setA S2 4 (upd (S2.2.2.1 4) (nI q).toNatClampNeg 0)) (nI q) = true from hp, show (setA S2 4 (upd (S2.2.2.1 4) (nI q).toNatClampNeg 0)).2.2.1 4 (nI q).toNatClampNeg = 0 from pk_us]; rfl
  have hl : lv_has ls 5 [(0, .ref o), (1, .int (nI q))] := hl
  refine lv_aload_n hx hb dL_servicesOne_0 rfl (lv_at hl 0 rfl) ?_
  refine lv_iload_n hx hb dL_servicesOne_1 rfl (lv_at hl 1 rfl) ?_
  refine lv_iconst (v := 2) hx hb dL_servicesOne_2 (by decide) ?_
  refine k_calli (a := []) (z := []) (wc := (poC o q1 q2 q3 q4 q5 q6 qt sv ++ (stW q1 cI cJ S1 ++ (stW q2 cI cJ S2 ++ (stW q3 cI cJ S3 ++ (stW q4 cI cJ S4 ++ (stW q5 cI cJ S5 ++ (stW q6 cI cJ S6 ++ (txW qt cI T))))))))) (wc' := (poC o q1 q2 q3 q4 q5 q6 qt sv ++ (stW q1 cI cJ S1 ++ (stW q2 cI cJ S2 ++ (stW q3 cI cJ S3 ++ (stW q4 cI cJ S4 ++ (stW q5 cI cJ S5 ++ (stW q6 cI cJ S6 ++ (txW qt cI T))))))))) (w' := (poC o q1 q2 q3 q4 q5 q6 qt sv ++ (stW q1 cI cJ S1 ++ (stW q2 cI cJ S2 ++ (stW q3 cI cJ S3 ++ (stW q4 cI cJ S4 ++ (stW q5 cI cJ S5 ++ (stW q6 cI cJ S6 ++ (txW qt cI T))))))))) (vx_runSW (As := [.ref o, .int (nI q), .int 2]) (rest := []) ⟨hx, hb, hml, hown, hts⟩ (m_L_pump l D o q1 q2 q3 q4 q5 q6 qt cI cJ S1 S2 S3 S4 S5 S6 T sv (nI q) 2 n hn hn6 hp (by decide) _) (vx_cwSW 3 hts gL_servicesOne_L_pump rfl rfl rfl (by decide +kernel) ⟨Nat.le_of_ble_eq_true rfl, Nat.le_of_ble_eq_true rfl⟩) ⟨kB_blind, k_pre (a := []) (z := []) (k_w0 _) hK hP hD⟩ rfl rfl hl.1 rfl (lv_room (Nat.le_of_ble_eq_true rfl)) dL_servicesOne_3 ⟨Nat.le_of_ble_eq_true rfl, Nat.le_of_ble_eq_true rfl⟩) (k_w0 _) (k_w0 _) rfl hP hD hS hA (fun H locs hP hD hS => ?_)
  rw [show p_fact S2 (nI q) 2 = S2.2.2.1 4 q from pf_2 hp (by omega)]
  refine lv_istore_n (lv' := [(2, .int (S2.2.2.1 4 q)), (0, .ref o), (1, .int (nI q))]) hx hb dL_servicesOne_6 rfl hl (by decide) rfl (fun ls hl => ?_)
  refine lv_iload_n hx hb dL_servicesOne_7 rfl (lv_at hl 0 rfl) ?_
  refine lv_iconst (v := 2) hx hb dL_servicesOne_8 (by decide) ?_
  refine lv_icmp_ne (tgt := 16) hx hb dL_servicesOne_9 (by decide) (fun c_9_0 => ?_) (fun c_9_0 => ?_)
  · have c_9_0 : ¬ (S2.2.2.1 4 q) = 2 := c_9_0
    exact absurd hm c_9_0
  · have c_9_0 : (S2.2.2.1 4 q) = 2 := c_9_0
    refine lv_iconst (v := 1) hx hb dL_servicesOne_12 (by decide) ?_
    refine lv_goto (tgt := 17) hx hb dL_servicesOne_13 (by decide) ?_
    refine lv_istore_n (lv' := [(3, .int 1), (2, .int (S2.2.2.1 4 q)), (0, .ref o), (1, .int (nI q))]) hx hb dL_servicesOne_17 rfl hl (by decide) rfl (fun ls hl => ?_)
    refine lv_aload_n hx hb dL_servicesOne_18 rfl (lv_at hl 2 rfl) ?_
    refine lv_iload_n hx hb dL_servicesOne_19 rfl (lv_at hl 3 rfl) ?_
    refine lv_iload_n hx hb dL_servicesOne_20 rfl (lv_at hl 0 rfl) ?_
    refine k_calli (a := []) (z := []) (wc := (poC o q1 q2 q3 q4 q5 q6 qt sv ++ (stW q1 cI cJ S1 ++ (stW q2 cI cJ S2 ++ (stW q3 cI cJ S3 ++ (stW q4 cI cJ S4 ++ (stW q5 cI cJ S5 ++ (stW q6 cI cJ S6 ++ (txW qt cI T))))))))) (wc' := (poC o q1 q2 q3 q4 q5 q6 qt (c_sv sv) ++ (stW q1 cI cJ S1 ++ (stW q2 cI cJ (setA S2 4 (upd (S2.2.2.1 4) (nI q).toNatClampNeg 0)) ++ (stW q3 cI cJ S2 ++ (stW q4 cI cJ S3 ++ (stW q5 cI cJ S4 ++ (stW q6 cI cJ S5 ++ (txW qt cI T))))))))) (w' := (poC o q1 q2 q3 q4 q5 q6 qt (c_sv sv) ++ (stW q1 cI cJ S1 ++ (stW q2 cI cJ (setA S2 4 (upd (S2.2.2.1 4) (nI q).toNatClampNeg 0)) ++ (stW q3 cI cJ S2 ++ (stW q4 cI cJ S3 ++ (stW q5 cI cJ S4 ++ (stW q6 cI cJ S5 ++ (txW qt cI T))))))))) (vx_runSW (As := [.ref o, .int (nI q), .int 1]) (rest := []) ⟨hx, hb, hml, hown, hts⟩ (m_L_services1 l D o q1 q2 q3 q4 q5 q6 qt cI cJ S1 S2 S3 S4 S5 S6 T sv (nI q) n hn hn6 hp hs _) (vx_cwSW 3 hts gL_servicesOne_L_services rfl rfl rfl (by decide +kernel) ⟨Nat.le_of_ble_eq_true rfl, Nat.le_of_ble_eq_true rfl⟩) ⟨kB_blind, k_pre (a := []) (z := []) (k_w0 _) hK hP hD⟩ rfl rfl hl.1 rfl (lv_room (Nat.le_of_ble_eq_true rfl)) dL_servicesOne_21 ⟨Nat.le_of_ble_eq_true rfl, Nat.le_of_ble_eq_true rfl⟩) (k_w0 _) (k_w0 _) rfl hP hD hS hA (fun H locs hP hD hS => ?_)
    refine lv_istore (lv' := [(4, .int (p_was S2 (nI q))), (3, .int 1), (2, .int (S2.2.2.1 4 q)), (0, .ref o), (1, .int (nI q))]) hx hb dL_servicesOne_24 hl (by decide) rfl (fun ls hl => ?_)
    refine lv_iload hx hb dL_servicesOne_26 (lv_at hl 0 rfl) ?_
    refine lv_iload_n hx hb dL_servicesOne_28 rfl (lv_at hl 2 rfl) ?_
    refine lv_iconst (v := 1) hx hb dL_servicesOne_29 (by decide) ?_
    refine lv_icmp_ne (tgt := 37) hx hb dL_servicesOne_30 (by decide) (fun c_30_1 => ?_) (fun c_30_1 => ?_)
    · have c_30_1 : ¬ (S2.2.2.1 4 q) = 1 := c_30_1
      refine lv_iconst (v := 0) hx hb dL_servicesOne_37 (by decide) ?_
      refine lv_icmp_ne (tgt := 74) hx hb dL_servicesOne_38 (by decide) (fun c_38_2 => ?_) (fun c_38_2 => ?_)
      · have c_38_2 : ¬ (p_was S2 (nI q)) = 0 := c_38_2
        exact absurd (by rw [p_was, hcl]; simp [c_30_1]) c_38_2 -- done
      · have c_38_2 : (p_was S2 (nI q)) = 0 := c_38_2
        refine lv_aload_n hx hb dL_servicesOne_41 rfl (lv_at hl 3 rfl) ?_
        refine lv_iload_n hx hb dL_servicesOne_42 rfl (lv_at hl 4 rfl) ?_
        refine lv_iconst (v := 2) hx hb dL_servicesOne_43 (by decide) ?_
        refine k_calli (a := []) (z := []) (wc := (poC o q1 q2 q3 q4 q5 q6 qt (c_sv sv) ++ (stW q1 cI cJ S1 ++ (stW q2 cI cJ (setA S2 4 (upd (S2.2.2.1 4) (nI q).toNatClampNeg 0)) ++ (stW q3 cI cJ S2 ++ (stW q4 cI cJ S3 ++ (stW q5 cI cJ S4 ++ (stW q6 cI cJ S5 ++ (txW qt cI T))))))))) (wc' := (poC o q1 q2 q3 q4 q5 q6 qt (c_sv sv) ++ (stW q1 cI cJ S1 ++ (stW q2 cI cJ (setA S2 4 (upd (S2.2.2.1 4) (nI q).toNatClampNeg 0)) ++ (stW q3 cI cJ S2 ++ (stW q4 cI cJ S3 ++ (stW q5 cI cJ S4 ++ (stW q6 cI cJ S5 ++ (txW qt cI T))))))))) (w' := (poC o q1 q2 q3 q4 q5 q6 qt (c_sv sv) ++ (stW q1 cI cJ S1 ++ (stW q2 cI cJ (setA S2 4 (upd (S2.2.2.1 4) (nI q).toNatClampNeg 0)) ++ (stW q3 cI cJ S2 ++ (stW q4 cI cJ S3 ++ (stW q5 cI cJ S4 ++ (stW q6 cI cJ S5 ++ (txW qt cI T))))))))) (vx_runSW (As := [.ref o, .int (nI q), .int 2]) (rest := []) ⟨hx, hb, hml, hown, hts⟩ (m_L_pump l D o q1 q2 q3 q4 q5 q6 qt cI cJ S1 (setA S2 4 (upd (S2.2.2.1 4) (nI q).toNatClampNeg 0)) S2 S3 S4 S5 T (c_sv sv) (nI q) 2 n hn hn6 hp (by decide) _) (vx_cwSW 3 hts gL_servicesOne_L_pump rfl rfl rfl (by decide +kernel) ⟨Nat.le_of_ble_eq_true rfl, Nat.le_of_ble_eq_true rfl⟩) ⟨kB_blind, k_pre (a := []) (z := []) (k_w0 _) hK hP hD⟩ rfl rfl hl.1 rfl (lv_room (Nat.le_of_ble_eq_true rfl)) dL_servicesOne_44 ⟨Nat.le_of_ble_eq_true rfl, Nat.le_of_ble_eq_true rfl⟩) (k_w0 _) (k_w0 _) rfl hP hD hS hA (fun H locs hP hD hS => ?_)
        rw [show p_fact (setA S2 4 (upd (S2.2.2.1 4) (nI q).toNatClampNeg 0)) (nI q) 2 = (setA S2 4 (upd (S2.2.2.1 4) (nI q).toNatClampNeg 0)).2.2.1 4 q from pf_2 hp (by omega)]
        refine lv_iload_n hx hb dL_servicesOne_47 rfl (lv_at hl 1 rfl) ?_
        refine lv_if_eq (tgt := 55) hx hb dL_servicesOne_48 (by decide) (fun h => absurd h (by decide)) (fun _ => ?_)
        refine lv_iconst (v := 0) hx hb dL_servicesOne_51 (by decide) ?_
        refine lv_goto (tgt := 56) hx hb dL_servicesOne_52 (by decide) ?_
        refine lv_icmp_ne (tgt := 74) hx hb dL_servicesOne_56 (by decide) (fun c_56_4 => ?_) (fun c_56_4 => ?_)
        · have c_56_4 : ¬ ((setA S2 4 (upd (S2.2.2.1 4) (nI q).toNatClampNeg 0)).2.2.1 4 q) = 0 := c_56_4
          exact absurd (svc_set hq9 _) c_56_4 -- done
        · have c_56_4 : ((setA S2 4 (upd (S2.2.2.1 4) (nI q).toNatClampNeg 0)).2.2.1 4 q) = 0 := c_56_4
          refine lv_aload_n hx hb dL_servicesOne_59 rfl (lv_at hl 3 rfl) ?_
          refine lv_iload_n hx hb dL_servicesOne_60 rfl (lv_at hl 4 rfl) ?_
          refine lv_iload_n hx hb dL_servicesOne_61 rfl (lv_at hl 1 rfl) ?_
          refine k_callHn (a := []) (z := []) (wc := (poC o q1 q2 q3 q4 q5 q6 qt (c_sv sv) ++ (stW q1 cI cJ S1 ++ (stW q2 cI cJ (setA S2 4 (upd (S2.2.2.1 4) (nI q).toNatClampNeg 0)) ++ (stW q3 cI cJ S2 ++ (stW q4 cI cJ S3 ++ (stW q5 cI cJ S4 ++ (stW q6 cI cJ S5 ++ (txW qt cI T))))))))) (wc' := (poC o q1 q2 q3 q4 q5 q6 qt (c_sv sv) ++ (stW q1 cI cJ S1 ++ (stW q2 cI cJ (setA S2 4 (upd (S2.2.2.1 4) (nI q).toNatClampNeg 0)) ++ (stW q3 cI cJ S2 ++ (stW q4 cI cJ S3 ++ (stW q5 cI cJ S4 ++ (stW q6 cI cJ S5 ++ (txW qt cI T))))))))) (w' := (poC o q1 q2 q3 q4 q5 q6 qt (c_sv sv) ++ (stW q1 cI cJ S1 ++ (stW q2 cI cJ (setA S2 4 (upd (S2.2.2.1 4) (nI q).toNatClampNeg 0)) ++ (stW q3 cI cJ S2 ++ (stW q4 cI cJ S3 ++ (stW q5 cI cJ S4 ++ (stW q6 cI cJ S5 ++ (txW qt cI T))))))))) (vx_runSW (As := [.ref o, .int (nI q), .int 1]) (rest := []) ⟨hx, hb, hml, hown, hts⟩ (t_L_services_ise l D o q1 q2 q3 q4 q5 q6 qt cI cJ S1 (setA S2 4 (upd (S2.2.2.1 4) (nI q).toNatClampNeg 0)) S2 S3 S4 S5 T (c_sv sv) (nI q) 1 n hn hn6 hst (by rw [A_X4_service_t, if_pos (show p_has (setA S2 4 (upd (S2.2.2.1 4) (nI q).toNatClampNeg 0)) (nI q) = true from hp), if_pos hs2]) _) (vx_cwSW 3 hts gL_servicesOne_L_services rfl rfl rfl (by decide +kernel) ⟨Nat.le_of_ble_eq_true rfl, Nat.le_of_ble_eq_true rfl⟩) ⟨kBH_blind, k_preH (a := []) (z := []) (k_w0 _) hK hP hD hS hA hTT hN⟩ rfl rfl hl.1 rfl (lv_room (Nat.le_of_ble_eq_true rfl)) dL_servicesOne_62 ⟨Nat.le_of_ble_eq_true rfl, Nat.le_of_ble_eq_true rfl⟩) (k_w0 _) (k_w0 _) rfl hP hD hS hA (fun H locs hP hD hS => ?_)
          refine lv_ldc (v := -2000002) hx hb hown (hts (.constant RL 19 (-2000002)) (List.mem_of_getElem? (i := 1) rfl)) dL_servicesOne_65 ?_
          refine lv_icmp_ne (tgt := 74) hx hb dL_servicesOne_67 (by decide) (fun h => absurd h (by decide)) (fun _ => ?_)
          refine lv_iconst (v := 1) hx hb dL_servicesOne_70 (by decide) ?_
          refine lv_goto (tgt := 75) hx hb dL_servicesOne_71 (by decide) ?_
          exact k_hnret (Nat.le_of_ble_eq_true rfl) (Nat.le_of_ble_eq_true rfl) hx hb hr hlk hP hS dL_servicesOne_75 rfl (by first | rfl | (simp only [c_9_0, c_30_1, c_38_2, c_56_4]; done) | (simp [c_9_0, c_30_1, c_38_2, c_56_4]; done)) (fun h => h)
    · have c_30_1 : (S2.2.2.1 4 q) = 1 := c_30_1
      refine lv_iconst (v := 1) hx hb dL_servicesOne_33 (by decide) ?_
      refine lv_goto (tgt := 38) hx hb dL_servicesOne_34 (by decide) ?_
      refine lv_icmp_ne (tgt := 74) hx hb dL_servicesOne_38 (by decide) (fun c_38_6 => ?_) (fun c_38_6 => ?_)
      · have c_38_6 : ¬ (p_was S2 (nI q)) = 1 := c_38_6
        exact absurd (by rw [p_was, hcl]; simp [c_30_1]) c_38_6 -- done
      · have c_38_6 : (p_was S2 (nI q)) = 1 := c_38_6
        refine lv_aload_n hx hb dL_servicesOne_41 rfl (lv_at hl 3 rfl) ?_
        refine lv_iload_n hx hb dL_servicesOne_42 rfl (lv_at hl 4 rfl) ?_
        refine lv_iconst (v := 2) hx hb dL_servicesOne_43 (by decide) ?_
        refine k_calli (a := []) (z := []) (wc := (poC o q1 q2 q3 q4 q5 q6 qt (c_sv sv) ++ (stW q1 cI cJ S1 ++ (stW q2 cI cJ (setA S2 4 (upd (S2.2.2.1 4) (nI q).toNatClampNeg 0)) ++ (stW q3 cI cJ S2 ++ (stW q4 cI cJ S3 ++ (stW q5 cI cJ S4 ++ (stW q6 cI cJ S5 ++ (txW qt cI T))))))))) (wc' := (poC o q1 q2 q3 q4 q5 q6 qt (c_sv sv) ++ (stW q1 cI cJ S1 ++ (stW q2 cI cJ (setA S2 4 (upd (S2.2.2.1 4) (nI q).toNatClampNeg 0)) ++ (stW q3 cI cJ S2 ++ (stW q4 cI cJ S3 ++ (stW q5 cI cJ S4 ++ (stW q6 cI cJ S5 ++ (txW qt cI T))))))))) (w' := (poC o q1 q2 q3 q4 q5 q6 qt (c_sv sv) ++ (stW q1 cI cJ S1 ++ (stW q2 cI cJ (setA S2 4 (upd (S2.2.2.1 4) (nI q).toNatClampNeg 0)) ++ (stW q3 cI cJ S2 ++ (stW q4 cI cJ S3 ++ (stW q5 cI cJ S4 ++ (stW q6 cI cJ S5 ++ (txW qt cI T))))))))) (vx_runSW (As := [.ref o, .int (nI q), .int 2]) (rest := []) ⟨hx, hb, hml, hown, hts⟩ (m_L_pump l D o q1 q2 q3 q4 q5 q6 qt cI cJ S1 (setA S2 4 (upd (S2.2.2.1 4) (nI q).toNatClampNeg 0)) S2 S3 S4 S5 T (c_sv sv) (nI q) 2 n hn hn6 hp (by decide) _) (vx_cwSW 3 hts gL_servicesOne_L_pump rfl rfl rfl (by decide +kernel) ⟨Nat.le_of_ble_eq_true rfl, Nat.le_of_ble_eq_true rfl⟩) ⟨kB_blind, k_pre (a := []) (z := []) (k_w0 _) hK hP hD⟩ rfl rfl hl.1 rfl (lv_room (Nat.le_of_ble_eq_true rfl)) dL_servicesOne_44 ⟨Nat.le_of_ble_eq_true rfl, Nat.le_of_ble_eq_true rfl⟩) (k_w0 _) (k_w0 _) rfl hP hD hS hA (fun H locs hP hD hS => ?_)
        rw [show p_fact (setA S2 4 (upd (S2.2.2.1 4) (nI q).toNatClampNeg 0)) (nI q) 2 = (setA S2 4 (upd (S2.2.2.1 4) (nI q).toNatClampNeg 0)).2.2.1 4 q from pf_2 hp (by omega)]
        refine lv_iload_n hx hb dL_servicesOne_47 rfl (lv_at hl 1 rfl) ?_
        refine lv_if_eq (tgt := 55) hx hb dL_servicesOne_48 (by decide) (fun h => absurd h (by decide)) (fun _ => ?_)
        refine lv_iconst (v := 0) hx hb dL_servicesOne_51 (by decide) ?_
        refine lv_goto (tgt := 56) hx hb dL_servicesOne_52 (by decide) ?_
        refine lv_icmp_ne (tgt := 74) hx hb dL_servicesOne_56 (by decide) (fun c_56_8 => ?_) (fun c_56_8 => ?_)
        · have c_56_8 : ¬ ((setA S2 4 (upd (S2.2.2.1 4) (nI q).toNatClampNeg 0)).2.2.1 4 q) = 0 := c_56_8
          exact absurd (svc_set hq9 _) c_56_8 -- done
        · have c_56_8 : ((setA S2 4 (upd (S2.2.2.1 4) (nI q).toNatClampNeg 0)).2.2.1 4 q) = 0 := c_56_8
          refine lv_aload_n hx hb dL_servicesOne_59 rfl (lv_at hl 3 rfl) ?_
          refine lv_iload_n hx hb dL_servicesOne_60 rfl (lv_at hl 4 rfl) ?_
          refine lv_iload_n hx hb dL_servicesOne_61 rfl (lv_at hl 1 rfl) ?_
          refine k_callHn (a := []) (z := []) (wc := (poC o q1 q2 q3 q4 q5 q6 qt (c_sv sv) ++ (stW q1 cI cJ S1 ++ (stW q2 cI cJ (setA S2 4 (upd (S2.2.2.1 4) (nI q).toNatClampNeg 0)) ++ (stW q3 cI cJ S2 ++ (stW q4 cI cJ S3 ++ (stW q5 cI cJ S4 ++ (stW q6 cI cJ S5 ++ (txW qt cI T))))))))) (wc' := (poC o q1 q2 q3 q4 q5 q6 qt (c_sv sv) ++ (stW q1 cI cJ S1 ++ (stW q2 cI cJ (setA S2 4 (upd (S2.2.2.1 4) (nI q).toNatClampNeg 0)) ++ (stW q3 cI cJ S2 ++ (stW q4 cI cJ S3 ++ (stW q5 cI cJ S4 ++ (stW q6 cI cJ S5 ++ (txW qt cI T))))))))) (w' := (poC o q1 q2 q3 q4 q5 q6 qt (c_sv sv) ++ (stW q1 cI cJ S1 ++ (stW q2 cI cJ (setA S2 4 (upd (S2.2.2.1 4) (nI q).toNatClampNeg 0)) ++ (stW q3 cI cJ S2 ++ (stW q4 cI cJ S3 ++ (stW q5 cI cJ S4 ++ (stW q6 cI cJ S5 ++ (txW qt cI T))))))))) (vx_runSW (As := [.ref o, .int (nI q), .int 1]) (rest := []) ⟨hx, hb, hml, hown, hts⟩ (t_L_services_ise l D o q1 q2 q3 q4 q5 q6 qt cI cJ S1 (setA S2 4 (upd (S2.2.2.1 4) (nI q).toNatClampNeg 0)) S2 S3 S4 S5 T (c_sv sv) (nI q) 1 n hn hn6 hst (by rw [A_X4_service_t, if_pos (show p_has (setA S2 4 (upd (S2.2.2.1 4) (nI q).toNatClampNeg 0)) (nI q) = true from hp), if_pos hs2]) _) (vx_cwSW 3 hts gL_servicesOne_L_services rfl rfl rfl (by decide +kernel) ⟨Nat.le_of_ble_eq_true rfl, Nat.le_of_ble_eq_true rfl⟩) ⟨kBH_blind, k_preH (a := []) (z := []) (k_w0 _) hK hP hD hS hA hTT hN⟩ rfl rfl hl.1 rfl (lv_room (Nat.le_of_ble_eq_true rfl)) dL_servicesOne_62 ⟨Nat.le_of_ble_eq_true rfl, Nat.le_of_ble_eq_true rfl⟩) (k_w0 _) (k_w0 _) rfl hP hD hS hA (fun H locs hP hD hS => ?_)
          refine lv_ldc (v := -2000002) hx hb hown (hts (.constant RL 19 (-2000002)) (List.mem_of_getElem? (i := 1) rfl)) dL_servicesOne_65 ?_
          refine lv_icmp_ne (tgt := 74) hx hb dL_servicesOne_67 (by decide) (fun h => absurd h (by decide)) (fun _ => ?_)
          refine lv_iconst (v := 1) hx hb dL_servicesOne_70 (by decide) ?_
          refine lv_goto (tgt := 75) hx hb dL_servicesOne_71 (by decide) ?_
          exact k_hnret (Nat.le_of_ble_eq_true rfl) (Nat.le_of_ble_eq_true rfl) hx hb hr hlk hP hS dL_servicesOne_75 rfl (by first | rfl | (simp only [c_9_0, c_30_1, c_38_6, c_56_8]; done) | (simp [c_9_0, c_30_1, c_38_6, c_56_8]; done)) (fun h => h)

set_option maxHeartbeats 1000000 in
set_option maxRecDepth 100000 in
theorem c_L_servicesOne_b (l : Launch) (D : va_G) (o : Nat) (q1 q2 q3 q4 q5 q6 qt : Nat → Nat) (cI cJ : ClassId) (S1 S2 S3 S4 S5 S6 : SS) (T : TS) (sv : Int32) (q : Nat) (n : Nat) (hn : S2.1 8 = nI n) (hn6 : n ≤ 6) (hst : l.stackTraces = false) (hq : q < n) (hm : ¬ S2.2.2.1 4 q = 2) : kHn l yL_servicesOne wsL_servicesOne ({ frames := 8, cells := 1, slots := 6, locals := 148 } : Room) 1 6 D [(cI, .int), (cJ, .long)] [.ref o, .int (nI q)] (poC o q1 q2 q3 q4 q5 q6 qt sv ++ (stW q1 cI cJ S1 ++ (stW q2 cI cJ S2 ++ (stW q3 cI cJ S3 ++ (stW q4 cI cJ S4 ++ (stW q5 cI cJ S5 ++ (stW q6 cI cJ S6 ++ (txW qt cI T)))))))) 1 (poC o q1 q2 q3 q4 q5 q6 qt (c_sv sv) ++ (stW q1 cI cJ S1 ++ (stW q2 cI cJ (setA S2 4 (upd (S2.2.2.1 4) (nI q).toNatClampNeg 2)) ++ (stW q3 cI cJ S2 ++ (stW q4 cI cJ S3 ++ (stW q5 cI cJ S4 ++ (stW q6 cI cJ S5 ++ (txW qt cI T)))))))) := by
  refine kHnBody.met (cc := cL_servicesOne) (maxL := 5) (ret := (some .boolean)) (by decide) rfl (Nat.le_of_ble_eq_true rfl) ?_
  intro p9 e9 s9 m9 below meth c9 A9 ls hx hb hr hml hts hown hlk hK hP hD hA hTT hN hl
  have hown : s9.vm.findClass RL = some m9.cls := hown
  have inX0 : ∀ w ∈ wsX00, w ∈ wsL_servicesOne := fun w h => List.mem_cons_of_mem _ (List.mem_append_left _ (List.mem_append_left _ (List.mem_append_left _ (List.mem_append_right _ (h)))))
  have inX2 : ∀ w ∈ wsX20, w ∈ wsL_servicesOne := fun w h => List.mem_cons_of_mem _ (List.mem_append_left _ (List.mem_append_left _ (List.mem_append_left _ (List.mem_append_left _ (List.mem_append_right _ (h))))))
  have inX3 : ∀ w ∈ wsX30, w ∈ wsL_servicesOne := fun w h => List.mem_cons_of_mem _ (List.mem_append_left _ (List.mem_append_left _ (List.mem_append_left _ (List.mem_append_left _ (List.mem_append_left _ (List.mem_append_right _ (h)))))))
  have inX4 : ∀ w ∈ wsX40, w ∈ wsL_servicesOne := fun w h => List.mem_cons_of_mem _ (List.mem_append_left _ (List.mem_append_left _ (List.mem_append_left _ (List.mem_append_left _ (List.mem_append_left _ (List.mem_append_left _ (List.mem_append_right _ (h))))))))
  have hS : va_S A9 s9.heap s9.heap [] := va_S.rf
  have hq9 : q < 2 ^ 31 := by omega
  have hp := p_has_k hq hn hn6
  have hcl : (nI q).toNatClampNeg = q := nI_clamp hq9
  have hs := svc_in hq9 hp hm
  have hs2 : bi (c_svc (setA S2 4 (upd (S2.2.2.1 4) (nI q).toNatClampNeg 2)) (nI q)) = 0 := by
    rw [c_svc, show p_has (setA S2 4 (upd (S2.2.2.1 4) (nI q).toNatClampNeg 2)) (nI q) = true from hp, show (setA S2 4 (upd (S2.2.2.1 4) (nI q).toNatClampNeg 2)).2.2.1 4 (nI q).toNatClampNeg = 2 from pk_us]; rfl
  have hl : lv_has ls 5 [(0, .ref o), (1, .int (nI q))] := hl
  refine lv_aload_n hx hb dL_servicesOne_0 rfl (lv_at hl 0 rfl) ?_
  refine lv_iload_n hx hb dL_servicesOne_1 rfl (lv_at hl 1 rfl) ?_
  refine lv_iconst (v := 2) hx hb dL_servicesOne_2 (by decide) ?_
  refine k_calli (a := []) (z := []) (wc := (poC o q1 q2 q3 q4 q5 q6 qt sv ++ (stW q1 cI cJ S1 ++ (stW q2 cI cJ S2 ++ (stW q3 cI cJ S3 ++ (stW q4 cI cJ S4 ++ (stW q5 cI cJ S5 ++ (stW q6 cI cJ S6 ++ (txW qt cI T))))))))) (wc' := (poC o q1 q2 q3 q4 q5 q6 qt sv ++ (stW q1 cI cJ S1 ++ (stW q2 cI cJ S2 ++ (stW q3 cI cJ S3 ++ (stW q4 cI cJ S4 ++ (stW q5 cI cJ S5 ++ (stW q6 cI cJ S6 ++ (txW qt cI T))))))))) (w' := (poC o q1 q2 q3 q4 q5 q6 qt sv ++ (stW q1 cI cJ S1 ++ (stW q2 cI cJ S2 ++ (stW q3 cI cJ S3 ++ (stW q4 cI cJ S4 ++ (stW q5 cI cJ S5 ++ (stW q6 cI cJ S6 ++ (txW qt cI T))))))))) (vx_runSW (As := [.ref o, .int (nI q), .int 2]) (rest := []) ⟨hx, hb, hml, hown, hts⟩ (m_L_pump l D o q1 q2 q3 q4 q5 q6 qt cI cJ S1 S2 S3 S4 S5 S6 T sv (nI q) 2 n hn hn6 hp (by decide) _) (vx_cwSW 3 hts gL_servicesOne_L_pump rfl rfl rfl (by decide +kernel) ⟨Nat.le_of_ble_eq_true rfl, Nat.le_of_ble_eq_true rfl⟩) ⟨kB_blind, k_pre (a := []) (z := []) (k_w0 _) hK hP hD⟩ rfl rfl hl.1 rfl (lv_room (Nat.le_of_ble_eq_true rfl)) dL_servicesOne_3 ⟨Nat.le_of_ble_eq_true rfl, Nat.le_of_ble_eq_true rfl⟩) (k_w0 _) (k_w0 _) rfl hP hD hS hA (fun H locs hP hD hS => ?_)
  rw [show p_fact S2 (nI q) 2 = S2.2.2.1 4 q from pf_2 hp (by omega)]
  refine lv_istore_n (lv' := [(2, .int (S2.2.2.1 4 q)), (0, .ref o), (1, .int (nI q))]) hx hb dL_servicesOne_6 rfl hl (by decide) rfl (fun ls hl => ?_)
  refine lv_iload_n hx hb dL_servicesOne_7 rfl (lv_at hl 0 rfl) ?_
  refine lv_iconst (v := 2) hx hb dL_servicesOne_8 (by decide) ?_
  refine lv_icmp_ne (tgt := 16) hx hb dL_servicesOne_9 (by decide) (fun c_9_0 => ?_) (fun c_9_0 => ?_)
  · have c_9_0 : ¬ (S2.2.2.1 4 q) = 2 := c_9_0
    refine lv_iconst (v := 0) hx hb dL_servicesOne_16 (by decide) ?_
    refine lv_istore_n (lv' := [(3, .int 0), (2, .int (S2.2.2.1 4 q)), (0, .ref o), (1, .int (nI q))]) hx hb dL_servicesOne_17 rfl hl (by decide) rfl (fun ls hl => ?_)
    refine lv_aload_n hx hb dL_servicesOne_18 rfl (lv_at hl 2 rfl) ?_
    refine lv_iload_n hx hb dL_servicesOne_19 rfl (lv_at hl 3 rfl) ?_
    refine lv_iload_n hx hb dL_servicesOne_20 rfl (lv_at hl 0 rfl) ?_
    refine k_calli (a := []) (z := []) (wc := (poC o q1 q2 q3 q4 q5 q6 qt sv ++ (stW q1 cI cJ S1 ++ (stW q2 cI cJ S2 ++ (stW q3 cI cJ S3 ++ (stW q4 cI cJ S4 ++ (stW q5 cI cJ S5 ++ (stW q6 cI cJ S6 ++ (txW qt cI T))))))))) (wc' := (poC o q1 q2 q3 q4 q5 q6 qt (c_sv sv) ++ (stW q1 cI cJ S1 ++ (stW q2 cI cJ (setA S2 4 (upd (S2.2.2.1 4) (nI q).toNatClampNeg 2)) ++ (stW q3 cI cJ S2 ++ (stW q4 cI cJ S3 ++ (stW q5 cI cJ S4 ++ (stW q6 cI cJ S5 ++ (txW qt cI T))))))))) (w' := (poC o q1 q2 q3 q4 q5 q6 qt (c_sv sv) ++ (stW q1 cI cJ S1 ++ (stW q2 cI cJ (setA S2 4 (upd (S2.2.2.1 4) (nI q).toNatClampNeg 2)) ++ (stW q3 cI cJ S2 ++ (stW q4 cI cJ S3 ++ (stW q5 cI cJ S4 ++ (stW q6 cI cJ S5 ++ (txW qt cI T))))))))) (vx_runSW (As := [.ref o, .int (nI q), .int 0]) (rest := []) ⟨hx, hb, hml, hown, hts⟩ (m_L_services0 l D o q1 q2 q3 q4 q5 q6 qt cI cJ S1 S2 S3 S4 S5 S6 T sv (nI q) n hn hn6 hp hs _) (vx_cwSW 3 hts gL_servicesOne_L_services rfl rfl rfl (by decide +kernel) ⟨Nat.le_of_ble_eq_true rfl, Nat.le_of_ble_eq_true rfl⟩) ⟨kB_blind, k_pre (a := []) (z := []) (k_w0 _) hK hP hD⟩ rfl rfl hl.1 rfl (lv_room (Nat.le_of_ble_eq_true rfl)) dL_servicesOne_21 ⟨Nat.le_of_ble_eq_true rfl, Nat.le_of_ble_eq_true rfl⟩) (k_w0 _) (k_w0 _) rfl hP hD hS hA (fun H locs hP hD hS => ?_)
    refine lv_istore (lv' := [(4, .int (p_was S2 (nI q))), (3, .int 0), (2, .int (S2.2.2.1 4 q)), (0, .ref o), (1, .int (nI q))]) hx hb dL_servicesOne_24 hl (by decide) rfl (fun ls hl => ?_)
    refine lv_iload hx hb dL_servicesOne_26 (lv_at hl 0 rfl) ?_
    refine lv_iload_n hx hb dL_servicesOne_28 rfl (lv_at hl 2 rfl) ?_
    refine lv_iconst (v := 1) hx hb dL_servicesOne_29 (by decide) ?_
    refine lv_icmp_ne (tgt := 37) hx hb dL_servicesOne_30 (by decide) (fun c_30_1 => ?_) (fun c_30_1 => ?_)
    · have c_30_1 : ¬ (S2.2.2.1 4 q) = 1 := c_30_1
      refine lv_iconst (v := 0) hx hb dL_servicesOne_37 (by decide) ?_
      refine lv_icmp_ne (tgt := 74) hx hb dL_servicesOne_38 (by decide) (fun c_38_2 => ?_) (fun c_38_2 => ?_)
      · have c_38_2 : ¬ (p_was S2 (nI q)) = 0 := c_38_2
        exact absurd (by rw [p_was, hcl]; simp [c_30_1]) c_38_2 -- done
      · have c_38_2 : (p_was S2 (nI q)) = 0 := c_38_2
        refine lv_aload_n hx hb dL_servicesOne_41 rfl (lv_at hl 3 rfl) ?_
        refine lv_iload_n hx hb dL_servicesOne_42 rfl (lv_at hl 4 rfl) ?_
        refine lv_iconst (v := 2) hx hb dL_servicesOne_43 (by decide) ?_
        refine k_calli (a := []) (z := []) (wc := (poC o q1 q2 q3 q4 q5 q6 qt (c_sv sv) ++ (stW q1 cI cJ S1 ++ (stW q2 cI cJ (setA S2 4 (upd (S2.2.2.1 4) (nI q).toNatClampNeg 2)) ++ (stW q3 cI cJ S2 ++ (stW q4 cI cJ S3 ++ (stW q5 cI cJ S4 ++ (stW q6 cI cJ S5 ++ (txW qt cI T))))))))) (wc' := (poC o q1 q2 q3 q4 q5 q6 qt (c_sv sv) ++ (stW q1 cI cJ S1 ++ (stW q2 cI cJ (setA S2 4 (upd (S2.2.2.1 4) (nI q).toNatClampNeg 2)) ++ (stW q3 cI cJ S2 ++ (stW q4 cI cJ S3 ++ (stW q5 cI cJ S4 ++ (stW q6 cI cJ S5 ++ (txW qt cI T))))))))) (w' := (poC o q1 q2 q3 q4 q5 q6 qt (c_sv sv) ++ (stW q1 cI cJ S1 ++ (stW q2 cI cJ (setA S2 4 (upd (S2.2.2.1 4) (nI q).toNatClampNeg 2)) ++ (stW q3 cI cJ S2 ++ (stW q4 cI cJ S3 ++ (stW q5 cI cJ S4 ++ (stW q6 cI cJ S5 ++ (txW qt cI T))))))))) (vx_runSW (As := [.ref o, .int (nI q), .int 2]) (rest := []) ⟨hx, hb, hml, hown, hts⟩ (m_L_pump l D o q1 q2 q3 q4 q5 q6 qt cI cJ S1 (setA S2 4 (upd (S2.2.2.1 4) (nI q).toNatClampNeg 2)) S2 S3 S4 S5 T (c_sv sv) (nI q) 2 n hn hn6 hp (by decide) _) (vx_cwSW 3 hts gL_servicesOne_L_pump rfl rfl rfl (by decide +kernel) ⟨Nat.le_of_ble_eq_true rfl, Nat.le_of_ble_eq_true rfl⟩) ⟨kB_blind, k_pre (a := []) (z := []) (k_w0 _) hK hP hD⟩ rfl rfl hl.1 rfl (lv_room (Nat.le_of_ble_eq_true rfl)) dL_servicesOne_44 ⟨Nat.le_of_ble_eq_true rfl, Nat.le_of_ble_eq_true rfl⟩) (k_w0 _) (k_w0 _) rfl hP hD hS hA (fun H locs hP hD hS => ?_)
        rw [show p_fact (setA S2 4 (upd (S2.2.2.1 4) (nI q).toNatClampNeg 2)) (nI q) 2 = (setA S2 4 (upd (S2.2.2.1 4) (nI q).toNatClampNeg 2)).2.2.1 4 q from pf_2 hp (by omega)]
        refine lv_iload_n hx hb dL_servicesOne_47 rfl (lv_at hl 1 rfl) ?_
        refine lv_if_eq (tgt := 55) hx hb dL_servicesOne_48 (by decide) (fun _ => ?_) (fun h => absurd h (by decide))
        refine lv_iconst (v := 2) hx hb dL_servicesOne_55 (by decide) ?_
        refine lv_icmp_ne (tgt := 74) hx hb dL_servicesOne_56 (by decide) (fun c_56_4 => ?_) (fun c_56_4 => ?_)
        · have c_56_4 : ¬ ((setA S2 4 (upd (S2.2.2.1 4) (nI q).toNatClampNeg 2)).2.2.1 4 q) = 2 := c_56_4
          exact absurd (svc_set hq9 _) c_56_4 -- done
        · have c_56_4 : ((setA S2 4 (upd (S2.2.2.1 4) (nI q).toNatClampNeg 2)).2.2.1 4 q) = 2 := c_56_4
          refine lv_aload_n hx hb dL_servicesOne_59 rfl (lv_at hl 3 rfl) ?_
          refine lv_iload_n hx hb dL_servicesOne_60 rfl (lv_at hl 4 rfl) ?_
          refine lv_iload_n hx hb dL_servicesOne_61 rfl (lv_at hl 1 rfl) ?_
          refine k_callHn (a := []) (z := []) (wc := (poC o q1 q2 q3 q4 q5 q6 qt (c_sv sv) ++ (stW q1 cI cJ S1 ++ (stW q2 cI cJ (setA S2 4 (upd (S2.2.2.1 4) (nI q).toNatClampNeg 2)) ++ (stW q3 cI cJ S2 ++ (stW q4 cI cJ S3 ++ (stW q5 cI cJ S4 ++ (stW q6 cI cJ S5 ++ (txW qt cI T))))))))) (wc' := (poC o q1 q2 q3 q4 q5 q6 qt (c_sv sv) ++ (stW q1 cI cJ S1 ++ (stW q2 cI cJ (setA S2 4 (upd (S2.2.2.1 4) (nI q).toNatClampNeg 2)) ++ (stW q3 cI cJ S2 ++ (stW q4 cI cJ S3 ++ (stW q5 cI cJ S4 ++ (stW q6 cI cJ S5 ++ (txW qt cI T))))))))) (w' := (poC o q1 q2 q3 q4 q5 q6 qt (c_sv sv) ++ (stW q1 cI cJ S1 ++ (stW q2 cI cJ (setA S2 4 (upd (S2.2.2.1 4) (nI q).toNatClampNeg 2)) ++ (stW q3 cI cJ S2 ++ (stW q4 cI cJ S3 ++ (stW q5 cI cJ S4 ++ (stW q6 cI cJ S5 ++ (txW qt cI T))))))))) (vx_runSW (As := [.ref o, .int (nI q), .int 0]) (rest := []) ⟨hx, hb, hml, hown, hts⟩ (t_L_services_ise l D o q1 q2 q3 q4 q5 q6 qt cI cJ S1 (setA S2 4 (upd (S2.2.2.1 4) (nI q).toNatClampNeg 2)) S2 S3 S4 S5 T (c_sv sv) (nI q) 0 n hn hn6 hst (by rw [A_X4_service_t, if_pos (show p_has (setA S2 4 (upd (S2.2.2.1 4) (nI q).toNatClampNeg 2)) (nI q) = true from hp), if_pos hs2]) _) (vx_cwSW 3 hts gL_servicesOne_L_services rfl rfl rfl (by decide +kernel) ⟨Nat.le_of_ble_eq_true rfl, Nat.le_of_ble_eq_true rfl⟩) ⟨kBH_blind, k_preH (a := []) (z := []) (k_w0 _) hK hP hD hS hA hTT hN⟩ rfl rfl hl.1 rfl (lv_room (Nat.le_of_ble_eq_true rfl)) dL_servicesOne_62 ⟨Nat.le_of_ble_eq_true rfl, Nat.le_of_ble_eq_true rfl⟩) (k_w0 _) (k_w0 _) rfl hP hD hS hA (fun H locs hP hD hS => ?_)
          refine lv_ldc (v := -2000002) hx hb hown (hts (.constant RL 19 (-2000002)) (List.mem_of_getElem? (i := 1) rfl)) dL_servicesOne_65 ?_
          refine lv_icmp_ne (tgt := 74) hx hb dL_servicesOne_67 (by decide) (fun h => absurd h (by decide)) (fun _ => ?_)
          refine lv_iconst (v := 1) hx hb dL_servicesOne_70 (by decide) ?_
          refine lv_goto (tgt := 75) hx hb dL_servicesOne_71 (by decide) ?_
          exact k_hnret (Nat.le_of_ble_eq_true rfl) (Nat.le_of_ble_eq_true rfl) hx hb hr hlk hP hS dL_servicesOne_75 rfl (by first | rfl | (simp only [c_9_0, c_30_1, c_38_2, c_56_4]; done) | (simp [c_9_0, c_30_1, c_38_2, c_56_4]; done)) (fun h => h)
    · have c_30_1 : (S2.2.2.1 4 q) = 1 := c_30_1
      refine lv_iconst (v := 1) hx hb dL_servicesOne_33 (by decide) ?_
      refine lv_goto (tgt := 38) hx hb dL_servicesOne_34 (by decide) ?_
      refine lv_icmp_ne (tgt := 74) hx hb dL_servicesOne_38 (by decide) (fun c_38_6 => ?_) (fun c_38_6 => ?_)
      · have c_38_6 : ¬ (p_was S2 (nI q)) = 1 := c_38_6
        exact absurd (by rw [p_was, hcl]; simp [c_30_1]) c_38_6 -- done
      · have c_38_6 : (p_was S2 (nI q)) = 1 := c_38_6
        refine lv_aload_n hx hb dL_servicesOne_41 rfl (lv_at hl 3 rfl) ?_
        refine lv_iload_n hx hb dL_servicesOne_42 rfl (lv_at hl 4 rfl) ?_
        refine lv_iconst (v := 2) hx hb dL_servicesOne_43 (by decide) ?_
        refine k_calli (a := []) (z := []) (wc := (poC o q1 q2 q3 q4 q5 q6 qt (c_sv sv) ++ (stW q1 cI cJ S1 ++ (stW q2 cI cJ (setA S2 4 (upd (S2.2.2.1 4) (nI q).toNatClampNeg 2)) ++ (stW q3 cI cJ S2 ++ (stW q4 cI cJ S3 ++ (stW q5 cI cJ S4 ++ (stW q6 cI cJ S5 ++ (txW qt cI T))))))))) (wc' := (poC o q1 q2 q3 q4 q5 q6 qt (c_sv sv) ++ (stW q1 cI cJ S1 ++ (stW q2 cI cJ (setA S2 4 (upd (S2.2.2.1 4) (nI q).toNatClampNeg 2)) ++ (stW q3 cI cJ S2 ++ (stW q4 cI cJ S3 ++ (stW q5 cI cJ S4 ++ (stW q6 cI cJ S5 ++ (txW qt cI T))))))))) (w' := (poC o q1 q2 q3 q4 q5 q6 qt (c_sv sv) ++ (stW q1 cI cJ S1 ++ (stW q2 cI cJ (setA S2 4 (upd (S2.2.2.1 4) (nI q).toNatClampNeg 2)) ++ (stW q3 cI cJ S2 ++ (stW q4 cI cJ S3 ++ (stW q5 cI cJ S4 ++ (stW q6 cI cJ S5 ++ (txW qt cI T))))))))) (vx_runSW (As := [.ref o, .int (nI q), .int 2]) (rest := []) ⟨hx, hb, hml, hown, hts⟩ (m_L_pump l D o q1 q2 q3 q4 q5 q6 qt cI cJ S1 (setA S2 4 (upd (S2.2.2.1 4) (nI q).toNatClampNeg 2)) S2 S3 S4 S5 T (c_sv sv) (nI q) 2 n hn hn6 hp (by decide) _) (vx_cwSW 3 hts gL_servicesOne_L_pump rfl rfl rfl (by decide +kernel) ⟨Nat.le_of_ble_eq_true rfl, Nat.le_of_ble_eq_true rfl⟩) ⟨kB_blind, k_pre (a := []) (z := []) (k_w0 _) hK hP hD⟩ rfl rfl hl.1 rfl (lv_room (Nat.le_of_ble_eq_true rfl)) dL_servicesOne_44 ⟨Nat.le_of_ble_eq_true rfl, Nat.le_of_ble_eq_true rfl⟩) (k_w0 _) (k_w0 _) rfl hP hD hS hA (fun H locs hP hD hS => ?_)
        rw [show p_fact (setA S2 4 (upd (S2.2.2.1 4) (nI q).toNatClampNeg 2)) (nI q) 2 = (setA S2 4 (upd (S2.2.2.1 4) (nI q).toNatClampNeg 2)).2.2.1 4 q from pf_2 hp (by omega)]
        refine lv_iload_n hx hb dL_servicesOne_47 rfl (lv_at hl 1 rfl) ?_
        refine lv_if_eq (tgt := 55) hx hb dL_servicesOne_48 (by decide) (fun _ => ?_) (fun h => absurd h (by decide))
        refine lv_iconst (v := 2) hx hb dL_servicesOne_55 (by decide) ?_
        refine lv_icmp_ne (tgt := 74) hx hb dL_servicesOne_56 (by decide) (fun c_56_8 => ?_) (fun c_56_8 => ?_)
        · have c_56_8 : ¬ ((setA S2 4 (upd (S2.2.2.1 4) (nI q).toNatClampNeg 2)).2.2.1 4 q) = 2 := c_56_8
          exact absurd (svc_set hq9 _) c_56_8 -- done
        · have c_56_8 : ((setA S2 4 (upd (S2.2.2.1 4) (nI q).toNatClampNeg 2)).2.2.1 4 q) = 2 := c_56_8
          refine lv_aload_n hx hb dL_servicesOne_59 rfl (lv_at hl 3 rfl) ?_
          refine lv_iload_n hx hb dL_servicesOne_60 rfl (lv_at hl 4 rfl) ?_
          refine lv_iload_n hx hb dL_servicesOne_61 rfl (lv_at hl 1 rfl) ?_
          refine k_callHn (a := []) (z := []) (wc := (poC o q1 q2 q3 q4 q5 q6 qt (c_sv sv) ++ (stW q1 cI cJ S1 ++ (stW q2 cI cJ (setA S2 4 (upd (S2.2.2.1 4) (nI q).toNatClampNeg 2)) ++ (stW q3 cI cJ S2 ++ (stW q4 cI cJ S3 ++ (stW q5 cI cJ S4 ++ (stW q6 cI cJ S5 ++ (txW qt cI T))))))))) (wc' := (poC o q1 q2 q3 q4 q5 q6 qt (c_sv sv) ++ (stW q1 cI cJ S1 ++ (stW q2 cI cJ (setA S2 4 (upd (S2.2.2.1 4) (nI q).toNatClampNeg 2)) ++ (stW q3 cI cJ S2 ++ (stW q4 cI cJ S3 ++ (stW q5 cI cJ S4 ++ (stW q6 cI cJ S5 ++ (txW qt cI T))))))))) (w' := (poC o q1 q2 q3 q4 q5 q6 qt (c_sv sv) ++ (stW q1 cI cJ S1 ++ (stW q2 cI cJ (setA S2 4 (upd (S2.2.2.1 4) (nI q).toNatClampNeg 2)) ++ (stW q3 cI cJ S2 ++ (stW q4 cI cJ S3 ++ (stW q5 cI cJ S4 ++ (stW q6 cI cJ S5 ++ (txW qt cI T))))))))) (vx_runSW (As := [.ref o, .int (nI q), .int 0]) (rest := []) ⟨hx, hb, hml, hown, hts⟩ (t_L_services_ise l D o q1 q2 q3 q4 q5 q6 qt cI cJ S1 (setA S2 4 (upd (S2.2.2.1 4) (nI q).toNatClampNeg 2)) S2 S3 S4 S5 T (c_sv sv) (nI q) 0 n hn hn6 hst (by rw [A_X4_service_t, if_pos (show p_has (setA S2 4 (upd (S2.2.2.1 4) (nI q).toNatClampNeg 2)) (nI q) = true from hp), if_pos hs2]) _) (vx_cwSW 3 hts gL_servicesOne_L_services rfl rfl rfl (by decide +kernel) ⟨Nat.le_of_ble_eq_true rfl, Nat.le_of_ble_eq_true rfl⟩) ⟨kBH_blind, k_preH (a := []) (z := []) (k_w0 _) hK hP hD hS hA hTT hN⟩ rfl rfl hl.1 rfl (lv_room (Nat.le_of_ble_eq_true rfl)) dL_servicesOne_62 ⟨Nat.le_of_ble_eq_true rfl, Nat.le_of_ble_eq_true rfl⟩) (k_w0 _) (k_w0 _) rfl hP hD hS hA (fun H locs hP hD hS => ?_)
          refine lv_ldc (v := -2000002) hx hb hown (hts (.constant RL 19 (-2000002)) (List.mem_of_getElem? (i := 1) rfl)) dL_servicesOne_65 ?_
          refine lv_icmp_ne (tgt := 74) hx hb dL_servicesOne_67 (by decide) (fun h => absurd h (by decide)) (fun _ => ?_)
          refine lv_iconst (v := 1) hx hb dL_servicesOne_70 (by decide) ?_
          refine lv_goto (tgt := 75) hx hb dL_servicesOne_71 (by decide) ?_
          exact k_hnret (Nat.le_of_ble_eq_true rfl) (Nat.le_of_ble_eq_true rfl) hx hb hr hlk hP hS dL_servicesOne_75 rfl (by first | rfl | (simp only [c_9_0, c_30_1, c_38_6, c_56_8]; done) | (simp [c_9_0, c_30_1, c_38_6, c_56_8]; done)) (fun h => h)
  · have c_9_0 : (S2.2.2.1 4 q) = 2 := c_9_0
    exact absurd c_9_0 hm
