def t_new : TS := (fun _ => 0, fun _ _ => 0)
set_option maxRecDepth 100000 in
theorem lw_perm {D : va_G} {A : Nat → Prop} {cI cJ : ClassId} {H : Heap} (v : Nat → Nat) (hP : va_P D vwCl ([((v 0), .inr (4, [.ref (v 1), .ref (v 16), .ref (v 31), .ref (v 46), .ref (v 61), .ref (v 76), .ref (v 91), .int 0]))] ++ (stW (fun i => v (1 + i)) cI cJ s_new ++ (stW (fun i => v (16 + i)) cI cJ s_new ++ (stW (fun i => v (31 + i)) cI cJ s_new ++ (stW (fun i => v (46 + i)) cI cJ s_new ++ (stW (fun i => v (61 + i)) cI cJ s_new ++ (stW (fun i => v (76 + i)) cI cJ s_new ++ ([((v 91), .inr (1, [.ref (v 92), .ref (v 93), .int 0, .int 0, .int 0, .int 0])), ((v 92), .inl (cI, 100, .inl (fun _ => 0))), ((v 93), .inl (cI, 102, .inl (fun _ => 0)))])))))))) H) (hD : va_D A ([((v 0), .inr (4, [.ref (v 1), .ref (v 16), .ref (v 31), .ref (v 46), .ref (v 61), .ref (v 76), .ref (v 91), .int 0]))] ++ (stW (fun i => v (1 + i)) cI cJ s_new ++ (stW (fun i => v (16 + i)) cI cJ s_new ++ (stW (fun i => v (31 + i)) cI cJ s_new ++ (stW (fun i => v (46 + i)) cI cJ s_new ++ (stW (fun i => v (61 + i)) cI cJ s_new ++ (stW (fun i => v (76 + i)) cI cJ s_new ++ ([((v 91), .inr (1, [.ref (v 92), .ref (v 93), .int 0, .int 0, .int 0, .int 0])), ((v 92), .inl (cI, 100, .inl (fun _ => 0))), ((v 93), .inl (cI, 102, .inl (fun _ => 0)))]))))))))) : ∃ (o : Nat) (q1 q2 q3 q4 q5 q6 qt : Nat → Nat), o = v 0 ∧ va_P D vwCl (poW o q1 q2 q3 q4 q5 q6 qt cI cJ s_new s_new s_new s_new s_new s_new t_new 0) H ∧ va_D A (poW o q1 q2 q3 q4 q5 q6 qt cI cJ s_new s_new s_new s_new s_new s_new t_new 0) :=
  ⟨v 0, (fun i => v (16 + i)), (fun i => v (1 + i)), (fun i => v (31 + i)), (fun i => v (46 + i)), (fun i => v (61 + i)), (fun i => v (76 + i)), (fun i => v (91 + i)), rfl,
    hP.sub (ws' := (poW (v 0) (fun i => v (16 + i)) (fun i => v (1 + i)) (fun i => v (31 + i)) (fun i => v (46 + i)) (fun i => v (61 + i)) (fun i => v (76 + i)) (fun i => v (91 + i)) cI cJ s_new s_new s_new s_new s_new s_new t_new 0)) [0, 16, 17, 18, 19, 20, 21, 22, 23, 24, 25, 26, 27, 28, 29, 30, 1, 2, 3, 4, 5, 6, 7, 8, 9, 10, 11, 12, 13, 14, 15, 31, 32, 33, 34, 35, 36, 37, 38, 39, 40, 41, 42, 43, 44, 45, 46, 47, 48, 49, 50, 51, 52, 53, 54, 55, 56, 57, 58, 59, 60, 61, 62, 63, 64, 65, 66, 67, 68, 69, 70, 71, 72, 73, 74, 75, 76, 77, 78, 79, 80, 81, 82, 83, 84, 85, 86, 87, 88, 89, 90, 91, 92, 93] rfl,
    hD.sub (ws' := (poW (v 0) (fun i => v (16 + i)) (fun i => v (1 + i)) (fun i => v (31 + i)) (fun i => v (46 + i)) (fun i => v (61 + i)) (fun i => v (76 + i)) (fun i => v (91 + i)) cI cJ s_new s_new s_new s_new s_new s_new t_new 0)) [0, 16, 17, 18, 19, 20, 21, 22, 23, 24, 25, 26, 27, 28, 29, 30, 1, 2, 3, 4, 5, 6, 7, 8, 9, 10, 11, 12, 13, 14, 15, 31, 32, 33, 34, 35, 36, 37, 38, 39, 40, 41, 42, 43, 44, 45, 46, 47, 48, 49, 50, 51, 52, 53, 54, 55, 56, 57, 58, 59, 60, 61, 62, 63, 64, 65, 66, 67, 68, 69, 70, 71, 72, 73, 74, 75, 76, 77, 78, 79, 80, 81, 82, 83, 84, 85, 86, 87, 88, 89, 90, 91, 92, 93] (by decide +kernel) rfl⟩
theorem lw_inNs : ∀ q ∈ kNs4, Cond.methodLinkNest q.1 q.2.1 q.2.2.1 q.2.2.2 ∈ lw_tbl := by decide +kernel
set_option maxHeartbeats 1000000 in
set_option maxRecDepth 100000 in
theorem whole_start {p : Program} {e : Env} {s : State} {m : MethodId} {below : List Frame} {meth : Method} {c : Code} (l : Launch) (hflags : l.flags = flags0) {b L : Nat} {xs : Nat → Int32} (hL : L ≤ 260) (C0 : lw_At p s m meth c b L xs) : W p l e room_1 s m #[Value.ref b] below meth c s.heap [] 0 0 (lw_Z below #[Value.ref b] s) (entryFrame m ([Value.ref b] : List Value).toArray 14) := by
  have hTT := lw_kT C0
  have hN := lw_kN3 C0
  obtain ⟨D, cI, cJ, hK⟩ := lw_K C0
  obtain ⟨hx, hb, hr, hml, hown, hts0, hX, hbl, hlk, hgv⟩ := C0
  have hb : c.code = cL_law := hb
  have hown : s.vm.findClass RL = some m.cls := hown
  have hts : ∀ w ∈ wsL_law, w.before #[Value.ref b] s = true := fun w h => hts0 w (wsL_law_in w h)
  have hst : l.stackTraces = false := by
    show (!l.flags.contains noTraceFlag) = false
    rw [hflags]
    decide +kernel
  have hNN : ∀ q ∈ kNs4, va_Nw (.methodLinkNest q.1 q.2.1 q.2.2.1 q.2.2.2) s := fun q hq => va_Nw.of rfl (hts0 _ (lw_inNs q hq))
  have hA : ∀ q : Nat, s.heap.size ≤ q → A0 s q := fun _ h => h
  have hS : va_S (A0 s) s.heap s.heap [] := va_S.rf
  have hP : va_P D vwCl [] s.heap := fun k q h => by simp at h
  have hD : va_D (A0 s) [] := ⟨fun i j p q h => by simp at h, fun k q h => by simp at h⟩
  have hl := lv_entry ([.ref b]) (n := 14) (Nat.le_of_ble_eq_true rfl)
  rw [lg_entry_eq]
  generalize (lg_sl ([.ref b]) ++ List.replicate (14 - (lg_sl ([.ref b])).length) Slot.unset).toArray = ls at hl ⊢
  have hl : lv_has ls 14 [(0, .ref b)] := hl
  refine va_new (ci := 4) (fs := [.null, .null, .null, .null, .null, .null, .null, .int 0]) (C := RX4) (T := TX4) (N := 8) hx hb hts inlX4 tyX4 tyX4_ok hown (hts (.classLink RL 9 RX4) (List.mem_of_getElem? (i := 0) rfl)) (hts (.instantiable RX4 8) (List.mem_of_getElem? (i := 1) rfl)) (hts (.initialized RX4) (List.mem_of_getElem? (i := 2) rfl)) hK hP hD hS hA rfl (by decide +kernel) (Nat.le_of_ble_eq_true rfl) (Nat.le_of_ble_eq_true rfl) dL_law_0 (fun z1 H hP hD hS => ?_)
  have hP : va_P D vwCl [(z1, .inr (4, [.null, .null, .null, .null, .null, .null, .null, .int 0]))] H := hP
  have hD : va_D (A0 s) [(z1, .inr (4, [.null, .null, .null, .null, .null, .null, .null, .int 0]))] := hD
  refine W.widen (k := 1) (n := 8) (Nat.le_of_ble_eq_true rfl) (Nat.le_of_ble_eq_true rfl) ?_
  refine lv_dup hx hb dL_law_3 rfl ?_
  refine k_callN (wr := []) (wc := [(z1, .inr (4, [.null, .null, .null, .null, .null, .null, .null, .int 0]))]) (W' := (fun v : Nat → Nat => ([((v 0), .inr (4, [.ref (v 1), .ref (v 16), .ref (v 31), .ref (v 46), .ref (v 61), .ref (v 76), .ref (v 91), .int 0]))] ++ (stW (fun i => v (1 + i)) cI cJ s_new ++ (stW (fun i => v (16 + i)) cI cJ s_new ++ (stW (fun i => v (31 + i)) cI cJ s_new ++ (stW (fun i => v (46 + i)) cI cJ s_new ++ (stW (fun i => v (61 + i)) cI cJ s_new ++ (stW (fun i => v (76 + i)) cI cJ s_new ++ ([((v 91), .inr (1, [.ref (v 92), .ref (v 93), .int 0, .int 0, .int 0, .int 0])), ((v 92), .inl (cI, 100, .inl (fun _ => 0))), ((v 93), .inl (cI, 102, .inl (fun _ => 0)))])))))))))) (va_runI (As := []) (rest := [.ref z1]) ⟨hx, hb, hml, hown, hts⟩ (c_X4_init l D z1 cI cJ _) (cwI 0 hts gL_law_X4_init rfl rfl rfl (hts (.initialized RX4) (List.mem_of_getElem? (i := 2) rfl)) (hts (.methodLink RL 134 yX4_init) (List.mem_of_getElem? (i := 5) rfl)) (hts (.instanceMethod yX4_init) (List.mem_of_getElem? (i := 6) rfl)) rfl (by decide +kernel) ⟨Nat.le_of_ble_eq_true rfl, Nat.le_of_ble_eq_true rfl⟩) ⟨kBN_blind, k_preN (a := []) (z := []) rfl hK hP hD hNN⟩ rfl rfl hl.1 rfl (lv_room (Nat.le_of_ble_eq_true rfl)) dL_law_4 ⟨Nat.le_of_ble_eq_true rfl, Nat.le_of_ble_eq_true rfl⟩) hP hD hS hA [0] [] rfl rfl (by decide) (by decide) (fun v1 H locs hu hP2 hD2 hS => ?_)
  obtain ⟨o, q1, q2, q3, q4, q5, q6, qt, ho, hP, hD⟩ := lw_perm v1 hP2 hD2
  rw [show z1 = o from (ho.trans hu).symm]
  clear hP2 hD2 hu ho
  refine W.widen (k := 94) (n := 1068) (Nat.le_of_ble_eq_true rfl) (Nat.le_of_ble_eq_true rfl) ?_
  refine lv_astore_n (lv' := [(1, .ref o), (0, .ref b)]) hx hb dL_law_7 rfl hl (by decide) rfl (fun ls hl => ?_)
  obtain ⟨s9z, z13, hH⟩ := f_holds j_new (by omega) (b := 5000) (by first | rfl | decide)
  have j8 := (J_n j_new).1
  refine lv_ldc2 (v := 5000) hx hb hown (hts (.constantLong RL 135 (5000)) (List.mem_of_getElem? (i := 3) rfl)) dL_law_8 ?_
  refine lv_lstore_n (lv' := [(2, .long 5000), (1, .ref o), (0, .ref b)]) hx hb dL_law_11 rfl hl (by decide) rfl (fun ls hl => ?_)
  refine lv_aload_n hx hb dL_law_12 rfl (lv_at hl 1 rfl) ?_
  refine lv_lload_n hx hb dL_law_13 rfl (lv_at hl 0 rfl) ?_
  refine k_calli (a := []) (z := []) (wc := (poC o q1 q2 q3 q4 q5 q6 qt 0 ++ (stW q1 cI cJ s_new ++ (stW q2 cI cJ s_new ++ (stW q3 cI cJ s_new ++ (stW q4 cI cJ s_new ++ (stW q5 cI cJ s_new ++ (stW q6 cI cJ s_new ++ (txW qt cI t_new))))))))) (wc' := (poC o q1 q2 q3 q4 q5 q6 qt 0 ++ (stW q1 cI cJ s_new ++ (stW q2 cI cJ s_new ++ (stW q3 cI cJ s_new ++ (stW q4 cI cJ s_new ++ (stW q5 cI cJ s_new ++ (stW q6 cI cJ s_new ++ (txW qt cI t_new))))))))) (w' := (poC o q1 q2 q3 q4 q5 q6 qt 0 ++ (stW q1 cI cJ s_new ++ (stW q2 cI cJ s_new ++ (stW q3 cI cJ s_new ++ (stW q4 cI cJ s_new ++ (stW q5 cI cJ s_new ++ (stW q6 cI cJ s_new ++ (txW qt cI t_new))))))))) (va_runS (As := [.ref o, .long 5000]) (rest := []) ⟨hx, hb, hml, hown, hts⟩ (c_L_holds l D o q1 q2 q3 q4 q5 q6 qt cI cJ s_new s_new s_new s_new s_new s_new t_new 0 5000 0 j8 (by decide) (z_new 13) s9z z13 hH _) (cwS 2 hts gL_law_L_holds rfl rfl rfl (by decide +kernel) ⟨Nat.le_of_ble_eq_true rfl, Nat.le_of_ble_eq_true rfl⟩) ⟨kB_blind, k_pre (a := []) (z := []) (k_w0 _) hK hP hD⟩ rfl rfl hl.1 rfl (lv_room (Nat.le_of_ble_eq_true rfl)) dL_law_14 ⟨Nat.le_of_ble_eq_true rfl, Nat.le_of_ble_eq_true rfl⟩) (k_w0 _) (k_w0 _) (poW_ad _ _ _ _ _ _ _ _ _ _ _ _ _ _ _ _ _ _ _ _ _ _ _ _ _ _) hP hD hS hA (fun H locs hP hD hS => ?_)
  refine lv_if_eq (tgt := 33) hx hb dL_law_17 (by decide) (fun h => absurd h (by decide)) (fun _ => ?_)
  refine lv_aload_n hx hb dL_law_20 rfl (lv_at hl 1 rfl) ?_
  refine k_callHn (a := []) (z := []) (wc := (poC o q1 q2 q3 q4 q5 q6 qt 0 ++ (stW q1 cI cJ s_new ++ (stW q2 cI cJ s_new ++ (stW q3 cI cJ s_new ++ (stW q4 cI cJ s_new ++ (stW q5 cI cJ s_new ++ (stW q6 cI cJ s_new ++ (txW qt cI t_new))))))))) (wc' := (poC o q1 q2 q3 q4 q5 q6 qt 0 ++ (stW q1 cI cJ s_new ++ (stW q2 cI cJ s_new ++ (stW q3 cI cJ s_new ++ (stW q4 cI cJ s_new ++ (stW q5 cI cJ s_new ++ (stW q6 cI cJ s_new ++ (txW qt cI t_new))))))))) (w' := (poC o q1 q2 q3 q4 q5 q6 qt 0 ++ (stW q1 cI cJ s_new ++ (stW q2 cI cJ s_new ++ (stW q3 cI cJ s_new ++ (stW q4 cI cJ s_new ++ (stW q5 cI cJ s_new ++ (stW q6 cI cJ s_new ++ (txW qt cI t_new))))))))) (vx_runSW (As := [.ref o]) (rest := []) ⟨hx, hb, hml, hown, hts⟩ (t_L_undoes_ise l D o q1 q2 q3 q4 q5 q6 qt cI cJ s_new s_new s_new s_new s_new s_new t_new 0  hst (by rw [A_X4_undo_t, if_pos rfl]) _) (vx_cwSW 1 hts gL_law_L_undoes rfl rfl rfl (by decide +kernel) ⟨Nat.le_of_ble_eq_true rfl, Nat.le_of_ble_eq_true rfl⟩) ⟨kBH_blind, k_preH (a := []) (z := []) (k_w0 _) hK hP hD hS hA hTT hN⟩ rfl rfl hl.1 rfl (lv_room (Nat.le_of_ble_eq_true rfl)) dL_law_21 ⟨Nat.le_of_ble_eq_true rfl, Nat.le_of_ble_eq_true rfl⟩) (k_w0 _) (k_w0 _) (poW_ad _ _ _ _ _ _ _ _ _ _ _ _ _ _ _ _ _ _ _ _ _ _ _ _ _ _) hP hD hS hA (fun H locs hP hD hS => ?_)
  refine lv_ldc (v := -2000001) hx hb hown (hts (.constant RL 16 (-2000001)) (List.mem_of_getElem? (i := 4) rfl)) dL_law_24 ?_
  refine lv_icmp_ne (tgt := 33) hx hb dL_law_26 (by decide) (fun h => absurd h (by decide)) (fun _ => ?_)
  refine lv_iconst (v := 1) hx hb dL_law_29 (by decide) ?_
  refine lv_goto (tgt := 34) hx hb dL_law_30 (by decide) ?_
  refine lv_istore (lv' := [(4, .int 1), (2, .long 5000), (1, .ref o), (0, .ref b)]) hx hb dL_law_34 hl (by decide) rfl (fun ls hl => ?_)
  refine lv_iconst (v := 0) hx hb dL_law_36 (by decide) ?_
  refine lv_istore (lv' := [(5, .int 0), (4, .int 1), (2, .long 5000), (1, .ref o), (0, .ref b)]) hx hb dL_law_37 hl (by decide) rfl (fun ls hl => ?_)
  exact lw_first ⟨hx, hb, hr, hml, hown, hts, hX, hbl, hlk, hK, hTT, hN, hst, hL⟩ 3 0 (by omega) (by omega) s_new s_new s_new s_new s_new s_new t_new 0 ⟨z_new, fun _ => 0, 0, 5000, 0, j_new, by first | rfl | decide, rfl, by omega, by omega⟩ rfl rfl _ _ _ hP hD hS (lv_sub hl [4, 3, 2, 1, 0] rfl)
