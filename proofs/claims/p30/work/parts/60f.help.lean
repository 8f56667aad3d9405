set_option maxHeartbeats 1000000 in
set_option maxRecDepth 100000 in
theorem t_L_levels_iae (l : Launch) (D : va_G) (o : Nat) (q1 q2 q3 q4 q5 q6 qt : Nat → Nat) (cI cJ : ClassId) (S1 S2 S3 S4 S5 S6 : SS) (T : TS) (sv : Int32) (x : Int32)  (hst : l.stackTraces = false) (hth : A_X4_setLevel_t S1 S2 S3 S4 S5 S6 T sv x = some iae) : kHn l yL_levels wsL_levels ({ frames := 7, cells := 1, slots := 6, locals := 124 } : Room) 1 6 D [(cI, .int), (cJ, .long)] [.ref o, .int x] (poC o q1 q2 q3 q4 q5 q6 qt sv ++ (stW q1 cI cJ S1 ++ (stW q2 cI cJ S2 ++ (stW q3 cI cJ S3 ++ (stW q4 cI cJ S4 ++ (stW q5 cI cJ S5 ++ (stW q6 cI cJ S6 ++ (txW qt cI T)))))))) (-2000001) (poC o q1 q2 q3 q4 q5 q6 qt sv ++ (stW q1 cI cJ S1 ++ (stW q2 cI cJ S2 ++ (stW q3 cI cJ S3 ++ (stW q4 cI cJ S4 ++ (stW q5 cI cJ S5 ++ (stW q6 cI cJ S6 ++ (txW qt cI T)))))))) := by
  refine kHBody.met (cc := cL_levels) (maxL := 3) (ret := (some .int)) (hh := [(0, 5, 6, 14), (0, 5, 10, 17)]) (by decide) rfl (Nat.le_of_ble_eq_true rfl) ?_
  intro p9 e9 s9 m9 below meth c9 A9 ls hx hb hr hml hts hown hlk hK hP hD hA hTT hN htb hl
  have hown : s9.vm.findClass RL = some m9.cls := hown
  have hS : va_S A9 s9.heap s9.heap [] := va_S.rf
  have hl : lv_has ls 3 [(0, .ref o), (1, .int x)] := hl
  refine lv_aload_n hx hb dL_levels_0 rfl (lv_at hl 0 rfl) ?_
  refine lv_iload_n hx hb dL_levels_1 rfl (lv_at hl 1 rfl) ?_
  refine k_hcalli (a := []) (z := []) (wc := (poC o q1 q2 q3 q4 q5 q6 qt sv ++ (stW q1 cI cJ S1 ++ (stW q2 cI cJ S2 ++ (stW q3 cI cJ S3 ++ (stW q4 cI cJ S4 ++ (stW q5 cI cJ S5 ++ (stW q6 cI cJ S6 ++ (txW qt cI T))))))))) (vx_runV (As := [.int x]) (rest := []) ⟨hx, hb, hml, hown, hts⟩ (c_X4_setLevel l D o q1 q2 q3 q4 q5 q6 qt cI cJ S1 S2 S3 S4 S5 S6 T sv x hst _) (cwV 1 hts gL_levels_X4_setLevel rfl rfl rfl (by decide +kernel) ⟨Nat.le_of_ble_eq_true rfl, Nat.le_of_ble_eq_true rfl⟩) ⟨kBT_blind, va_recv hK hP (ci := 4) (q0 := 0) rfl rfl, k_preT (a := []) (z := []) (k_w0 _) hK hP hD hS hA hTT⟩ rfl rfl hl.1 rfl (lv_room (Nat.le_of_ble_eq_true rfl)) dL_levels_2 ⟨Nat.le_of_ble_eq_true rfl, Nat.le_of_ble_eq_true rfl⟩) (k_w0 _) rfl hP hD hS hA (fun E ce q9 H locs ht hP hD hS hce hcv hcl => ?_) (fun H locs ht hP hD hS => absurd (ht.symm.trans hth) (fun z => nomatch z))
  have hE : E = iae := Option.some.inj (ht.symm.trans hth)
  subst hE
  refine vx_catch (own := RL) (name := iae) (E := iae) hown [] ⟨0, 5, 6, 14⟩ [⟨0, 5, 10, 17⟩] htb (fun z hz => nomatch hz) rfl (by decide) (hts (.classLink RL 14 "java/lang/IllegalArgumentException") (List.mem_of_getElem? (i := 1) rfl)) (va_Nw.use rfl (hTT.2.2.1 iae (by decide))) hce hcv hcl ?_
  refine lv_astore_n (lv' := [(2, .ref q9), (0, .ref o), (1, .int x)]) hx hb dL_levels_6 rfl hl (by decide) rfl (fun ls hl => ?_)
  refine lv_ldc (v := -2000001) hx hb hown (hts (.constant RL 16 (-2000001)) (List.mem_of_getElem? (i := 3) rfl)) dL_levels_7 ?_
  exact k_hret (Nat.le_refl 1) (Nat.le_refl 6) hx hb hr hlk hP hS dL_levels_9 rfl rfl

set_option maxHeartbeats 1000000 in
set_option maxRecDepth 100000 in
theorem t_L_levels_ise (l : Launch) (D : va_G) (o : Nat) (q1 q2 q3 q4 q5 q6 qt : Nat → Nat) (cI cJ : ClassId) (S1 S2 S3 S4 S5 S6 : SS) (T : TS) (sv : Int32) (x : Int32)  (hst : l.stackTraces = false) (hth : A_X4_setLevel_t S1 S2 S3 S4 S5 S6 T sv x = some ise) : kHn l yL_levels wsL_levels ({ frames := 7, cells := 1, slots := 6, locals := 124 } : Room) 1 6 D [(cI, .int), (cJ, .long)] [.ref o, .int x] (poC o q1 q2 q3 q4 q5 q6 qt sv ++ (stW q1 cI cJ S1 ++ (stW q2 cI cJ S2 ++ (stW q3 cI cJ S3 ++ (stW q4 cI cJ S4 ++ (stW q5 cI cJ S5 ++ (stW q6 cI cJ S6 ++ (txW qt cI T)))))))) (-2000002) (poC o q1 q2 q3 q4 q5 q6 qt sv ++ (stW q1 cI cJ S1 ++ (stW q2 cI cJ S2 ++ (stW q3 cI cJ S3 ++ (stW q4 cI cJ S4 ++ (stW q5 cI cJ S5 ++ (stW q6 cI cJ S6 ++ (txW qt cI T)))))))) := by
  refine kHBody.met (cc := cL_levels) (maxL := 3) (ret := (some .int)) (hh := [(0, 5, 6, 14), (0, 5, 10, 17)]) (by decide) rfl (Nat.le_of_ble_eq_true rfl) ?_
  intro p9 e9 s9 m9 below meth c9 A9 ls hx hb hr hml hts hown hlk hK hP hD hA hTT hN htb hl
  have hown : s9.vm.findClass RL = some m9.cls := hown
  have hS : va_S A9 s9.heap s9.heap [] := va_S.rf
  have hl : lv_has ls 3 [(0, .ref o), (1, .int x)] := hl
  refine lv_aload_n hx hb dL_levels_0 rfl (lv_at hl 0 rfl) ?_
  refine lv_iload_n hx hb dL_levels_1 rfl (lv_at hl 1 rfl) ?_
  refine k_hcalli (a := []) (z := []) (wc := (poC o q1 q2 q3 q4 q5 q6 qt sv ++ (stW q1 cI cJ S1 ++ (stW q2 cI cJ S2 ++ (stW q3 cI cJ S3 ++ (stW q4 cI cJ S4 ++ (stW q5 cI cJ S5 ++ (stW q6 cI cJ S6 ++ (txW qt cI T))))))))) (vx_runV (As := [.int x]) (rest := []) ⟨hx, hb, hml, hown, hts⟩ (c_X4_setLevel l D o q1 q2 q3 q4 q5 q6 qt cI cJ S1 S2 S3 S4 S5 S6 T sv x hst _) (cwV 1 hts gL_levels_X4_setLevel rfl rfl rfl (by decide +kernel) ⟨Nat.le_of_ble_eq_true rfl, Nat.le_of_ble_eq_true rfl⟩) ⟨kBT_blind, va_recv hK hP (ci := 4) (q0 := 0) rfl rfl, k_preT (a := []) (z := []) (k_w0 _) hK hP hD hS hA hTT⟩ rfl rfl hl.1 rfl (lv_room (Nat.le_of_ble_eq_true rfl)) dL_levels_2 ⟨Nat.le_of_ble_eq_true rfl, Nat.le_of_ble_eq_true rfl⟩) (k_w0 _) rfl hP hD hS hA (fun E ce q9 H locs ht hP hD hS hce hcv hcl => ?_) (fun H locs ht hP hD hS => absurd (ht.symm.trans hth) (fun z => nomatch z))
  have hE : E = ise := Option.some.inj (ht.symm.trans hth)
  subst hE
  refine vx_catch (own := RL) (name := ise) (E := ise) hown [⟨0, 5, 6, 14⟩] ⟨0, 5, 10, 17⟩ [] htb (fun z hz => by cases List.mem_singleton.mp hz; exact Or.inr ⟨by decide, iae, (hts (.classLink RL 14 "java/lang/IllegalArgumentException") (List.mem_of_getElem? (i := 1) rfl)), hN.1⟩) rfl (by decide) (hts (.classLink RL 17 "java/lang/IllegalStateException") (List.mem_of_getElem? (i := 2) rfl)) (va_Nw.use rfl (hTT.2.2.1 ise (by decide))) hce hcv hcl ?_
  refine lv_astore_n (lv' := [(2, .ref q9), (0, .ref o), (1, .int x)]) hx hb dL_levels_10 rfl hl (by decide) rfl (fun ls hl => ?_)
  refine lv_ldc (v := -2000002) hx hb hown (hts (.constant RL 19 (-2000002)) (List.mem_of_getElem? (i := 4) rfl)) dL_levels_11 ?_
  exact k_hret (Nat.le_refl 1) (Nat.le_refl 6) hx hb hr hlk hP hS dL_levels_13 rfl rfl

set_option maxHeartbeats 1000000 in
set_option maxRecDepth 100000 in
theorem t_L_passes_iae (l : Launch) (D : va_G) (o : Nat) (q1 q2 q3 q4 q5 q6 qt : Nat → Nat) (cI cJ : ClassId) (S1 S2 S3 S4 S5 S6 : SS) (T : TS) (sv : Int32) (x : Int32) (n : Nat) (hn : S2.1 8 = nI n) (hn6 : n ≤ 6) (hst : l.stackTraces = false) (hth : A_X4_pass_t S1 S2 S3 S4 S5 S6 T sv n x = some iae) : kHn l yL_passes wsL_passes ({ frames := 7, cells := 1, slots := 6, locals := 150 } : Room) 1 6 D [(cI, .int), (cJ, .long)] [.ref o, .int x] (poC o q1 q2 q3 q4 q5 q6 qt sv ++ (stW q1 cI cJ S1 ++ (stW q2 cI cJ S2 ++ (stW q3 cI cJ S3 ++ (stW q4 cI cJ S4 ++ (stW q5 cI cJ S5 ++ (stW q6 cI cJ S6 ++ (txW qt cI T)))))))) (-2000001) (poC o q1 q2 q3 q4 q5 q6 qt sv ++ (stW q1 cI cJ S1 ++ (stW q2 cI cJ S2 ++ (stW q3 cI cJ S3 ++ (stW q4 cI cJ S4 ++ (stW q5 cI cJ S5 ++ (stW q6 cI cJ S6 ++ (txW qt cI T)))))))) := by
  refine kHBody.met (cc := cL_passes) (maxL := 3) (ret := (some .int)) (hh := [(0, 5, 6, 14), (0, 5, 10, 17)]) (by decide) rfl (Nat.le_of_ble_eq_true rfl) ?_
  intro p9 e9 s9 m9 below meth c9 A9 ls hx hb hr hml hts hown hlk hK hP hD hA hTT hN htb hl
  have hown : s9.vm.findClass RL = some m9.cls := hown
  have hS : va_S A9 s9.heap s9.heap [] := va_S.rf
  have hl : lv_has ls 3 [(0, .ref o), (1, .int x)] := hl
  refine lv_aload_n hx hb dL_passes_0 rfl (lv_at hl 0 rfl) ?_
  refine lv_iload_n hx hb dL_passes_1 rfl (lv_at hl 1 rfl) ?_
  refine k_hcalli (a := []) (z := []) (wc := (poC o q1 q2 q3 q4 q5 q6 qt sv ++ (stW q1 cI cJ S1 ++ (stW q2 cI cJ S2 ++ (stW q3 cI cJ S3 ++ (stW q4 cI cJ S4 ++ (stW q5 cI cJ S5 ++ (stW q6 cI cJ S6 ++ (txW qt cI T))))))))) (vx_runV (As := [.int x]) (rest := []) ⟨hx, hb, hml, hown, hts⟩ (c_X4_pass l D o q1 q2 q3 q4 q5 q6 qt cI cJ S1 S2 S3 S4 S5 S6 T sv x n hn hn6 hst _) (cwV 1 hts gL_passes_X4_pass rfl rfl rfl (by decide +kernel) ⟨Nat.le_of_ble_eq_true rfl, Nat.le_of_ble_eq_true rfl⟩) ⟨kBT_blind, va_recv hK hP (ci := 4) (q0 := 0) rfl rfl, k_preT (a := []) (z := []) (k_w0 _) hK hP hD hS hA hTT⟩ rfl rfl hl.1 rfl (lv_room (Nat.le_of_ble_eq_true rfl)) dL_passes_2 ⟨Nat.le_of_ble_eq_true rfl, Nat.le_of_ble_eq_true rfl⟩) (k_w0 _) rfl hP hD hS hA (fun E ce q9 H locs ht hP hD hS hce hcv hcl => ?_) (fun H locs ht hP hD hS => absurd (ht.symm.trans hth) (fun z => nomatch z))
  have hE : E = iae := Option.some.inj (ht.symm.trans hth)
  subst hE
  refine vx_catch (own := RL) (name := iae) (E := iae) hown [] ⟨0, 5, 6, 14⟩ [⟨0, 5, 10, 17⟩] htb (fun z hz => nomatch hz) rfl (by decide) (hts (.classLink RL 14 "java/lang/IllegalArgumentException") (List.mem_of_getElem? (i := 1) rfl)) (va_Nw.use rfl (hTT.2.2.1 iae (by decide))) hce hcv hcl ?_
  refine lv_astore_n (lv' := [(2, .ref q9), (0, .ref o), (1, .int x)]) hx hb dL_passes_6 rfl hl (by decide) rfl (fun ls hl => ?_)
  refine lv_ldc (v := -2000001) hx hb hown (hts (.constant RL 16 (-2000001)) (List.mem_of_getElem? (i := 3) rfl)) dL_passes_7 ?_
  exact k_hret (Nat.le_refl 1) (Nat.le_refl 6) hx hb hr hlk hP hS dL_passes_9 rfl rfl

set_option maxHeartbeats 1000000 in
set_option maxRecDepth 100000 in
theorem t_L_bands_iae (l : Launch) (D : va_G) (o : Nat) (q1 q2 q3 q4 q5 q6 qt : Nat → Nat) (cI cJ : ClassId) (S1 S2 S3 S4 S5 S6 : SS) (T : TS) (sv : Int32) (x y : Int32)  (hst : l.stackTraces = false) (hth : A_X4_setBand_t S1 S2 S3 S4 S5 S6 T sv x y = some iae) : kHn l yL_bands wsL_bands ({ frames := 7, cells := 1, slots := 6, locals := 125 } : Room) 1 6 D [(cI, .int), (cJ, .long)] [.ref o, .int x, .int y] (poC o q1 q2 q3 q4 q5 q6 qt sv ++ (stW q1 cI cJ S1 ++ (stW q2 cI cJ S2 ++ (stW q3 cI cJ S3 ++ (stW q4 cI cJ S4 ++ (stW q5 cI cJ S5 ++ (stW q6 cI cJ S6 ++ (txW qt cI T)))))))) (-2000001) (poC o q1 q2 q3 q4 q5 q6 qt sv ++ (stW q1 cI cJ S1 ++ (stW q2 cI cJ S2 ++ (stW q3 cI cJ S3 ++ (stW q4 cI cJ S4 ++ (stW q5 cI cJ S5 ++ (stW q6 cI cJ S6 ++ (txW qt cI T)))))))) := by
  refine kHBody.met (cc := cL_bands) (maxL := 4) (ret := (some .int)) (hh := [(0, 6, 7, 14), (0, 6, 11, 17)]) (by decide) rfl (Nat.le_of_ble_eq_true rfl) ?_
  intro p9 e9 s9 m9 below meth c9 A9 ls hx hb hr hml hts hown hlk hK hP hD hA hTT hN htb hl
  have hown : s9.vm.findClass RL = some m9.cls := hown
  have hS : va_S A9 s9.heap s9.heap [] := va_S.rf
  have hl : lv_has ls 4 [(0, .ref o), (1, .int x), (2, .int y)] := hl
  refine lv_aload_n hx hb dL_bands_0 rfl (lv_at hl 0 rfl) ?_
  refine lv_iload_n hx hb dL_bands_1 rfl (lv_at hl 1 rfl) ?_
  refine lv_iload_n hx hb dL_bands_2 rfl (lv_at hl 2 rfl) ?_
  refine k_hcalli (a := []) (z := []) (wc := (poC o q1 q2 q3 q4 q5 q6 qt sv ++ (stW q1 cI cJ S1 ++ (stW q2 cI cJ S2 ++ (stW q3 cI cJ S3 ++ (stW q4 cI cJ S4 ++ (stW q5 cI cJ S5 ++ (stW q6 cI cJ S6 ++ (txW qt cI T))))))))) (vx_runV (As := [.int x, .int y]) (rest := []) ⟨hx, hb, hml, hown, hts⟩ (c_X4_setBand l D o q1 q2 q3 q4 q5 q6 qt cI cJ S1 S2 S3 S4 S5 S6 T sv x y hst _) (cwV 2 hts gL_bands_X4_setBand rfl rfl rfl (by decide +kernel) ⟨Nat.le_of_ble_eq_true rfl, Nat.le_of_ble_eq_true rfl⟩) ⟨kBT_blind, va_recv hK hP (ci := 4) (q0 := 0) rfl rfl, k_preT (a := []) (z := []) (k_w0 _) hK hP hD hS hA hTT⟩ rfl rfl hl.1 rfl (lv_room (Nat.le_of_ble_eq_true rfl)) dL_bands_3 ⟨Nat.le_of_ble_eq_true rfl, Nat.le_of_ble_eq_true rfl⟩) (k_w0 _) rfl hP hD hS hA (fun E ce q9 H locs ht hP hD hS hce hcv hcl => ?_) (fun H locs ht hP hD hS => absurd (ht.symm.trans hth) (fun z => nomatch z))
  have hE : E = iae := Option.some.inj (ht.symm.trans hth)
  subst hE
  refine vx_catch (own := RL) (name := iae) (E := iae) hown [] ⟨0, 6, 7, 14⟩ [⟨0, 6, 11, 17⟩] htb (fun z hz => nomatch hz) rfl (by decide) (hts (.classLink RL 14 "java/lang/IllegalArgumentException") (List.mem_of_getElem? (i := 1) rfl)) (va_Nw.use rfl (hTT.2.2.1 iae (by decide))) hce hcv hcl ?_
  refine lv_astore_n (lv' := [(3, .ref q9), (0, .ref o), (1, .int x), (2, .int y)]) hx hb dL_bands_7 rfl hl (by decide) rfl (fun ls hl => ?_)
  refine lv_ldc (v := -2000001) hx hb hown (hts (.constant RL 16 (-2000001)) (List.mem_of_getElem? (i := 3) rfl)) dL_bands_8 ?_
  exact k_hret (Nat.le_refl 1) (Nat.le_refl 6) hx hb hr hlk hP hS dL_bands_10 rfl rfl

set_option maxHeartbeats 1000000 in
set_option maxRecDepth 100000 in
theorem t_L_bands_ise (l : Launch) (D : va_G) (o : Nat) (q1 q2 q3 q4 q5 q6 qt : Nat → Nat) (cI cJ : ClassId) (S1 S2 S3 S4 S5 S6 : SS) (T : TS) (sv : Int32) (x y : Int32)  (hst : l.stackTraces = false) (hth : A_X4_setBand_t S1 S2 S3 S4 S5 S6 T sv x y = some ise) : kHn l yL_bands wsL_bands ({ frames := 7, cells := 1, slots := 6, locals := 125 } : Room) 1 6 D [(cI, .int), (cJ, .long)] [.ref o, .int x, .int y] (poC o q1 q2 q3 q4 q5 q6 qt sv ++ (stW q1 cI cJ S1 ++ (stW q2 cI cJ S2 ++ (stW q3 cI cJ S3 ++ (stW q4 cI cJ S4 ++ (stW q5 cI cJ S5 ++ (stW q6 cI cJ S6 ++ (txW qt cI T)))))))) (-2000002) (poC o q1 q2 q3 q4 q5 q6 qt sv ++ (stW q1 cI cJ S1 ++ (stW q2 cI cJ S2 ++ (stW q3 cI cJ S3 ++ (stW q4 cI cJ S4 ++ (stW q5 cI cJ S5 ++ (stW q6 cI cJ S6 ++ (txW qt cI T)))))))) := by
  refine kHBody.met (cc := cL_bands) (maxL := 4) (ret := (some .int)) (hh := [(0, 6, 7, 14), (0, 6, 11, 17)]) (by decide) rfl (Nat.le_of_ble_eq_true rfl) ?_
  intro p9 e9 s9 m9 below meth c9 A9 ls hx hb hr hml hts hown hlk hK hP hD hA hTT hN htb hl
  have hown : s9.vm.findClass RL = some m9.cls := hown
  have hS : va_S A9 s9.heap s9.heap [] := va_S.rf
  have hl : lv_has ls 4 [(0, .ref o), (1, .int x), (2, .int y)] := hl
  refine lv_aload_n hx hb dL_bands_0 rfl (lv_at hl 0 rfl) ?_
  refine lv_iload_n hx hb dL_bands_1 rfl (lv_at hl 1 rfl) ?_
  refine lv_iload_n hx hb dL_bands_2 rfl (lv_at hl 2 rfl) ?_
  refine k_hcalli (a := []) (z := []) (wc := (poC o q1 q2 q3 q4 q5 q6 qt sv ++ (stW q1 cI cJ S1 ++ (stW q2 cI cJ S2 ++ (stW q3 cI cJ S3 ++ (stW q4 cI cJ S4 ++ (stW q5 cI cJ S5 ++ (stW q6 cI cJ S6 ++ (txW qt cI T))))))))) (vx_runV (As := [.int x, .int y]) (rest := []) ⟨hx, hb, hml, hown, hts⟩ (c_X4_setBand l D o q1 q2 q3 q4 q5 q6 qt cI cJ S1 S2 S3 S4 S5 S6 T sv x y hst _) (cwV 2 hts gL_bands_X4_setBand rfl rfl rfl (by decide +kernel) ⟨Nat.le_of_ble_eq_true rfl, Nat.le_of_ble_eq_true rfl⟩) ⟨kBT_blind, va_recv hK hP (ci := 4) (q0 := 0) rfl rfl, k_preT (a := []) (z := []) (k_w0 _) hK hP hD hS hA hTT⟩ rfl rfl hl.1 rfl (lv_room (Nat.le_of_ble_eq_true rfl)) dL_bands_3 ⟨Nat.le_of_ble_eq_true rfl, Nat.le_of_ble_eq_true rfl⟩) (k_w0 _) rfl hP hD hS hA (fun E ce q9 H locs ht hP hD hS hce hcv hcl => ?_) (fun H locs ht hP hD hS => absurd (ht.symm.trans hth) (fun z => nomatch z))
  have hE : E = ise := Option.some.inj (ht.symm.trans hth)
  subst hE
  refine vx_catch (own := RL) (name := ise) (E := ise) hown [⟨0, 6, 7, 14⟩] ⟨0, 6, 11, 17⟩ [] htb (fun z hz => by cases List.mem_singleton.mp hz; exact Or.inr ⟨by decide, iae, (hts (.classLink RL 14 "java/lang/IllegalArgumentException") (List.mem_of_getElem? (i := 1) rfl)), hN.1⟩) rfl (by decide) (hts (.classLink RL 17 "java/lang/IllegalStateException") (List.mem_of_getElem? (i := 2) rfl)) (va_Nw.use rfl (hTT.2.2.1 ise (by decide))) hce hcv hcl ?_
  refine lv_astore_n (lv' := [(3, .ref q9), (0, .ref o), (1, .int x), (2, .int y)]) hx hb dL_bands_11 rfl hl (by decide) rfl (fun ls hl => ?_)
  refine lv_ldc (v := -2000002) hx hb hown (hts (.constant RL 19 (-2000002)) (List.mem_of_getElem? (i := 4) rfl)) dL_bands_12 ?_
  exact k_hret (Nat.le_refl 1) (Nat.le_refl 6) hx hb hr hlk hP hS dL_bands_14 rfl rfl

set_option maxHeartbeats 1000000 in
set_option maxRecDepth 100000 in
theorem t_L_sizes_iae (l : Launch) (D : va_G) (o : Nat) (q1 q2 q3 q4 q5 q6 qt : Nat → Nat) (cI cJ : ClassId) (S1 S2 S3 S4 S5 S6 : SS) (T : TS) (sv : Int32) (x : Int32)  (hst : l.stackTraces = false) (hth : A_X4_setSize_t S1 S2 S3 S4 S5 S6 T sv x = some iae) : kHn l yL_sizes wsL_sizes ({ frames := 7, cells := 1, slots := 6, locals := 124 } : Room) 1 6 D [(cI, .int), (cJ, .long)] [.ref o, .int x] (poC o q1 q2 q3 q4 q5 q6 qt sv ++ (stW q1 cI cJ S1 ++ (stW q2 cI cJ S2 ++ (stW q3 cI cJ S3 ++ (stW q4 cI cJ S4 ++ (stW q5 cI cJ S5 ++ (stW q6 cI cJ S6 ++ (txW qt cI T)))))))) (-2000001) (poC o q1 q2 q3 q4 q5 q6 qt sv ++ (stW q1 cI cJ S1 ++ (stW q2 cI cJ S2 ++ (stW q3 cI cJ S3 ++ (stW q4 cI cJ S4 ++ (stW q5 cI cJ S5 ++ (stW q6 cI cJ S6 ++ (txW qt cI T)))))))) := by
  refine kHBody.met (cc := cL_sizes) (maxL := 3) (ret := (some .int)) (hh := [(0, 5, 6, 14), (0, 5, 10, 17)]) (by decide) rfl (Nat.le_of_ble_eq_true rfl) ?_
  intro p9 e9 s9 m9 below meth c9 A9 ls hx hb hr hml hts hown hlk hK hP hD hA hTT hN htb hl
  have hown : s9.vm.findClass RL = some m9.cls := hown
  have hS : va_S A9 s9.heap s9.heap [] := va_S.rf
  have hl : lv_has ls 3 [(0, .ref o), (1, .int x)] := hl
  refine lv_aload_n hx hb dL_sizes_0 rfl (lv_at hl 0 rfl) ?_
  refine lv_iload_n hx hb dL_sizes_1 rfl (lv_at hl 1 rfl) ?_
  refine k_hcalli (a := []) (z := []) (wc := (poC o q1 q2 q3 q4 q5 q6 qt sv ++ (stW q1 cI cJ S1 ++ (stW q2 cI cJ S2 ++ (stW q3 cI cJ S3 ++ (stW q4 cI cJ S4 ++ (stW q5 cI cJ S5 ++ (stW q6 cI cJ S6 ++ (txW qt cI T))))))))) (vx_runV (As := [.int x]) (rest := []) ⟨hx, hb, hml, hown, hts⟩ (c_X4_setSize l D o q1 q2 q3 q4 q5 q6 qt cI cJ S1 S2 S3 S4 S5 S6 T sv x hst _) (cwV 1 hts gL_sizes_X4_setSize rfl rfl rfl (by decide +kernel) ⟨Nat.le_of_ble_eq_true rfl, Nat.le_of_ble_eq_true rfl⟩) ⟨kBT_blind, va_recv hK hP (ci := 4) (q0 := 0) rfl rfl, k_preT (a := []) (z := []) (k_w0 _) hK hP hD hS hA hTT⟩ rfl rfl hl.1 rfl (lv_room (Nat.le_of_ble_eq_true rfl)) dL_sizes_2 ⟨Nat.le_of_ble_eq_true rfl, Nat.le_of_ble_eq_true rfl⟩) (k_w0 _) rfl hP hD hS hA (fun E ce q9 H locs ht hP hD hS hce hcv hcl => ?_) (fun H locs ht hP hD hS => absurd (ht.symm.trans hth) (fun z => nomatch z))
  have hE : E = iae := Option.some.inj (ht.symm.trans hth)
  subst hE
  refine vx_catch (own := RL) (name := iae) (E := iae) hown [] ⟨0, 5, 6, 14⟩ [⟨0, 5, 10, 17⟩] htb (fun z hz => nomatch hz) rfl (by decide) (hts (.classLink RL 14 "java/lang/IllegalArgumentException") (List.mem_of_getElem? (i := 1) rfl)) (va_Nw.use rfl (hTT.2.2.1 iae (by decide))) hce hcv hcl ?_
  refine lv_astore_n (lv' := [(2, .ref q9), (0, .ref o), (1, .int x)]) hx hb dL_sizes_6 rfl hl (by decide) rfl (fun ls hl => ?_)
  refine lv_ldc (v := -2000001) hx hb hown (hts (.constant RL 16 (-2000001)) (List.mem_of_getElem? (i := 3) rfl)) dL_sizes_7 ?_
  exact k_hret (Nat.le_refl 1) (Nat.le_refl 6) hx hb hr hlk hP hS dL_sizes_9 rfl rfl

set_option maxHeartbeats 1000000 in
set_option maxRecDepth 100000 in
theorem t_L_sizes_ise (l : Launch) (D : va_G) (o : Nat) (q1 q2 q3 q4 q5 q6 qt : Nat → Nat) (cI cJ : ClassId) (S1 S2 S3 S4 S5 S6 : SS) (T : TS) (sv : Int32) (x : Int32)  (hst : l.stackTraces = false) (hth : A_X4_setSize_t S1 S2 S3 S4 S5 S6 T sv x = some ise) : kHn l yL_sizes wsL_sizes ({ frames := 7, cells := 1, slots := 6, locals := 124 } : Room) 1 6 D [(cI, .int), (cJ, .long)] [.ref o, .int x] (poC o q1 q2 q3 q4 q5 q6 qt sv ++ (stW q1 cI cJ S1 ++ (stW q2 cI cJ S2 ++ (stW q3 cI cJ S3 ++ (stW q4 cI cJ S4 ++ (stW q5 cI cJ S5 ++ (stW q6 cI cJ S6 ++ (txW qt cI T)))))))) (-2000002) (poC o q1 q2 q3 q4 q5 q6 qt sv ++ (stW q1 cI cJ S1 ++ (stW q2 cI cJ S2 ++ (stW q3 cI cJ S3 ++ (stW q4 cI cJ S4 ++ (stW q5 cI cJ S5 ++ (stW q6 cI cJ S6 ++ (txW qt cI T)))))))) := by
  refine kHBody.met (cc := cL_sizes) (maxL := 3) (ret := (some .int)) (hh := [(0, 5, 6, 14), (0, 5, 10, 17)]) (by decide) rfl (Nat.le_of_ble_eq_true rfl) ?_
  intro p9 e9 s9 m9 below meth c9 A9 ls hx hb hr hml hts hown hlk hK hP hD hA hTT hN htb hl
  have hown : s9.vm.findClass RL = some m9.cls := hown
  have hS : va_S A9 s9.heap s9.heap [] := va_S.rf
  have hl : lv_has ls 3 [(0, .ref o), (1, .int x)] := hl
  refine lv_aload_n hx hb dL_sizes_0 rfl (lv_at hl 0 rfl) ?_
  refine lv_iload_n hx hb dL_sizes_1 rfl (lv_at hl 1 rfl) ?_
  refine k_hcalli (a := []) (z := []) (wc := (poC o q1 q2 q3 q4 q5 q6 qt sv ++ (stW q1 cI cJ S1 ++ (stW q2 cI cJ S2 ++ (stW q3 cI cJ S3 ++ (stW q4 cI cJ S4 ++ (stW q5 cI cJ S5 ++ (stW q6 cI cJ S6 ++ (txW qt cI T))))))))) (vx_runV (As := [.int x]) (rest := []) ⟨hx, hb, hml, hown, hts⟩ (c_X4_setSize l D o q1 q2 q3 q4 q5 q6 qt cI cJ S1 S2 S3 S4 S5 S6 T sv x hst _) (cwV 1 hts gL_sizes_X4_setSize rfl rfl rfl (by decide +kernel) ⟨Nat.le_of_ble_eq_true rfl, Nat.le_of_ble_eq_true rfl⟩) ⟨kBT_blind, va_recv hK hP (ci := 4) (q0 := 0) rfl rfl, k_preT (a := []) (z := []) (k_w0 _) hK hP hD hS hA hTT⟩ rfl rfl hl.1 rfl (lv_room (Nat.le_of_ble_eq_true rfl)) dL_sizes_2 ⟨Nat.le_of_ble_eq_true rfl, Nat.le_of_ble_eq_true rfl⟩) (k_w0 _) rfl hP hD hS hA (fun E ce q9 H locs ht hP hD hS hce hcv hcl => ?_) (fun H locs ht hP hD hS => absurd (ht.symm.trans hth) (fun z => nomatch z))
  have hE : E = ise := Option.some.inj (ht.symm.trans hth)
  subst hE
  refine vx_catch (own := RL) (name := ise) (E := ise) hown [⟨0, 5, 6, 14⟩] ⟨0, 5, 10, 17⟩ [] htb (fun z hz => by cases List.mem_singleton.mp hz; exact Or.inr ⟨by decide, iae, (hts (.classLink RL 14 "java/lang/IllegalArgumentException") (List.mem_of_getElem? (i := 1) rfl)), hN.1⟩) rfl (by decide) (hts (.classLink RL 17 "java/lang/IllegalStateException") (List.mem_of_getElem? (i := 2) rfl)) (va_Nw.use rfl (hTT.2.2.1 ise (by decide))) hce hcv hcl ?_
  refine lv_astore_n (lv' := [(2, .ref q9), (0, .ref o), (1, .int x)]) hx hb dL_sizes_10 rfl hl (by decide) rfl (fun ls hl => ?_)
  refine lv_ldc (v := -2000002) hx hb hown (hts (.constant RL 19 (-2000002)) (List.mem_of_getElem? (i := 4) rfl)) dL_sizes_11 ?_
  exact k_hret (Nat.le_refl 1) (Nat.le_refl 6) hx hb hr hlk hP hS dL_sizes_13 rfl rfl

set_option maxHeartbeats 1000000 in
set_option maxRecDepth 100000 in
theorem t_L_sets_iae (l : Launch) (D : va_G) (o : Nat) (q1 q2 q3 q4 q5 q6 qt : Nat → Nat) (cI cJ : ClassId) (S1 S2 S3 S4 S5 S6 : SS) (T : TS) (sv : Int32) (x y : Int32)  (hst : l.stackTraces = false) (hth : A_X4_set_t S1 S2 S3 S4 S5 S6 T sv x y = some iae) : kHn l yL_sets wsL_sets ({ frames := 7, cells := 1, slots := 6, locals := 124 } : Room) 1 6 D [(cI, .int), (cJ, .long)] [.ref o, .int x, .int y] (poC o q1 q2 q3 q4 q5 q6 qt sv ++ (stW q1 cI cJ S1 ++ (stW q2 cI cJ S2 ++ (stW q3 cI cJ S3 ++ (stW q4 cI cJ S4 ++ (stW q5 cI cJ S5 ++ (stW q6 cI cJ S6 ++ (txW qt cI T)))))))) (-2000001) (poC o q1 q2 q3 q4 q5 q6 qt sv ++ (stW q1 cI cJ S1 ++ (stW q2 cI cJ S2 ++ (stW q3 cI cJ S3 ++ (stW q4 cI cJ S4 ++ (stW q5 cI cJ S5 ++ (stW q6 cI cJ S6 ++ (txW qt cI T)))))))) := by
  refine kHBody.met (cc := cL_sets) (maxL := 4) (ret := (some .int)) (hh := [(0, 6, 7, 14)]) (by decide) rfl (Nat.le_of_ble_eq_true rfl) ?_
  intro p9 e9 s9 m9 below meth c9 A9 ls hx hb hr hml hts hown hlk hK hP hD hA hTT hN htb hl
  have hown : s9.vm.findClass RL = some m9.cls := hown
  have hS : va_S A9 s9.heap s9.heap [] := va_S.rf
  have hl : lv_has ls 4 [(0, .ref o), (1, .int x), (2, .int y)] := hl
  refine lv_aload_n hx hb dL_sets_0 rfl (lv_at hl 0 rfl) ?_
  refine lv_iload_n hx hb dL_sets_1 rfl (lv_at hl 1 rfl) ?_
  refine lv_iload_n hx hb dL_sets_2 rfl (lv_at hl 2 rfl) ?_
  refine k_hcalli (a := []) (z := []) (wc := (poC o q1 q2 q3 q4 q5 q6 qt sv ++ (stW q1 cI cJ S1 ++ (stW q2 cI cJ S2 ++ (stW q3 cI cJ S3 ++ (stW q4 cI cJ S4 ++ (stW q5 cI cJ S5 ++ (stW q6 cI cJ S6 ++ (txW qt cI T))))))))) (vx_runV (As := [.int x, .int y]) (rest := []) ⟨hx, hb, hml, hown, hts⟩ (c_X4_set l D o q1 q2 q3 q4 q5 q6 qt cI cJ S1 S2 S3 S4 S5 S6 T sv x y hst _) (cwV 2 hts gL_sets_X4_set rfl rfl rfl (by decide +kernel) ⟨Nat.le_of_ble_eq_true rfl, Nat.le_of_ble_eq_true rfl⟩) ⟨kBT_blind, va_recv hK hP (ci := 4) (q0 := 0) rfl rfl, k_preT (a := []) (z := []) (k_w0 _) hK hP hD hS hA hTT⟩ rfl rfl hl.1 rfl (lv_room (Nat.le_of_ble_eq_true rfl)) dL_sets_3 ⟨Nat.le_of_ble_eq_true rfl, Nat.le_of_ble_eq_true rfl⟩) (k_w0 _) rfl hP hD hS hA (fun E ce q9 H locs ht hP hD hS hce hcv hcl => ?_) (fun H locs ht hP hD hS => absurd (ht.symm.trans hth) (fun z => nomatch z))
  have hE : E = iae := Option.some.inj (ht.symm.trans hth)
  subst hE
  refine vx_catch (own := RL) (name := iae) (E := iae) hown [] ⟨0, 6, 7, 14⟩ [] htb (fun z hz => nomatch hz) rfl (by decide) (hts (.classLink RL 14 "java/lang/IllegalArgumentException") (List.mem_of_getElem? (i := 1) rfl)) (va_Nw.use rfl (hTT.2.2.1 iae (by decide))) hce hcv hcl ?_
  refine lv_astore_n (lv' := [(3, .ref q9), (0, .ref o), (1, .int x), (2, .int y)]) hx hb dL_sets_7 rfl hl (by decide) rfl (fun ls hl => ?_)
  refine lv_ldc (v := -2000001) hx hb hown (hts (.constant RL 16 (-2000001)) (List.mem_of_getElem? (i := 2) rfl)) dL_sets_8 ?_
  exact k_hret (Nat.le_refl 1) (Nat.le_refl 6) hx hb hr hlk hP hS dL_sets_10 rfl rfl

set_option maxHeartbeats 1000000 in
set_option maxRecDepth 100000 in
theorem t_L_demands_iob (l : Launch) (D : va_G) (o : Nat) (q1 q2 q3 q4 q5 q6 qt : Nat → Nat) (cI cJ : ClassId) (S1 S2 S3 S4 S5 S6 : SS) (T : TS) (sv : Int32) (x y : Int32)  (hst : l.stackTraces = false) (hth : A_X4_setDemand_t S1 S2 S3 S4 S5 S6 T sv x y = some iob) : kHn l yL_demands wsL_demands ({ frames := 7, cells := 1, slots := 6, locals := 124 } : Room) 1 6 D [(cI, .int), (cJ, .long)] [.ref o, .int x, .int y] (poC o q1 q2 q3 q4 q5 q6 qt sv ++ (stW q1 cI cJ S1 ++ (stW q2 cI cJ S2 ++ (stW q3 cI cJ S3 ++ (stW q4 cI cJ S4 ++ (stW q5 cI cJ S5 ++ (stW q6 cI cJ S6 ++ (txW qt cI T)))))))) (-2000001) (poC o q1 q2 q3 q4 q5 q6 qt sv ++ (stW q1 cI cJ S1 ++ (stW q2 cI cJ S2 ++ (stW q3 cI cJ S3 ++ (stW q4 cI cJ S4 ++ (stW q5 cI cJ S5 ++ (stW q6 cI cJ S6 ++ (txW qt cI T)))))))) := by
  refine kHBody.met (cc := cL_demands) (maxL := 4) (ret := (some .int)) (hh := [(0, 6, 7, 33), (0, 6, 11, 14)]) (by decide) rfl (Nat.le_of_ble_eq_true rfl) ?_
  intro p9 e9 s9 m9 below meth c9 A9 ls hx hb hr hml hts hown hlk hK hP hD hA hTT hN htb hl
  have hown : s9.vm.findClass RL = some m9.cls := hown
  have hS : va_S A9 s9.heap s9.heap [] := va_S.rf
  have hl : lv_has ls 4 [(0, .ref o), (1, .int x), (2, .int y)] := hl
  refine lv_aload_n hx hb dL_demands_0 rfl (lv_at hl 0 rfl) ?_
  refine lv_iload_n hx hb dL_demands_1 rfl (lv_at hl 1 rfl) ?_
  refine lv_iload_n hx hb dL_demands_2 rfl (lv_at hl 2 rfl) ?_
  refine k_hcalli (a := []) (z := []) (wc := (poC o q1 q2 q3 q4 q5 q6 qt sv ++ (stW q1 cI cJ S1 ++ (stW q2 cI cJ S2 ++ (stW q3 cI cJ S3 ++ (stW q4 cI cJ S4 ++ (stW q5 cI cJ S5 ++ (stW q6 cI cJ S6 ++ (txW qt cI T))))))))) (vx_runV (As := [.int x, .int y]) (rest := []) ⟨hx, hb, hml, hown, hts⟩ (c_X4_setDemand l D o q1 q2 q3 q4 q5 q6 qt cI cJ S1 S2 S3 S4 S5 S6 T sv x y hst _) (cwV 2 hts gL_demands_X4_setDemand rfl rfl rfl (by decide +kernel) ⟨Nat.le_of_ble_eq_true rfl, Nat.le_of_ble_eq_true rfl⟩) ⟨kBT_blind, va_recv hK hP (ci := 4) (q0 := 0) rfl rfl, k_preT (a := []) (z := []) (k_w0 _) hK hP hD hS hA hTT⟩ rfl rfl hl.1 rfl (lv_room (Nat.le_of_ble_eq_true rfl)) dL_demands_3 ⟨Nat.le_of_ble_eq_true rfl, Nat.le_of_ble_eq_true rfl⟩) (k_w0 _) rfl hP hD hS hA (fun E ce q9 H locs ht hP hD hS hce hcv hcl => ?_) (fun H locs ht hP hD hS => absurd (ht.symm.trans hth) (fun z => nomatch z))
  have hE : E = iob := Option.some.inj (ht.symm.trans hth)
  subst hE
  refine vx_catch (own := RL) (name := iob) (E := iob) hown [] ⟨0, 6, 7, 33⟩ [⟨0, 6, 11, 14⟩] htb (fun z hz => nomatch hz) rfl (by decide) (hts (.classLink RL 33 "java/lang/IndexOutOfBoundsException") (List.mem_of_getElem? (i := 1) rfl)) (va_Nw.use rfl (hTT.2.2.1 iob (by decide))) hce hcv hcl ?_
  refine lv_astore_n (lv' := [(3, .ref q9), (0, .ref o), (1, .int x), (2, .int y)]) hx hb dL_demands_7 rfl hl (by decide) rfl (fun ls hl => ?_)
  refine lv_ldc (v := -2000001) hx hb hown (hts (.constant RL 16 (-2000001)) (List.mem_of_getElem? (i := 3) rfl)) dL_demands_8 ?_
  exact k_hret (Nat.le_refl 1) (Nat.le_refl 6) hx hb hr hlk hP hS dL_demands_10 rfl rfl

set_option maxHeartbeats 1000000 in
set_option maxRecDepth 100000 in
theorem t_L_demands_iae (l : Launch) (D : va_G) (o : Nat) (q1 q2 q3 q4 q5 q6 qt : Nat → Nat) (cI cJ : ClassId) (S1 S2 S3 S4 S5 S6 : SS) (T : TS) (sv : Int32) (x y : Int32)  (hst : l.stackTraces = false) (hth : A_X4_setDemand_t S1 S2 S3 S4 S5 S6 T sv x y = some iae) : kHn l yL_demands wsL_demands ({ frames := 7, cells := 1, slots := 6, locals := 124 } : Room) 1 6 D [(cI, .int), (cJ, .long)] [.ref o, .int x, .int y] (poC o q1 q2 q3 q4 q5 q6 qt sv ++ (stW q1 cI cJ S1 ++ (stW q2 cI cJ S2 ++ (stW q3 cI cJ S3 ++ (stW q4 cI cJ S4 ++ (stW q5 cI cJ S5 ++ (stW q6 cI cJ S6 ++ (txW qt cI T)))))))) (-2000002) (poC o q1 q2 q3 q4 q5 q6 qt sv ++ (stW q1 cI cJ S1 ++ (stW q2 cI cJ S2 ++ (stW q3 cI cJ S3 ++ (stW q4 cI cJ S4 ++ (stW q5 cI cJ S5 ++ (stW q6 cI cJ S6 ++ (txW qt cI T)))))))) := by
  refine kHBody.met (cc := cL_demands) (maxL := 4) (ret := (some .int)) (hh := [(0, 6, 7, 33), (0, 6, 11, 14)]) (by decide) rfl (Nat.le_of_ble_eq_true rfl) ?_
  intro p9 e9 s9 m9 below meth c9 A9 ls hx hb hr hml hts hown hlk hK hP hD hA hTT hN htb hl
  have hown : s9.vm.findClass RL = some m9.cls := hown
  have hS : va_S A9 s9.heap s9.heap [] := va_S.rf
  have hl : lv_has ls 4 [(0, .ref o), (1, .int x), (2, .int y)] := hl
  refine lv_aload_n hx hb dL_demands_0 rfl (lv_at hl 0 rfl) ?_
  refine lv_iload_n hx hb dL_demands_1 rfl (lv_at hl 1 rfl) ?_
  refine lv_iload_n hx hb dL_demands_2 rfl (lv_at hl 2 rfl) ?_
  refine k_hcalli (a := []) (z := []) (wc := (poC o q1 q2 q3 q4 q5 q6 qt sv ++ (stW q1 cI cJ S1 ++ (stW q2 cI cJ S2 ++ (stW q3 cI cJ S3 ++ (stW q4 cI cJ S4 ++ (stW q5 cI cJ S5 ++ (stW q6 cI cJ S6 ++ (txW qt cI T))))))))) (vx_runV (As := [.int x, .int y]) (rest := []) ⟨hx, hb, hml, hown, hts⟩ (c_X4_setDemand l D o q1 q2 q3 q4 q5 q6 qt cI cJ S1 S2 S3 S4 S5 S6 T sv x y hst _) (cwV 2 hts gL_demands_X4_setDemand rfl rfl rfl (by decide +kernel) ⟨Nat.le_of_ble_eq_true rfl, Nat.le_of_ble_eq_true rfl⟩) ⟨kBT_blind, va_recv hK hP (ci := 4) (q0 := 0) rfl rfl, k_preT (a := []) (z := []) (k_w0 _) hK hP hD hS hA hTT⟩ rfl rfl hl.1 rfl (lv_room (Nat.le_of_ble_eq_true rfl)) dL_demands_3 ⟨Nat.le_of_ble_eq_true rfl, Nat.le_of_ble_eq_true rfl⟩) (k_w0 _) rfl hP hD hS hA (fun E ce q9 H locs ht hP hD hS hce hcv hcl => ?_) (fun H locs ht hP hD hS => absurd (ht.symm.trans hth) (fun z => nomatch z))
  have hE : E = iae := Option.some.inj (ht.symm.trans hth)
  subst hE
  refine vx_catch (own := RL) (name := iae) (E := iae) hown [⟨0, 6, 7, 33⟩] ⟨0, 6, 11, 14⟩ [] htb (fun z hz => by cases List.mem_singleton.mp hz; exact Or.inr ⟨by decide, iob, (hts (.classLink RL 33 "java/lang/IndexOutOfBoundsException") (List.mem_of_getElem? (i := 1) rfl)), hN.2.1⟩) rfl (by decide) (hts (.classLink RL 14 "java/lang/IllegalArgumentException") (List.mem_of_getElem? (i := 2) rfl)) (va_Nw.use rfl (hTT.2.2.1 iae (by decide))) hce hcv hcl ?_
  refine lv_astore_n (lv' := [(3, .ref q9), (0, .ref o), (1, .int x), (2, .int y)]) hx hb dL_demands_11 rfl hl (by decide) rfl (fun ls hl => ?_)
  refine lv_ldc (v := -2000002) hx hb hown (hts (.constant RL 19 (-2000002)) (List.mem_of_getElem? (i := 4) rfl)) dL_demands_12 ?_
  exact k_hret (Nat.le_refl 1) (Nat.le_refl 6) hx hb hr hlk hP hS dL_demands_14 rfl rfl

set_option maxHeartbeats 1000000 in
set_option maxRecDepth 100000 in
theorem t_L_adds_iae (l : Launch) (D : va_G) (o : Nat) (q1 q2 q3 q4 q5 q6 qt : Nat → Nat) (cI cJ : ClassId) (S1 S2 S3 S4 S5 S6 : SS) (T : TS) (sv : Int32) (x y : Int32) (n : Nat) (hn : S2.1 8 = nI n) (hn6 : n ≤ 6) (hst : l.stackTraces = false) (hth : A_X4_addPump_t S1 S2 S3 S4 S5 S6 T sv n x y = some iae) : kHn l yL_adds wsL_adds ({ frames := 7, cells := 1, slots := 6, locals := 124 } : Room) 1 6 D [(cI, .int), (cJ, .long)] [.ref o, .int x, .int y] (poC o q1 q2 q3 q4 q5 q6 qt sv ++ (stW q1 cI cJ S1 ++ (stW q2 cI cJ S2 ++ (stW q3 cI cJ S3 ++ (stW q4 cI cJ S4 ++ (stW q5 cI cJ S5 ++ (stW q6 cI cJ S6 ++ (txW qt cI T)))))))) (-2000001) (poC o q1 q2 q3 q4 q5 q6 qt sv ++ (stW q1 cI cJ S1 ++ (stW q2 cI cJ S2 ++ (stW q3 cI cJ S3 ++ (stW q4 cI cJ S4 ++ (stW q5 cI cJ S5 ++ (stW q6 cI cJ S6 ++ (txW qt cI T)))))))) := by
  refine kHBody.met (cc := cL_adds) (maxL := 4) (ret := (some .int)) (hh := [(0, 6, 7, 14), (0, 6, 11, 17)]) (by decide) rfl (Nat.le_of_ble_eq_true rfl) ?_
  intro p9 e9 s9 m9 below meth c9 A9 ls hx hb hr hml hts hown hlk hK hP hD hA hTT hN htb hl
  have hown : s9.vm.findClass RL = some m9.cls := hown
  have hS : va_S A9 s9.heap s9.heap [] := va_S.rf
  have hl : lv_has ls 4 [(0, .ref o), (1, .int x), (2, .int y)] := hl
  refine lv_aload_n hx hb dL_adds_0 rfl (lv_at hl 0 rfl) ?_
  refine lv_iload_n hx hb dL_adds_1 rfl (lv_at hl 1 rfl) ?_
  refine lv_iload_n hx hb dL_adds_2 rfl (lv_at hl 2 rfl) ?_
  refine k_hcalli (a := []) (z := []) (wc := (poC o q1 q2 q3 q4 q5 q6 qt sv ++ (stW q1 cI cJ S1 ++ (stW q2 cI cJ S2 ++ (stW q3 cI cJ S3 ++ (stW q4 cI cJ S4 ++ (stW q5 cI cJ S5 ++ (stW q6 cI cJ S6 ++ (txW qt cI T))))))))) (vx_runV (As := [.int x, .int y]) (rest := []) ⟨hx, hb, hml, hown, hts⟩ (c_X4_addPump l D o q1 q2 q3 q4 q5 q6 qt cI cJ S1 S2 S3 S4 S5 S6 T sv x y n hn hn6 hst _) (cwV 2 hts gL_adds_X4_addPump rfl rfl rfl (by decide +kernel) ⟨Nat.le_of_ble_eq_true rfl, Nat.le_of_ble_eq_true rfl⟩) ⟨kBT_blind, va_recv hK hP (ci := 4) (q0 := 0) rfl rfl, k_preT (a := []) (z := []) (k_w0 _) hK hP hD hS hA hTT⟩ rfl rfl hl.1 rfl (lv_room (Nat.le_of_ble_eq_true rfl)) dL_adds_3 ⟨Nat.le_of_ble_eq_true rfl, Nat.le_of_ble_eq_true rfl⟩) (k_w0 _) rfl hP hD hS hA (fun E ce q9 H locs ht hP hD hS hce hcv hcl => ?_) (fun H locs ht hP hD hS => absurd (ht.symm.trans hth) (fun z => nomatch z))
  have hE : E = iae := Option.some.inj (ht.symm.trans hth)
  subst hE
  refine vx_catch (own := RL) (name := iae) (E := iae) hown [] ⟨0, 6, 7, 14⟩ [⟨0, 6, 11, 17⟩] htb (fun z hz => nomatch hz) rfl (by decide) (hts (.classLink RL 14 "java/lang/IllegalArgumentException") (List.mem_of_getElem? (i := 1) rfl)) (va_Nw.use rfl (hTT.2.2.1 iae (by decide))) hce hcv hcl ?_
  refine lv_astore_n (lv' := [(3, .ref q9), (0, .ref o), (1, .int x), (2, .int y)]) hx hb dL_adds_7 rfl hl (by decide) rfl (fun ls hl => ?_)
  refine lv_ldc (v := -2000001) hx hb hown (hts (.constant RL 16 (-2000001)) (List.mem_of_getElem? (i := 3) rfl)) dL_adds_8 ?_
  exact k_hret (Nat.le_refl 1) (Nat.le_refl 6) hx hb hr hlk hP hS dL_adds_10 rfl rfl

set_option maxHeartbeats 1000000 in
set_option maxRecDepth 100000 in
theorem t_L_swears_iob (l : Launch) (D : va_G) (o : Nat) (q1 q2 q3 q4 q5 q6 qt : Nat → Nat) (cI cJ : ClassId) (S1 S2 S3 S4 S5 S6 : SS) (T : TS) (sv : Int32) (x y : Int32) (n : Nat) (hn : S2.1 8 = nI n) (hn6 : n ≤ 6) (hst : l.stackTraces = false) (hth : A_X4_swear_t S1 S2 S3 S4 S5 S6 T sv n x y = some iob) : kHn l yL_swears wsL_swears ({ frames := 7, cells := 1, slots := 6, locals := 125 } : Room) 1 6 D [(cI, .int), (cJ, .long)] [.ref o, .int x, .int y] (poC o q1 q2 q3 q4 q5 q6 qt sv ++ (stW q1 cI cJ S1 ++ (stW q2 cI cJ S2 ++ (stW q3 cI cJ S3 ++ (stW q4 cI cJ S4 ++ (stW q5 cI cJ S5 ++ (stW q6 cI cJ S6 ++ (txW qt cI T)))))))) (-2000001) (poC o q1 q2 q3 q4 q5 q6 qt sv ++ (stW q1 cI cJ S1 ++ (stW q2 cI cJ S2 ++ (stW q3 cI cJ S3 ++ (stW q4 cI cJ S4 ++ (stW q5 cI cJ S5 ++ (stW q6 cI cJ S6 ++ (txW qt cI T)))))))) := by
  refine kHBody.met (cc := cL_swears) (maxL := 4) (ret := (some .int)) (hh := [(0, 6, 7, 33), (0, 6, 11, 14)]) (by decide) rfl (Nat.le_of_ble_eq_true rfl) ?_
  intro p9 e9 s9 m9 below meth c9 A9 ls hx hb hr hml hts hown hlk hK hP hD hA hTT hN htb hl
  have hown : s9.vm.findClass RL = some m9.cls := hown
  have hS : va_S A9 s9.heap s9.heap [] := va_S.rf
  have hl : lv_has ls 4 [(0, .ref o), (1, .int x), (2, .int y)] := hl
  refine lv_aload_n hx hb dL_swears_0 rfl (lv_at hl 0 rfl) ?_
  refine lv_iload_n hx hb dL_swears_1 rfl (lv_at hl 1 rfl) ?_
  refine lv_iload_n hx hb dL_swears_2 rfl (lv_at hl 2 rfl) ?_
  refine k_hcalli (a := []) (z := []) (wc := (poC o q1 q2 q3 q4 q5 q6 qt sv ++ (stW q1 cI cJ S1 ++ (stW q2 cI cJ S2 ++ (stW q3 cI cJ S3 ++ (stW q4 cI cJ S4 ++ (stW q5 cI cJ S5 ++ (stW q6 cI cJ S6 ++ (txW qt cI T))))))))) (vx_runV (As := [.int x, .int y]) (rest := []) ⟨hx, hb, hml, hown, hts⟩ (c_X4_swear l D o q1 q2 q3 q4 q5 q6 qt cI cJ S1 S2 S3 S4 S5 S6 T sv x y n hn hn6 hst _) (cwV 2 hts gL_swears_X4_swear rfl rfl rfl (by decide +kernel) ⟨Nat.le_of_ble_eq_true rfl, Nat.le_of_ble_eq_true rfl⟩) ⟨kBT_blind, va_recv hK hP (ci := 4) (q0 := 0) rfl rfl, k_preT (a := []) (z := []) (k_w0 _) hK hP hD hS hA hTT⟩ rfl rfl hl.1 rfl (lv_room (Nat.le_of_ble_eq_true rfl)) dL_swears_3 ⟨Nat.le_of_ble_eq_true rfl, Nat.le_of_ble_eq_true rfl⟩) (k_w0 _) rfl hP hD hS hA (fun E ce q9 H locs ht hP hD hS hce hcv hcl => ?_) (fun H locs ht hP hD hS => absurd (ht.symm.trans hth) (fun z => nomatch z))
  have hE : E = iob := Option.some.inj (ht.symm.trans hth)
  subst hE
  refine vx_catch (own := RL) (name := iob) (E := iob) hown [] ⟨0, 6, 7, 33⟩ [⟨0, 6, 11, 14⟩] htb (fun z hz => nomatch hz) rfl (by decide) (hts (.classLink RL 33 "java/lang/IndexOutOfBoundsException") (List.mem_of_getElem? (i := 1) rfl)) (va_Nw.use rfl (hTT.2.2.1 iob (by decide))) hce hcv hcl ?_
  refine lv_astore_n (lv' := [(3, .ref q9), (0, .ref o), (1, .int x), (2, .int y)]) hx hb dL_swears_7 rfl hl (by decide) rfl (fun ls hl => ?_)
  refine lv_ldc (v := -2000001) hx hb hown (hts (.constant RL 16 (-2000001)) (List.mem_of_getElem? (i := 3) rfl)) dL_swears_8 ?_
  exact k_hret (Nat.le_refl 1) (Nat.le_refl 6) hx hb hr hlk hP hS dL_swears_10 rfl rfl

set_option maxHeartbeats 1000000 in
set_option maxRecDepth 100000 in
theorem t_L_swears_iae (l : Launch) (D : va_G) (o : Nat) (q1 q2 q3 q4 q5 q6 qt : Nat → Nat) (cI cJ : ClassId) (S1 S2 S3 S4 S5 S6 : SS) (T : TS) (sv : Int32) (x y : Int32) (n : Nat) (hn : S2.1 8 = nI n) (hn6 : n ≤ 6) (hst : l.stackTraces = false) (hth : A_X4_swear_t S1 S2 S3 S4 S5 S6 T sv n x y = some iae) : kHn l yL_swears wsL_swears ({ frames := 7, cells := 1, slots := 6, locals := 125 } : Room) 1 6 D [(cI, .int), (cJ, .long)] [.ref o, .int x, .int y] (poC o q1 q2 q3 q4 q5 q6 qt sv ++ (stW q1 cI cJ S1 ++ (stW q2 cI cJ S2 ++ (stW q3 cI cJ S3 ++ (stW q4 cI cJ S4 ++ (stW q5 cI cJ S5 ++ (stW q6 cI cJ S6 ++ (txW qt cI T)))))))) (-2000002) (poC o q1 q2 q3 q4 q5 q6 qt sv ++ (stW q1 cI cJ S1 ++ (stW q2 cI cJ S2 ++ (stW q3 cI cJ S3 ++ (stW q4 cI cJ S4 ++ (stW q5 cI cJ S5 ++ (stW q6 cI cJ S6 ++ (txW qt cI T)))))))) := by
  refine kHBody.met (cc := cL_swears) (maxL := 4) (ret := (some .int)) (hh := [(0, 6, 7, 33), (0, 6, 11, 14)]) (by decide) rfl (Nat.le_of_ble_eq_true rfl) ?_
  intro p9 e9 s9 m9 below meth c9 A9 ls hx hb hr hml hts hown hlk hK hP hD hA hTT hN htb hl
  have hown : s9.vm.findClass RL = some m9.cls := hown
  have hS : va_S A9 s9.heap s9.heap [] := va_S.rf
  have hl : lv_has ls 4 [(0, .ref o), (1, .int x), (2, .int y)] := hl
  refine lv_aload_n hx hb dL_swears_0 rfl (lv_at hl 0 rfl) ?_
  refine lv_iload_n hx hb dL_swears_1 rfl (lv_at hl 1 rfl) ?_
  refine lv_iload_n hx hb dL_swears_2 rfl (lv_at hl 2 rfl) ?_
  refine k_hcalli (a := []) (z := []) (wc := (poC o q1 q2 q3 q4 q5 q6 qt sv ++ (stW q1 cI cJ S1 ++ (stW q2 cI cJ S2 ++ (stW q3 cI cJ S3 ++ (stW q4 cI cJ S4 ++ (stW q5 cI cJ S5 ++ (stW q6 cI cJ S6 ++ (txW qt cI T))))))))) (vx_runV (As := [.int x, .int y]) (rest := []) ⟨hx, hb, hml, hown, hts⟩ (c_X4_swear l D o q1 q2 q3 q4 q5 q6 qt cI cJ S1 S2 S3 S4 S5 S6 T sv x y n hn hn6 hst _) (cwV 2 hts gL_swears_X4_swear rfl rfl rfl (by decide +kernel) ⟨Nat.le_of_ble_eq_true rfl, Nat.le_of_ble_eq_true rfl⟩) ⟨kBT_blind, va_recv hK hP (ci := 4) (q0 := 0) rfl rfl, k_preT (a := []) (z := []) (k_w0 _) hK hP hD hS hA hTT⟩ rfl rfl hl.1 rfl (lv_room (Nat.le_of_ble_eq_true rfl)) dL_swears_3 ⟨Nat.le_of_ble_eq_true rfl, Nat.le_of_ble_eq_true rfl⟩) (k_w0 _) rfl hP hD hS hA (fun E ce q9 H locs ht hP hD hS hce hcv hcl => ?_) (fun H locs ht hP hD hS => absurd (ht.symm.trans hth) (fun z => nomatch z))
  have hE : E = iae := Option.some.inj (ht.symm.trans hth)
  subst hE
  refine vx_catch (own := RL) (name := iae) (E := iae) hown [⟨0, 6, 7, 33⟩] ⟨0, 6, 11, 14⟩ [] htb (fun z hz => by cases List.mem_singleton.mp hz; exact Or.inr ⟨by decide, iob, (hts (.classLink RL 33 "java/lang/IndexOutOfBoundsException") (List.mem_of_getElem? (i := 1) rfl)), hN.2.1⟩) rfl (by decide) (hts (.classLink RL 14 "java/lang/IllegalArgumentException") (List.mem_of_getElem? (i := 2) rfl)) (va_Nw.use rfl (hTT.2.2.1 iae (by decide))) hce hcv hcl ?_
  refine lv_astore_n (lv' := [(3, .ref q9), (0, .ref o), (1, .int x), (2, .int y)]) hx hb dL_swears_11 rfl hl (by decide) rfl (fun ls hl => ?_)
  refine lv_ldc (v := -2000002) hx hb hown (hts (.constant RL 19 (-2000002)) (List.mem_of_getElem? (i := 4) rfl)) dL_swears_12 ?_
  exact k_hret (Nat.le_refl 1) (Nat.le_refl 6) hx hb hr hlk hP hS dL_swears_14 rfl rfl

set_option maxHeartbeats 1000000 in
set_option maxRecDepth 100000 in
theorem t_L_services_iob (l : Launch) (D : va_G) (o : Nat) (q1 q2 q3 q4 q5 q6 qt : Nat → Nat) (cI cJ : ClassId) (S1 S2 S3 S4 S5 S6 : SS) (T : TS) (sv : Int32) (x y : Int32) (n : Nat) (hn : S2.1 8 = nI n) (hn6 : n ≤ 6) (hst : l.stackTraces = false) (hth : A_X4_service_t S1 S2 S3 S4 S5 S6 T sv n x y = some iob) : kHn l yL_services wsL_services ({ frames := 7, cells := 1, slots := 6, locals := 125 } : Room) 1 6 D [(cI, .int), (cJ, .long)] [.ref o, .int x, .int y] (poC o q1 q2 q3 q4 q5 q6 qt sv ++ (stW q1 cI cJ S1 ++ (stW q2 cI cJ S2 ++ (stW q3 cI cJ S3 ++ (stW q4 cI cJ S4 ++ (stW q5 cI cJ S5 ++ (stW q6 cI cJ S6 ++ (txW qt cI T)))))))) (-2000001) (poC o q1 q2 q3 q4 q5 q6 qt sv ++ (stW q1 cI cJ S1 ++ (stW q2 cI cJ S2 ++ (stW q3 cI cJ S3 ++ (stW q4 cI cJ S4 ++ (stW q5 cI cJ S5 ++ (stW q6 cI cJ S6 ++ (txW qt cI T)))))))) := by
  refine kHBody.met (cc := cL_services) (maxL := 4) (ret := (some .int)) (hh := [(0, 14, 15, 33), (0, 14, 19, 17)]) (by decide) rfl (Nat.le_of_ble_eq_true rfl) ?_
  intro p9 e9 s9 m9 below meth c9 A9 ls hx hb hr hml hts hown hlk hK hP hD hA hTT hN htb hl
  have hown : s9.vm.findClass RL = some m9.cls := hown
  have hS : va_S A9 s9.heap s9.heap [] := va_S.rf
  have hl : lv_has ls 4 [(0, .ref o), (1, .int x), (2, .int y)] := hl
  refine lv_aload_n hx hb dL_services_0 rfl (lv_at hl 0 rfl) ?_
  refine lv_iload_n hx hb dL_services_1 rfl (lv_at hl 1 rfl) ?_
  refine lv_iload_n hx hb dL_services_2 rfl (lv_at hl 2 rfl) ?_
  refine k_hcalli (a := []) (z := []) (wc := (poC o q1 q2 q3 q4 q5 q6 qt sv ++ (stW q1 cI cJ S1 ++ (stW q2 cI cJ S2 ++ (stW q3 cI cJ S3 ++ (stW q4 cI cJ S4 ++ (stW q5 cI cJ S5 ++ (stW q6 cI cJ S6 ++ (txW qt cI T))))))))) (vx_runV (As := [.int x, .int y]) (rest := []) ⟨hx, hb, hml, hown, hts⟩ (c_X4_service l D o q1 q2 q3 q4 q5 q6 qt cI cJ S1 S2 S3 S4 S5 S6 T sv x y n hn hn6 hst _) (cwV 2 hts gL_services_X4_service rfl rfl rfl (by decide +kernel) ⟨Nat.le_of_ble_eq_true rfl, Nat.le_of_ble_eq_true rfl⟩) ⟨kBT_blind, va_recv hK hP (ci := 4) (q0 := 0) rfl rfl, k_preT (a := []) (z := []) (k_w0 _) hK hP hD hS hA hTT⟩ rfl rfl hl.1 rfl (lv_room (Nat.le_of_ble_eq_true rfl)) dL_services_3 ⟨Nat.le_of_ble_eq_true rfl, Nat.le_of_ble_eq_true rfl⟩) (k_w0 _) rfl hP hD hS hA (fun E ce q9 H locs ht hP hD hS hce hcv hcl => ?_) (fun H locs ht hP hD hS => absurd (ht.symm.trans hth) (fun z => nomatch z))
  have hE : E = iob := Option.some.inj (ht.symm.trans hth)
  subst hE
  refine vx_catch (own := RL) (name := iob) (E := iob) hown [] ⟨0, 14, 15, 33⟩ [⟨0, 14, 19, 17⟩] htb (fun z hz => nomatch hz) rfl (by decide) (hts (.classLink RL 33 "java/lang/IndexOutOfBoundsException") (List.mem_of_getElem? (i := 1) rfl)) (va_Nw.use rfl (hTT.2.2.1 iob (by decide))) hce hcv hcl ?_
  refine lv_astore_n (lv' := [(3, .ref q9), (0, .ref o), (1, .int x), (2, .int y)]) hx hb dL_services_15 rfl hl (by decide) rfl (fun ls hl => ?_)
  refine lv_ldc (v := -2000001) hx hb hown (hts (.constant RL 16 (-2000001)) (List.mem_of_getElem? (i := 3) rfl)) dL_services_16 ?_
  exact k_hret (Nat.le_refl 1) (Nat.le_refl 6) hx hb hr hlk hP hS dL_services_18 rfl rfl

set_option maxHeartbeats 1000000 in
set_option maxRecDepth 100000 in
theorem t_L_services_ise (l : Launch) (D : va_G) (o : Nat) (q1 q2 q3 q4 q5 q6 qt : Nat → Nat) (cI cJ : ClassId) (S1 S2 S3 S4 S5 S6 : SS) (T : TS) (sv : Int32) (x y : Int32) (n : Nat) (hn : S2.1 8 = nI n) (hn6 : n ≤ 6) (hst : l.stackTraces = false) (hth : A_X4_service_t S1 S2 S3 S4 S5 S6 T sv n x y = some ise) : kHn l yL_services wsL_services ({ frames := 7, cells := 1, slots := 6, locals := 125 } : Room) 1 6 D [(cI, .int), (cJ, .long)] [.ref o, .int x, .int y] (poC o q1 q2 q3 q4 q5 q6 qt sv ++ (stW q1 cI cJ S1 ++ (stW q2 cI cJ S2 ++ (stW q3 cI cJ S3 ++ (stW q4 cI cJ S4 ++ (stW q5 cI cJ S5 ++ (stW q6 cI cJ S6 ++ (txW qt cI T)))))))) (-2000002) (poC o q1 q2 q3 q4 q5 q6 qt sv ++ (stW q1 cI cJ S1 ++ (stW q2 cI cJ S2 ++ (stW q3 cI cJ S3 ++ (stW q4 cI cJ S4 ++ (stW q5 cI cJ S5 ++ (stW q6 cI cJ S6 ++ (txW qt cI T)))))))) := by
  refine kHBody.met (cc := cL_services) (maxL := 4) (ret := (some .int)) (hh := [(0, 14, 15, 33), (0, 14, 19, 17)]) (by decide) rfl (Nat.le_of_ble_eq_true rfl) ?_
  intro p9 e9 s9 m9 below meth c9 A9 ls hx hb hr hml hts hown hlk hK hP hD hA hTT hN htb hl
  have hown : s9.vm.findClass RL = some m9.cls := hown
  have hS : va_S A9 s9.heap s9.heap [] := va_S.rf
  have hl : lv_has ls 4 [(0, .ref o), (1, .int x), (2, .int y)] := hl
  refine lv_aload_n hx hb dL_services_0 rfl (lv_at hl 0 rfl) ?_
  refine lv_iload_n hx hb dL_services_1 rfl (lv_at hl 1 rfl) ?_
  refine lv_iload_n hx hb dL_services_2 rfl (lv_at hl 2 rfl) ?_
  refine k_hcalli (a := []) (z := []) (wc := (poC o q1 q2 q3 q4 q5 q6 qt sv ++ (stW q1 cI cJ S1 ++ (stW q2 cI cJ S2 ++ (stW q3 cI cJ S3 ++ (stW q4 cI cJ S4 ++ (stW q5 cI cJ S5 ++ (stW q6 cI cJ S6 ++ (txW qt cI T))))))))) (vx_runV (As := [.int x, .int y]) (rest := []) ⟨hx, hb, hml, hown, hts⟩ (c_X4_service l D o q1 q2 q3 q4 q5 q6 qt cI cJ S1 S2 S3 S4 S5 S6 T sv x y n hn hn6 hst _) (cwV 2 hts gL_services_X4_service rfl rfl rfl (by decide +kernel) ⟨Nat.le_of_ble_eq_true rfl, Nat.le_of_ble_eq_true rfl⟩) ⟨kBT_blind, va_recv hK hP (ci := 4) (q0 := 0) rfl rfl, k_preT (a := []) (z := []) (k_w0 _) hK hP hD hS hA hTT⟩ rfl rfl hl.1 rfl (lv_room (Nat.le_of_ble_eq_true rfl)) dL_services_3 ⟨Nat.le_of_ble_eq_true rfl, Nat.le_of_ble_eq_true rfl⟩) (k_w0 _) rfl hP hD hS hA (fun E ce q9 H locs ht hP hD hS hce hcv hcl => ?_) (fun H locs ht hP hD hS => absurd (ht.symm.trans hth) (fun z => nomatch z))
  have hE : E = ise := Option.some.inj (ht.symm.trans hth)
  subst hE
  refine vx_catch (own := RL) (name := ise) (E := ise) hown [⟨0, 14, 15, 33⟩] ⟨0, 14, 19, 17⟩ [] htb (fun z hz => by cases List.mem_singleton.mp hz; exact Or.inr ⟨by decide, iob, (hts (.classLink RL 33 "java/lang/IndexOutOfBoundsException") (List.mem_of_getElem? (i := 1) rfl)), hN.2.2⟩) rfl (by decide) (hts (.classLink RL 17 "java/lang/IllegalStateException") (List.mem_of_getElem? (i := 2) rfl)) (va_Nw.use rfl (hTT.2.2.1 ise (by decide))) hce hcv hcl ?_
  refine lv_astore_n (lv' := [(3, .ref q9), (0, .ref o), (1, .int x), (2, .int y)]) hx hb dL_services_19 rfl hl (by decide) rfl (fun ls hl => ?_)
  refine lv_ldc (v := -2000002) hx hb hown (hts (.constant RL 19 (-2000002)) (List.mem_of_getElem? (i := 4) rfl)) dL_services_20 ?_
  exact k_hret (Nat.le_refl 1) (Nat.le_refl 6) hx hb hr hlk hP hS dL_services_22 rfl rfl

set_option maxHeartbeats 1000000 in
set_option maxRecDepth 100000 in
theorem t_L_entry_iob (l : Launch) (D : va_G) (o : Nat) (q1 q2 q3 q4 q5 q6 qt : Nat → Nat) (cI cJ : ClassId) (S1 S2 S3 S4 S5 S6 : SS) (T : TS) (sv : Int32) (x y : Int32)  (hst : l.stackTraces = false) (hth : A_X4_entry_t S1 S2 S3 S4 S5 S6 T sv x y = some iob) : kHn l yL_entry wsL_entry ({ frames := 7, cells := 1, slots := 6, locals := 104 } : Room) 1 6 D [(cI, .int), (cJ, .long)] [.ref o, .int x, .int y] (poC o q1 q2 q3 q4 q5 q6 qt sv ++ (stW q1 cI cJ S1 ++ (stW q2 cI cJ S2 ++ (stW q3 cI cJ S3 ++ (stW q4 cI cJ S4 ++ (stW q5 cI cJ S5 ++ (stW q6 cI cJ S6 ++ (txW qt cI T)))))))) (-2000001) (poC o q1 q2 q3 q4 q5 q6 qt sv ++ (stW q1 cI cJ S1 ++ (stW q2 cI cJ S2 ++ (stW q3 cI cJ S3 ++ (stW q4 cI cJ S4 ++ (stW q5 cI cJ S5 ++ (stW q6 cI cJ S6 ++ (txW qt cI T)))))))) := by
  refine kHBody.met (cc := cL_entry) (maxL := 4) (ret := (some .int)) (hh := [(0, 6, 7, 33), (0, 6, 11, 14)]) (by decide) rfl (Nat.le_of_ble_eq_true rfl) ?_
  intro p9 e9 s9 m9 below meth c9 A9 ls hx hb hr hml hts hown hlk hK hP hD hA hTT hN htb hl
  have hown : s9.vm.findClass RL = some m9.cls := hown
  have hS : va_S A9 s9.heap s9.heap [] := va_S.rf
  have hl : lv_has ls 4 [(0, .ref o), (1, .int x), (2, .int y)] := hl
  refine lv_aload_n hx hb dL_entry_0 rfl (lv_at hl 0 rfl) ?_
  refine lv_iload_n hx hb dL_entry_1 rfl (lv_at hl 1 rfl) ?_
  refine lv_iload_n hx hb dL_entry_2 rfl (lv_at hl 2 rfl) ?_
  refine k_hcalli (a := []) (z := []) (wc := (poC o q1 q2 q3 q4 q5 q6 qt sv ++ (stW q1 cI cJ S1 ++ (stW q2 cI cJ S2 ++ (stW q3 cI cJ S3 ++ (stW q4 cI cJ S4 ++ (stW q5 cI cJ S5 ++ (stW q6 cI cJ S6 ++ (txW qt cI T))))))))) (vx_runV (As := [.int x, .int y]) (rest := []) ⟨hx, hb, hml, hown, hts⟩ (c_X4_entry l D o q1 q2 q3 q4 q5 q6 qt cI cJ S1 S2 S3 S4 S5 S6 T sv x y hst _) (cwV 2 hts gL_entry_X4_entry rfl rfl rfl (by decide +kernel) ⟨Nat.le_of_ble_eq_true rfl, Nat.le_of_ble_eq_true rfl⟩) ⟨kBT_blind, va_recv hK hP (ci := 4) (q0 := 0) rfl rfl, k_preT (a := []) (z := []) (k_w0 _) hK hP hD hS hA hTT⟩ rfl rfl hl.1 rfl (lv_room (Nat.le_of_ble_eq_true rfl)) dL_entry_3 ⟨Nat.le_of_ble_eq_true rfl, Nat.le_of_ble_eq_true rfl⟩) (k_w0 _) rfl hP hD hS hA (fun E ce q9 H locs ht hP hD hS hce hcv hcl => ?_) (fun H locs ht hP hD hS => absurd (ht.symm.trans hth) (fun z => nomatch z))
  have hE : E = iob := Option.some.inj (ht.symm.trans hth)
  subst hE
  refine vx_catch (own := RL) (name := iob) (E := iob) hown [] ⟨0, 6, 7, 33⟩ [⟨0, 6, 11, 14⟩] htb (fun z hz => nomatch hz) rfl (by decide) (hts (.classLink RL 33 "java/lang/IndexOutOfBoundsException") (List.mem_of_getElem? (i := 1) rfl)) (va_Nw.use rfl (hTT.2.2.1 iob (by decide))) hce hcv hcl ?_
  refine lv_astore_n (lv' := [(3, .ref q9), (0, .ref o), (1, .int x), (2, .int y)]) hx hb dL_entry_7 rfl hl (by decide) rfl (fun ls hl => ?_)
  refine lv_ldc (v := -2000001) hx hb hown (hts (.constant RL 16 (-2000001)) (List.mem_of_getElem? (i := 3) rfl)) dL_entry_8 ?_
  exact k_hret (Nat.le_refl 1) (Nat.le_refl 6) hx hb hr hlk hP hS dL_entry_10 rfl rfl

set_option maxHeartbeats 1000000 in
set_option maxRecDepth 100000 in
theorem t_L_undoes_ise (l : Launch) (D : va_G) (o : Nat) (q1 q2 q3 q4 q5 q6 qt : Nat → Nat) (cI cJ : ClassId) (S1 S2 S3 S4 S5 S6 : SS) (T : TS) (sv : Int32)  (hst : l.stackTraces = false) (hth : A_X4_undo_t S1 S2 S3 S4 S5 S6 T sv = some ise) : kHn l yL_undoes wsL_undoes ({ frames := 7, cells := 1, slots := 6, locals := 102 } : Room) 1 6 D [(cI, .int), (cJ, .long)] [.ref o] (poC o q1 q2 q3 q4 q5 q6 qt sv ++ (stW q1 cI cJ S1 ++ (stW q2 cI cJ S2 ++ (stW q3 cI cJ S3 ++ (stW q4 cI cJ S4 ++ (stW q5 cI cJ S5 ++ (stW q6 cI cJ S6 ++ (txW qt cI T)))))))) (-2000001) (poC o q1 q2 q3 q4 q5 q6 qt sv ++ (stW q1 cI cJ S1 ++ (stW q2 cI cJ S2 ++ (stW q3 cI cJ S3 ++ (stW q4 cI cJ S4 ++ (stW q5 cI cJ S5 ++ (stW q6 cI cJ S6 ++ (txW qt cI T)))))))) := by
  refine kHBody.met (cc := cL_undoes) (maxL := 2) (ret := (some .int)) (hh := [(0, 4, 5, 17)]) (by decide) rfl (Nat.le_of_ble_eq_true rfl) ?_
  intro p9 e9 s9 m9 below meth c9 A9 ls hx hb hr hml hts hown hlk hK hP hD hA hTT hN htb hl
  have hown : s9.vm.findClass RL = some m9.cls := hown
  have hS : va_S A9 s9.heap s9.heap [] := va_S.rf
  have hl : lv_has ls 2 [(0, .ref o)] := hl
  refine lv_aload_n hx hb dL_undoes_0 rfl (lv_at hl 0 rfl) ?_
  refine k_hcalli (a := []) (z := []) (wc := (poC o q1 q2 q3 q4 q5 q6 qt sv ++ (stW q1 cI cJ S1 ++ (stW q2 cI cJ S2 ++ (stW q3 cI cJ S3 ++ (stW q4 cI cJ S4 ++ (stW q5 cI cJ S5 ++ (stW q6 cI cJ S6 ++ (txW qt cI T))))))))) (vx_runV (As := []) (rest := []) ⟨hx, hb, hml, hown, hts⟩ (c_X4_undo l D o q1 q2 q3 q4 q5 q6 qt cI cJ S1 S2 S3 S4 S5 S6 T sv  hst _) (cwV 0 hts gL_undoes_X4_undo rfl rfl rfl (by decide +kernel) ⟨Nat.le_of_ble_eq_true rfl, Nat.le_of_ble_eq_true rfl⟩) ⟨kBT_blind, va_recv hK hP (ci := 4) (q0 := 0) rfl rfl, k_preT (a := []) (z := []) (k_w0 _) hK hP hD hS hA hTT⟩ rfl rfl hl.1 rfl (lv_room (Nat.le_of_ble_eq_true rfl)) dL_undoes_1 ⟨Nat.le_of_ble_eq_true rfl, Nat.le_of_ble_eq_true rfl⟩) (k_w0 _) rfl hP hD hS hA (fun E ce q9 H locs ht hP hD hS hce hcv hcl => ?_) (fun H locs ht hP hD hS => absurd (ht.symm.trans hth) (fun z => nomatch z))
  have hE : E = ise := Option.some.inj (ht.symm.trans hth)
  subst hE
  refine vx_catch (own := RL) (name := ise) (E := ise) hown [] ⟨0, 4, 5, 17⟩ [] htb (fun z hz => nomatch hz) rfl (by decide) (hts (.classLink RL 17 "java/lang/IllegalStateException") (List.mem_of_getElem? (i := 1) rfl)) (va_Nw.use rfl (hTT.2.2.1 ise (by decide))) hce hcv hcl ?_
  refine lv_astore_n (lv' := [(1, .ref q9), (0, .ref o)]) hx hb dL_undoes_5 rfl hl (by decide) rfl (fun ls hl => ?_)
  refine lv_ldc (v := -2000001) hx hb hown (hts (.constant RL 16 (-2000001)) (List.mem_of_getElem? (i := 2) rfl)) dL_undoes_6 ?_
  exact k_hret (Nat.le_refl 1) (Nat.le_refl 6) hx hb hr hlk hP hS dL_undoes_8 rfl rfl
