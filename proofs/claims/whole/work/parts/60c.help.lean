set_option maxHeartbeats 1000000 in
set_option maxRecDepth 100000 in
theorem h_setSize (l : Launch) (D : va_G) (o : Nat) (q1 q2 q3 q4 q5 q6 qt : Nat → Nat) (cI cJ : ClassId) (S1 S2 S3 S4 S5 S6 : SS) (T : TS) (sv : Int32) (oa : Nat) (f : Nat → Int64) (x : Int32)  (hst : l.stackTraces = false) (hth : (A_X4_setSize_t S1 S2 S3 S4 S5 S6 T sv x) = none ∨ (A_X4_setSize_t S1 S2 S3 S4 S5 S6 T sv x) = some iae ∨ (A_X4_setSize_t S1 S2 S3 S4 S5 S6 T sv x) = some ise) : kH l yL_setSize wsL_setSize ({ frames := 7, cells := 1, slots := 6, locals := 124 } : Room) D [(cI, .int), (cJ, .long)] [.ref o, .int x, .ref oa] ((poW o q1 q2 q3 q4 q5 q6 qt cI cJ S1 S2 S3 S4 S5 S6 T sv) ++ ouW oa cJ f) (k_code iae (A_X4_setSize_t S1 S2 S3 S4 S5 S6 T sv x)) (if (A_X4_setSize_t S1 S2 S3 S4 S5 S6 T sv x) = none then ((poW o q1 q2 q3 q4 q5 q6 qt cI cJ S1 (A_X4_setSize_s2 S1 S2 S3 S4 S5 S6 T sv x) (A_X4_setSize_s3 S1 S2 S3 S4 S5 S6 T sv x) (A_X4_setSize_s4 S1 S2 S3 S4 S5 S6 T sv x) (A_X4_setSize_s5 S1 S2 S3 S4 S5 S6 T sv x) (A_X4_setSize_s6 S1 S2 S3 S4 S5 S6 T sv x) T (A_X4_setSize_s0 S1 S2 S3 S4 S5 S6 T sv x)) ++ ouW oa cJ (vp_updL f 0 (A_X4_setSize_r S1 S2 S3 S4 S5 S6 T sv x).toInt64)) else ((poW o q1 q2 q3 q4 q5 q6 qt cI cJ S1 S2 S3 S4 S5 S6 T sv) ++ ouW oa cJ f)) := by
  refine kHBody.met (cc := cL_setSize) (maxL := 4) (ret := (some .int)) (hh := [(0, 9, 12, 13), (0, 9, 15, 15)]) (by decide) rfl (Nat.le_of_ble_eq_true rfl) ?_
  intro p9 e9 s9 m9 below meth c9 A9 ls hx hb hr hml hts hown hlk hK hP hD hA hTT hN htb hl
  have hown : s9.vm.findClass RL = some m9.cls := hown
  have hS : va_S A9 s9.heap s9.heap [] := va_S.rf
  have hl : lv_has ls 4 [(0, .ref o), (1, .int x), (2, .ref oa)] := hl
  refine lv_aload_n hx hb dL_setSize_0 rfl (lv_at hl 2 rfl) ?_
  refine lv_iconst (v := 0) hx hb dL_setSize_1 (by decide) ?_
  refine lv_aload_n hx hb dL_setSize_2 rfl (lv_at hl 0 rfl) ?_
  refine lv_iload_n hx hb dL_setSize_3 rfl (lv_at hl 1 rfl) ?_
  refine k_hcalli (a := []) (z := ouW oa cJ f) (wc := (poW o q1 q2 q3 q4 q5 q6 qt cI cJ S1 S2 S3 S4 S5 S6 T sv)) (wc' := (poW o q1 q2 q3 q4 q5 q6 qt cI cJ S1 (A_X4_setSize_s2 S1 S2 S3 S4 S5 S6 T sv x) (A_X4_setSize_s3 S1 S2 S3 S4 S5 S6 T sv x) (A_X4_setSize_s4 S1 S2 S3 S4 S5 S6 T sv x) (A_X4_setSize_s5 S1 S2 S3 S4 S5 S6 T sv x) (A_X4_setSize_s6 S1 S2 S3 S4 S5 S6 T sv x) T (A_X4_setSize_s0 S1 S2 S3 S4 S5 S6 T sv x))) (vx_runV (As := [.int x]) (rest := [.int 0, .ref oa]) ⟨hx, hb, hml, hown, hts⟩ (c_X4_setSize l D o q1 q2 q3 q4 q5 q6 qt cI cJ S1 S2 S3 S4 S5 S6 T sv x hst _) (cwV 1 hts gL_setSize_X4_setSize rfl rfl rfl (by decide +kernel) ⟨Nat.le_of_ble_eq_true rfl, Nat.le_of_ble_eq_true rfl⟩) ⟨kBT_blind, va_recv hK hP (ci := 4) (q0 := 0) rfl rfl, k_preT (a := []) (z := ouW oa cJ f) rfl hK hP hD hS hA hTT⟩ rfl rfl hl.1 rfl (lv_room (Nat.le_of_ble_eq_true rfl)) dL_setSize_4 ⟨Nat.le_of_ble_eq_true rfl, Nat.le_of_ble_eq_true rfl⟩) rfl (poW_ad _ _ _ _ _ _ _ _ _ _ _ _ _ _ _ _ _ _ _ _ _ _ _ _ _ _) hP hD hS hA (fun E ce q9 H locs ht hP hD hS hce hcv hcl => ?_) (fun H locs ht hP hD hS => ?_)
  · rcases hth with h | h | h
    · exact absurd (ht.symm.trans h) (fun z => nomatch z)
    · have hE : E = iae := Option.some.inj (ht.symm.trans h)
      subst hE
      refine vx_catch (own := RL) (name := iae) (E := iae) hown [] ⟨0, 9, 12, 13⟩ [⟨0, 9, 15, 15⟩] htb (fun z hz => nomatch hz) rfl (by decide) (hts (.classLink RL 13 "java/lang/IllegalArgumentException") (List.mem_of_getElem? (i := 1) rfl)) (va_Nw.use rfl (hTT.2.2.1 iae (by decide))) hce hcv hcl ?_
      refine lv_astore_n (lv' := [(3, .ref q9), (0, .ref o), (1, .int x), (2, .ref oa)]) hx hb dL_setSize_12 rfl hl (by decide) rfl (fun ls hl => ?_)
      refine lv_iconst (v := 1) hx hb dL_setSize_13 (by decide) ?_
      exact k_hret (Nat.le_refl 1) (Nat.le_refl 6) hx hb hr hlk hP hS dL_setSize_14 (by rw [h]; exact (k_code_1 _).symm) (if_neg (by rw [h]; exact fun z => nomatch z)).symm
    · have hE : E = ise := Option.some.inj (ht.symm.trans h)
      subst hE
      refine vx_catch (own := RL) (name := ise) (E := ise) hown [⟨0, 9, 12, 13⟩] ⟨0, 9, 15, 15⟩ [] htb (fun z hz => by cases List.mem_singleton.mp hz; exact Or.inr ⟨by decide, iae, (hts (.classLink RL 13 "java/lang/IllegalArgumentException") (List.mem_of_getElem? (i := 1) rfl)), hN.1⟩) rfl (by decide) (hts (.classLink RL 15 "java/lang/IllegalStateException") (List.mem_of_getElem? (i := 2) rfl)) (va_Nw.use rfl (hTT.2.2.1 ise (by decide))) hce hcv hcl ?_
      refine lv_astore_n (lv' := [(3, .ref q9), (0, .ref o), (1, .int x), (2, .ref oa)]) hx hb dL_setSize_15 rfl hl (by decide) rfl (fun ls hl => ?_)
      refine lv_iconst (v := 2) hx hb dL_setSize_16 (by decide) ?_
      exact k_hret (Nat.le_refl 1) (Nat.le_refl 6) hx hb hr hlk hP hS dL_setSize_17 (by rw [h]; exact (k_code_2 (by decide)).symm) (if_neg (by rw [h]; exact fun z => nomatch z)).symm
  · have hP : va_P D vwCl ((poW o q1 q2 q3 q4 q5 q6 qt cI cJ S1 (A_X4_setSize_s2 S1 S2 S3 S4 S5 S6 T sv x) (A_X4_setSize_s3 S1 S2 S3 S4 S5 S6 T sv x) (A_X4_setSize_s4 S1 S2 S3 S4 S5 S6 T sv x) (A_X4_setSize_s5 S1 S2 S3 S4 S5 S6 T sv x) (A_X4_setSize_s6 S1 S2 S3 S4 S5 S6 T sv x) T (A_X4_setSize_s0 S1 S2 S3 S4 S5 S6 T sv x)) ++ ouW oa cJ f) H := hP
    have hD : va_D A9 ((poW o q1 q2 q3 q4 q5 q6 qt cI cJ S1 (A_X4_setSize_s2 S1 S2 S3 S4 S5 S6 T sv x) (A_X4_setSize_s3 S1 S2 S3 S4 S5 S6 T sv x) (A_X4_setSize_s4 S1 S2 S3 S4 S5 S6 T sv x) (A_X4_setSize_s5 S1 S2 S3 S4 S5 S6 T sv x) (A_X4_setSize_s6 S1 S2 S3 S4 S5 S6 T sv x) T (A_X4_setSize_s0 S1 S2 S3 S4 S5 S6 T sv x)) ++ ouW oa cJ f) := hD
    refine lv_i2l hx hb dL_setSize_7 rfl ?_
    refine va_last (f := f) hx hb hK hP hD hS 94 1 rfl rfl (k_in (k := 0) rfl (by decide) (by decide)) dL_setSize_8 (fun H locs hP hD hS => ?_)
    rw [show (0 : Int32).toNatClampNeg = 0 from rfl] at hP hD
    have hP : va_P D vwCl ((poW o q1 q2 q3 q4 q5 q6 qt cI cJ S1 (A_X4_setSize_s2 S1 S2 S3 S4 S5 S6 T sv x) (A_X4_setSize_s3 S1 S2 S3 S4 S5 S6 T sv x) (A_X4_setSize_s4 S1 S2 S3 S4 S5 S6 T sv x) (A_X4_setSize_s5 S1 S2 S3 S4 S5 S6 T sv x) (A_X4_setSize_s6 S1 S2 S3 S4 S5 S6 T sv x) T (A_X4_setSize_s0 S1 S2 S3 S4 S5 S6 T sv x)) ++ ouW oa cJ (vp_updL f 0 (A_X4_setSize_r S1 S2 S3 S4 S5 S6 T sv x).toInt64)) H := hP
    refine lv_goto (tgt := 18) hx hb dL_setSize_9 (by decide) ?_
    refine lv_iconst (v := 0) hx hb dL_setSize_18 (by decide) ?_
    exact k_hret (Nat.le_refl 1) (Nat.le_refl 6) hx hb hr hlk hP hS dL_setSize_19 (by rw [ht]; exact (k_code_0 _).symm) (if_pos ht).symm

set_option maxHeartbeats 1000000 in
set_option maxRecDepth 100000 in
theorem h_setBand (l : Launch) (D : va_G) (o : Nat) (q1 q2 q3 q4 q5 q6 qt : Nat → Nat) (cI cJ : ClassId) (S1 S2 S3 S4 S5 S6 : SS) (T : TS) (sv : Int32) (oa : Nat) (f : Nat → Int64) (x y : Int32)  (hst : l.stackTraces = false) (hth : (A_X4_setBand_t S1 S2 S3 S4 S5 S6 T sv x y) = none ∨ (A_X4_setBand_t S1 S2 S3 S4 S5 S6 T sv x y) = some iae ∨ (A_X4_setBand_t S1 S2 S3 S4 S5 S6 T sv x y) = some ise) : kH l yL_setBand wsL_setBand ({ frames := 7, cells := 1, slots := 6, locals := 125 } : Room) D [(cI, .int), (cJ, .long)] [.ref o, .int x, .int y, .ref oa] ((poW o q1 q2 q3 q4 q5 q6 qt cI cJ S1 S2 S3 S4 S5 S6 T sv) ++ ouW oa cJ f) (k_code iae (A_X4_setBand_t S1 S2 S3 S4 S5 S6 T sv x y)) (if (A_X4_setBand_t S1 S2 S3 S4 S5 S6 T sv x y) = none then ((poW o q1 q2 q3 q4 q5 q6 qt cI cJ S1 (A_X4_setBand_s2 S1 S2 S3 S4 S5 S6 T sv x y) (A_X4_setBand_s3 S1 S2 S3 S4 S5 S6 T sv x y) (A_X4_setBand_s4 S1 S2 S3 S4 S5 S6 T sv x y) (A_X4_setBand_s5 S1 S2 S3 S4 S5 S6 T sv x y) (A_X4_setBand_s6 S1 S2 S3 S4 S5 S6 T sv x y) T (A_X4_setBand_s0 S1 S2 S3 S4 S5 S6 T sv x y)) ++ ouW oa cJ (vp_updL f 0 (A_X4_setBand_r S1 S2 S3 S4 S5 S6 T sv x y).toInt64)) else ((poW o q1 q2 q3 q4 q5 q6 qt cI cJ S1 S2 S3 S4 S5 S6 T sv) ++ ouW oa cJ f)) := by
  refine kHBody.met (cc := cL_setBand) (maxL := 5) (ret := (some .int)) (hh := [(0, 10, 13, 13), (0, 10, 17, 15)]) (by decide) rfl (Nat.le_of_ble_eq_true rfl) ?_
  intro p9 e9 s9 m9 below meth c9 A9 ls hx hb hr hml hts hown hlk hK hP hD hA hTT hN htb hl
  have hown : s9.vm.findClass RL = some m9.cls := hown
  have hS : va_S A9 s9.heap s9.heap [] := va_S.rf
  have hl : lv_has ls 5 [(0, .ref o), (1, .int x), (2, .int y), (3, .ref oa)] := hl
  refine lv_aload_n hx hb dL_setBand_0 rfl (lv_at hl 3 rfl) ?_
  refine lv_iconst (v := 0) hx hb dL_setBand_1 (by decide) ?_
  refine lv_aload_n hx hb dL_setBand_2 rfl (lv_at hl 0 rfl) ?_
  refine lv_iload_n hx hb dL_setBand_3 rfl (lv_at hl 1 rfl) ?_
  refine lv_iload_n hx hb dL_setBand_4 rfl (lv_at hl 2 rfl) ?_
  refine k_hcalli (a := []) (z := ouW oa cJ f) (wc := (poW o q1 q2 q3 q4 q5 q6 qt cI cJ S1 S2 S3 S4 S5 S6 T sv)) (wc' := (poW o q1 q2 q3 q4 q5 q6 qt cI cJ S1 (A_X4_setBand_s2 S1 S2 S3 S4 S5 S6 T sv x y) (A_X4_setBand_s3 S1 S2 S3 S4 S5 S6 T sv x y) (A_X4_setBand_s4 S1 S2 S3 S4 S5 S6 T sv x y) (A_X4_setBand_s5 S1 S2 S3 S4 S5 S6 T sv x y) (A_X4_setBand_s6 S1 S2 S3 S4 S5 S6 T sv x y) T (A_X4_setBand_s0 S1 S2 S3 S4 S5 S6 T sv x y))) (vx_runV (As := [.int x, .int y]) (rest := [.int 0, .ref oa]) ⟨hx, hb, hml, hown, hts⟩ (c_X4_setBand l D o q1 q2 q3 q4 q5 q6 qt cI cJ S1 S2 S3 S4 S5 S6 T sv x y hst _) (cwV 2 hts gL_setBand_X4_setBand rfl rfl rfl (by decide +kernel) ⟨Nat.le_of_ble_eq_true rfl, Nat.le_of_ble_eq_true rfl⟩) ⟨kBT_blind, va_recv hK hP (ci := 4) (q0 := 0) rfl rfl, k_preT (a := []) (z := ouW oa cJ f) rfl hK hP hD hS hA hTT⟩ rfl rfl hl.1 rfl (lv_room (Nat.le_of_ble_eq_true rfl)) dL_setBand_5 ⟨Nat.le_of_ble_eq_true rfl, Nat.le_of_ble_eq_true rfl⟩) rfl (poW_ad _ _ _ _ _ _ _ _ _ _ _ _ _ _ _ _ _ _ _ _ _ _ _ _ _ _) hP hD hS hA (fun E ce q9 H locs ht hP hD hS hce hcv hcl => ?_) (fun H locs ht hP hD hS => ?_)
  · rcases hth with h | h | h
    · exact absurd (ht.symm.trans h) (fun z => nomatch z)
    · have hE : E = iae := Option.some.inj (ht.symm.trans h)
      subst hE
      refine vx_catch (own := RL) (name := iae) (E := iae) hown [] ⟨0, 10, 13, 13⟩ [⟨0, 10, 17, 15⟩] htb (fun z hz => nomatch hz) rfl (by decide) (hts (.classLink RL 13 "java/lang/IllegalArgumentException") (List.mem_of_getElem? (i := 1) rfl)) (va_Nw.use rfl (hTT.2.2.1 iae (by decide))) hce hcv hcl ?_
      refine lv_astore (lv' := [(4, .ref q9), (0, .ref o), (1, .int x), (2, .int y), (3, .ref oa)]) hx hb dL_setBand_13 hl (by decide) rfl (fun ls hl => ?_)
      refine lv_iconst (v := 1) hx hb dL_setBand_15 (by decide) ?_
      exact k_hret (Nat.le_refl 1) (Nat.le_refl 6) hx hb hr hlk hP hS dL_setBand_16 (by rw [h]; exact (k_code_1 _).symm) (if_neg (by rw [h]; exact fun z => nomatch z)).symm
    · have hE : E = ise := Option.some.inj (ht.symm.trans h)
      subst hE
      refine vx_catch (own := RL) (name := ise) (E := ise) hown [⟨0, 10, 13, 13⟩] ⟨0, 10, 17, 15⟩ [] htb (fun z hz => by cases List.mem_singleton.mp hz; exact Or.inr ⟨by decide, iae, (hts (.classLink RL 13 "java/lang/IllegalArgumentException") (List.mem_of_getElem? (i := 1) rfl)), hN.1⟩) rfl (by decide) (hts (.classLink RL 15 "java/lang/IllegalStateException") (List.mem_of_getElem? (i := 2) rfl)) (va_Nw.use rfl (hTT.2.2.1 ise (by decide))) hce hcv hcl ?_
      refine lv_astore (lv' := [(4, .ref q9), (0, .ref o), (1, .int x), (2, .int y), (3, .ref oa)]) hx hb dL_setBand_17 hl (by decide) rfl (fun ls hl => ?_)
      refine lv_iconst (v := 2) hx hb dL_setBand_19 (by decide) ?_
      exact k_hret (Nat.le_refl 1) (Nat.le_refl 6) hx hb hr hlk hP hS dL_setBand_20 (by rw [h]; exact (k_code_2 (by decide)).symm) (if_neg (by rw [h]; exact fun z => nomatch z)).symm
  · have hP : va_P D vwCl ((poW o q1 q2 q3 q4 q5 q6 qt cI cJ S1 (A_X4_setBand_s2 S1 S2 S3 S4 S5 S6 T sv x y) (A_X4_setBand_s3 S1 S2 S3 S4 S5 S6 T sv x y) (A_X4_setBand_s4 S1 S2 S3 S4 S5 S6 T sv x y) (A_X4_setBand_s5 S1 S2 S3 S4 S5 S6 T sv x y) (A_X4_setBand_s6 S1 S2 S3 S4 S5 S6 T sv x y) T (A_X4_setBand_s0 S1 S2 S3 S4 S5 S6 T sv x y)) ++ ouW oa cJ f) H := hP
    have hD : va_D A9 ((poW o q1 q2 q3 q4 q5 q6 qt cI cJ S1 (A_X4_setBand_s2 S1 S2 S3 S4 S5 S6 T sv x y) (A_X4_setBand_s3 S1 S2 S3 S4 S5 S6 T sv x y) (A_X4_setBand_s4 S1 S2 S3 S4 S5 S6 T sv x y) (A_X4_setBand_s5 S1 S2 S3 S4 S5 S6 T sv x y) (A_X4_setBand_s6 S1 S2 S3 S4 S5 S6 T sv x y) T (A_X4_setBand_s0 S1 S2 S3 S4 S5 S6 T sv x y)) ++ ouW oa cJ f) := hD
    refine lv_i2l hx hb dL_setBand_8 rfl ?_
    refine va_last (f := f) hx hb hK hP hD hS 94 1 rfl rfl (k_in (k := 0) rfl (by decide) (by decide)) dL_setBand_9 (fun H locs hP hD hS => ?_)
    rw [show (0 : Int32).toNatClampNeg = 0 from rfl] at hP hD
    have hP : va_P D vwCl ((poW o q1 q2 q3 q4 q5 q6 qt cI cJ S1 (A_X4_setBand_s2 S1 S2 S3 S4 S5 S6 T sv x y) (A_X4_setBand_s3 S1 S2 S3 S4 S5 S6 T sv x y) (A_X4_setBand_s4 S1 S2 S3 S4 S5 S6 T sv x y) (A_X4_setBand_s5 S1 S2 S3 S4 S5 S6 T sv x y) (A_X4_setBand_s6 S1 S2 S3 S4 S5 S6 T sv x y) T (A_X4_setBand_s0 S1 S2 S3 S4 S5 S6 T sv x y)) ++ ouW oa cJ (vp_updL f 0 (A_X4_setBand_r S1 S2 S3 S4 S5 S6 T sv x y).toInt64)) H := hP
    refine lv_goto (tgt := 21) hx hb dL_setBand_10 (by decide) ?_
    refine lv_iconst (v := 0) hx hb dL_setBand_21 (by decide) ?_
    exact k_hret (Nat.le_refl 1) (Nat.le_refl 6) hx hb hr hlk hP hS dL_setBand_22 (by rw [ht]; exact (k_code_0 _).symm) (if_pos ht).symm

set_option maxHeartbeats 1000000 in
set_option maxRecDepth 100000 in
theorem h_setLevel (l : Launch) (D : va_G) (o : Nat) (q1 q2 q3 q4 q5 q6 qt : Nat → Nat) (cI cJ : ClassId) (S1 S2 S3 S4 S5 S6 : SS) (T : TS) (sv : Int32) (oa : Nat) (f : Nat → Int64) (x : Int32)  (hst : l.stackTraces = false) (hth : (A_X4_setLevel_t S1 S2 S3 S4 S5 S6 T sv x) = none ∨ (A_X4_setLevel_t S1 S2 S3 S4 S5 S6 T sv x) = some iae ∨ (A_X4_setLevel_t S1 S2 S3 S4 S5 S6 T sv x) = some ise) : kH l yL_setLevel wsL_setLevel ({ frames := 7, cells := 1, slots := 6, locals := 124 } : Room) D [(cI, .int), (cJ, .long)] [.ref o, .int x, .ref oa] ((poW o q1 q2 q3 q4 q5 q6 qt cI cJ S1 S2 S3 S4 S5 S6 T sv) ++ ouW oa cJ f) (k_code iae (A_X4_setLevel_t S1 S2 S3 S4 S5 S6 T sv x)) (if (A_X4_setLevel_t S1 S2 S3 S4 S5 S6 T sv x) = none then ((poW o q1 q2 q3 q4 q5 q6 qt cI cJ S1 (A_X4_setLevel_s2 S1 S2 S3 S4 S5 S6 T sv x) (A_X4_setLevel_s3 S1 S2 S3 S4 S5 S6 T sv x) (A_X4_setLevel_s4 S1 S2 S3 S4 S5 S6 T sv x) (A_X4_setLevel_s5 S1 S2 S3 S4 S5 S6 T sv x) (A_X4_setLevel_s6 S1 S2 S3 S4 S5 S6 T sv x) T (A_X4_setLevel_s0 S1 S2 S3 S4 S5 S6 T sv x)) ++ ouW oa cJ (vp_updL f 0 (A_X4_setLevel_r S1 S2 S3 S4 S5 S6 T sv x).toInt64)) else ((poW o q1 q2 q3 q4 q5 q6 qt cI cJ S1 S2 S3 S4 S5 S6 T sv) ++ ouW oa cJ f)) := by
  refine kHBody.met (cc := cL_setLevel) (maxL := 4) (ret := (some .int)) (hh := [(0, 9, 12, 13), (0, 9, 15, 15)]) (by decide) rfl (Nat.le_of_ble_eq_true rfl) ?_
  intro p9 e9 s9 m9 below meth c9 A9 ls hx hb hr hml hts hown hlk hK hP hD hA hTT hN htb hl
  have hown : s9.vm.findClass RL = some m9.cls := hown
  have hS : va_S A9 s9.heap s9.heap [] := va_S.rf
  have hl : lv_has ls 4 [(0, .ref o), (1, .int x), (2, .ref oa)] := hl
  refine lv_aload_n hx hb dL_setLevel_0 rfl (lv_at hl 2 rfl) ?_
  refine lv_iconst (v := 0) hx hb dL_setLevel_1 (by decide) ?_
  refine lv_aload_n hx hb dL_setLevel_2 rfl (lv_at hl 0 rfl) ?_
  refine lv_iload_n hx hb dL_setLevel_3 rfl (lv_at hl 1 rfl) ?_
  refine k_hcalli (a := []) (z := ouW oa cJ f) (wc := (poW o q1 q2 q3 q4 q5 q6 qt cI cJ S1 S2 S3 S4 S5 S6 T sv)) (wc' := (poW o q1 q2 q3 q4 q5 q6 qt cI cJ S1 (A_X4_setLevel_s2 S1 S2 S3 S4 S5 S6 T sv x) (A_X4_setLevel_s3 S1 S2 S3 S4 S5 S6 T sv x) (A_X4_setLevel_s4 S1 S2 S3 S4 S5 S6 T sv x) (A_X4_setLevel_s5 S1 S2 S3 S4 S5 S6 T sv x) (A_X4_setLevel_s6 S1 S2 S3 S4 S5 S6 T sv x) T (A_X4_setLevel_s0 S1 S2 S3 S4 S5 S6 T sv x))) (vx_runV (As := [.int x]) (rest := [.int 0, .ref oa]) ⟨hx, hb, hml, hown, hts⟩ (c_X4_setLevel l D o q1 q2 q3 q4 q5 q6 qt cI cJ S1 S2 S3 S4 S5 S6 T sv x hst _) (cwV 1 hts gL_setLevel_X4_setLevel rfl rfl rfl (by decide +kernel) ⟨Nat.le_of_ble_eq_true rfl, Nat.le_of_ble_eq_true rfl⟩) ⟨kBT_blind, va_recv hK hP (ci := 4) (q0 := 0) rfl rfl, k_preT (a := []) (z := ouW oa cJ f) rfl hK hP hD hS hA hTT⟩ rfl rfl hl.1 rfl (lv_room (Nat.le_of_ble_eq_true rfl)) dL_setLevel_4 ⟨Nat.le_of_ble_eq_true rfl, Nat.le_of_ble_eq_true rfl⟩) rfl (poW_ad _ _ _ _ _ _ _ _ _ _ _ _ _ _ _ _ _ _ _ _ _ _ _ _ _ _) hP hD hS hA (fun E ce q9 H locs ht hP hD hS hce hcv hcl => ?_) (fun H locs ht hP hD hS => ?_)
  · rcases hth with h | h | h
    · exact absurd (ht.symm.trans h) (fun z => nomatch z)
    · have hE : E = iae := Option.some.inj (ht.symm.trans h)
      subst hE
      refine vx_catch (own := RL) (name := iae) (E := iae) hown [] ⟨0, 9, 12, 13⟩ [⟨0, 9, 15, 15⟩] htb (fun z hz => nomatch hz) rfl (by decide) (hts (.classLink RL 13 "java/lang/IllegalArgumentException") (List.mem_of_getElem? (i := 1) rfl)) (va_Nw.use rfl (hTT.2.2.1 iae (by decide))) hce hcv hcl ?_
      refine lv_astore_n (lv' := [(3, .ref q9), (0, .ref o), (1, .int x), (2, .ref oa)]) hx hb dL_setLevel_12 rfl hl (by decide) rfl (fun ls hl => ?_)
      refine lv_iconst (v := 1) hx hb dL_setLevel_13 (by decide) ?_
      exact k_hret (Nat.le_refl 1) (Nat.le_refl 6) hx hb hr hlk hP hS dL_setLevel_14 (by rw [h]; exact (k_code_1 _).symm) (if_neg (by rw [h]; exact fun z => nomatch z)).symm
    · have hE : E = ise := Option.some.inj (ht.symm.trans h)
      subst hE
      refine vx_catch (own := RL) (name := ise) (E := ise) hown [⟨0, 9, 12, 13⟩] ⟨0, 9, 15, 15⟩ [] htb (fun z hz => by cases List.mem_singleton.mp hz; exact Or.inr ⟨by decide, iae, (hts (.classLink RL 13 "java/lang/IllegalArgumentException") (List.mem_of_getElem? (i := 1) rfl)), hN.1⟩) rfl (by decide) (hts (.classLink RL 15 "java/lang/IllegalStateException") (List.mem_of_getElem? (i := 2) rfl)) (va_Nw.use rfl (hTT.2.2.1 ise (by decide))) hce hcv hcl ?_
      refine lv_astore_n (lv' := [(3, .ref q9), (0, .ref o), (1, .int x), (2, .ref oa)]) hx hb dL_setLevel_15 rfl hl (by decide) rfl (fun ls hl => ?_)
      refine lv_iconst (v := 2) hx hb dL_setLevel_16 (by decide) ?_
      exact k_hret (Nat.le_refl 1) (Nat.le_refl 6) hx hb hr hlk hP hS dL_setLevel_17 (by rw [h]; exact (k_code_2 (by decide)).symm) (if_neg (by rw [h]; exact fun z => nomatch z)).symm
  · have hP : va_P D vwCl ((poW o q1 q2 q3 q4 q5 q6 qt cI cJ S1 (A_X4_setLevel_s2 S1 S2 S3 S4 S5 S6 T sv x) (A_X4_setLevel_s3 S1 S2 S3 S4 S5 S6 T sv x) (A_X4_setLevel_s4 S1 S2 S3 S4 S5 S6 T sv x) (A_X4_setLevel_s5 S1 S2 S3 S4 S5 S6 T sv x) (A_X4_setLevel_s6 S1 S2 S3 S4 S5 S6 T sv x) T (A_X4_setLevel_s0 S1 S2 S3 S4 S5 S6 T sv x)) ++ ouW oa cJ f) H := hP
    have hD : va_D A9 ((poW o q1 q2 q3 q4 q5 q6 qt cI cJ S1 (A_X4_setLevel_s2 S1 S2 S3 S4 S5 S6 T sv x) (A_X4_setLevel_s3 S1 S2 S3 S4 S5 S6 T sv x) (A_X4_setLevel_s4 S1 S2 S3 S4 S5 S6 T sv x) (A_X4_setLevel_s5 S1 S2 S3 S4 S5 S6 T sv x) (A_X4_setLevel_s6 S1 S2 S3 S4 S5 S6 T sv x) T (A_X4_setLevel_s0 S1 S2 S3 S4 S5 S6 T sv x)) ++ ouW oa cJ f) := hD
    refine lv_i2l hx hb dL_setLevel_7 rfl ?_
    refine va_last (f := f) hx hb hK hP hD hS 94 1 rfl rfl (k_in (k := 0) rfl (by decide) (by decide)) dL_setLevel_8 (fun H locs hP hD hS => ?_)
    rw [show (0 : Int32).toNatClampNeg = 0 from rfl] at hP hD
    have hP : va_P D vwCl ((poW o q1 q2 q3 q4 q5 q6 qt cI cJ S1 (A_X4_setLevel_s2 S1 S2 S3 S4 S5 S6 T sv x) (A_X4_setLevel_s3 S1 S2 S3 S4 S5 S6 T sv x) (A_X4_setLevel_s4 S1 S2 S3 S4 S5 S6 T sv x) (A_X4_setLevel_s5 S1 S2 S3 S4 S5 S6 T sv x) (A_X4_setLevel_s6 S1 S2 S3 S4 S5 S6 T sv x) T (A_X4_setLevel_s0 S1 S2 S3 S4 S5 S6 T sv x)) ++ ouW oa cJ (vp_updL f 0 (A_X4_setLevel_r S1 S2 S3 S4 S5 S6 T sv x).toInt64)) H := hP
    refine lv_goto (tgt := 18) hx hb dL_setLevel_9 (by decide) ?_
    refine lv_iconst (v := 0) hx hb dL_setLevel_18 (by decide) ?_
    exact k_hret (Nat.le_refl 1) (Nat.le_refl 6) hx hb hr hlk hP hS dL_setLevel_19 (by rw [ht]; exact (k_code_0 _).symm) (if_pos ht).symm

set_option maxHeartbeats 1000000 in
set_option maxRecDepth 100000 in
theorem h_set (l : Launch) (D : va_G) (o : Nat) (q1 q2 q3 q4 q5 q6 qt : Nat → Nat) (cI cJ : ClassId) (S1 S2 S3 S4 S5 S6 : SS) (T : TS) (sv : Int32) (oa : Nat) (f : Nat → Int64) (x y : Int32)  (hst : l.stackTraces = false) (hth : (A_X4_set_t S1 S2 S3 S4 S5 S6 T sv x y) = none ∨ (A_X4_set_t S1 S2 S3 S4 S5 S6 T sv x y) = some iae) : kH l yL_set wsL_set ({ frames := 7, cells := 1, slots := 6, locals := 124 } : Room) D [(cI, .int), (cJ, .long)] [.ref o, .int x, .int y, .ref oa] ((poW o q1 q2 q3 q4 q5 q6 qt cI cJ S1 S2 S3 S4 S5 S6 T sv) ++ ouW oa cJ f) (k_code iae (A_X4_set_t S1 S2 S3 S4 S5 S6 T sv x y)) (if (A_X4_set_t S1 S2 S3 S4 S5 S6 T sv x y) = none then ((poW o q1 q2 q3 q4 q5 q6 qt cI cJ S1 (A_X4_set_s2 S1 S2 S3 S4 S5 S6 T sv x y) (A_X4_set_s3 S1 S2 S3 S4 S5 S6 T sv x y) (A_X4_set_s4 S1 S2 S3 S4 S5 S6 T sv x y) (A_X4_set_s5 S1 S2 S3 S4 S5 S6 T sv x y) (A_X4_set_s6 S1 S2 S3 S4 S5 S6 T sv x y) T (A_X4_set_s0 S1 S2 S3 S4 S5 S6 T sv x y)) ++ ouW oa cJ (vp_updL f 0 (A_X4_set_r S1 S2 S3 S4 S5 S6 T sv x y).toInt64)) else ((poW o q1 q2 q3 q4 q5 q6 qt cI cJ S1 S2 S3 S4 S5 S6 T sv) ++ ouW oa cJ f)) := by
  refine kHBody.met (cc := cL_set) (maxL := 5) (ret := (some .int)) (hh := [(0, 10, 13, 13)]) (by decide) rfl (Nat.le_of_ble_eq_true rfl) ?_
  intro p9 e9 s9 m9 below meth c9 A9 ls hx hb hr hml hts hown hlk hK hP hD hA hTT hN htb hl
  have hown : s9.vm.findClass RL = some m9.cls := hown
  have hS : va_S A9 s9.heap s9.heap [] := va_S.rf
  have hl : lv_has ls 5 [(0, .ref o), (1, .int x), (2, .int y), (3, .ref oa)] := hl
  refine lv_aload_n hx hb dL_set_0 rfl (lv_at hl 3 rfl) ?_
  refine lv_iconst (v := 0) hx hb dL_set_1 (by decide) ?_
  refine lv_aload_n hx hb dL_set_2 rfl (lv_at hl 0 rfl) ?_
  refine lv_iload_n hx hb dL_set_3 rfl (lv_at hl 1 rfl) ?_
  refine lv_iload_n hx hb dL_set_4 rfl (lv_at hl 2 rfl) ?_
  refine k_hcalli (a := []) (z := ouW oa cJ f) (wc := (poW o q1 q2 q3 q4 q5 q6 qt cI cJ S1 S2 S3 S4 S5 S6 T sv)) (wc' := (poW o q1 q2 q3 q4 q5 q6 qt cI cJ S1 (A_X4_set_s2 S1 S2 S3 S4 S5 S6 T sv x y) (A_X4_set_s3 S1 S2 S3 S4 S5 S6 T sv x y) (A_X4_set_s4 S1 S2 S3 S4 S5 S6 T sv x y) (A_X4_set_s5 S1 S2 S3 S4 S5 S6 T sv x y) (A_X4_set_s6 S1 S2 S3 S4 S5 S6 T sv x y) T (A_X4_set_s0 S1 S2 S3 S4 S5 S6 T sv x y))) (vx_runV (As := [.int x, .int y]) (rest := [.int 0, .ref oa]) ⟨hx, hb, hml, hown, hts⟩ (c_X4_set l D o q1 q2 q3 q4 q5 q6 qt cI cJ S1 S2 S3 S4 S5 S6 T sv x y hst _) (cwV 2 hts gL_set_X4_set rfl rfl rfl (by decide +kernel) ⟨Nat.le_of_ble_eq_true rfl, Nat.le_of_ble_eq_true rfl⟩) ⟨kBT_blind, va_recv hK hP (ci := 4) (q0 := 0) rfl rfl, k_preT (a := []) (z := ouW oa cJ f) rfl hK hP hD hS hA hTT⟩ rfl rfl hl.1 rfl (lv_room (Nat.le_of_ble_eq_true rfl)) dL_set_5 ⟨Nat.le_of_ble_eq_true rfl, Nat.le_of_ble_eq_true rfl⟩) rfl (poW_ad _ _ _ _ _ _ _ _ _ _ _ _ _ _ _ _ _ _ _ _ _ _ _ _ _ _) hP hD hS hA (fun E ce q9 H locs ht hP hD hS hce hcv hcl => ?_) (fun H locs ht hP hD hS => ?_)
  · rcases hth with h | h
    · exact absurd (ht.symm.trans h) (fun z => nomatch z)
    · have hE : E = iae := Option.some.inj (ht.symm.trans h)
      subst hE
      refine vx_catch (own := RL) (name := iae) (E := iae) hown [] ⟨0, 10, 13, 13⟩ [] htb (fun z hz => nomatch hz) rfl (by decide) (hts (.classLink RL 13 "java/lang/IllegalArgumentException") (List.mem_of_getElem? (i := 1) rfl)) (va_Nw.use rfl (hTT.2.2.1 iae (by decide))) hce hcv hcl ?_
      refine lv_astore (lv' := [(4, .ref q9), (0, .ref o), (1, .int x), (2, .int y), (3, .ref oa)]) hx hb dL_set_13 hl (by decide) rfl (fun ls hl => ?_)
      refine lv_iconst (v := 1) hx hb dL_set_15 (by decide) ?_
      exact k_hret (Nat.le_refl 1) (Nat.le_refl 6) hx hb hr hlk hP hS dL_set_16 (by rw [h]; exact (k_code_1 _).symm) (if_neg (by rw [h]; exact fun z => nomatch z)).symm
  · have hP : va_P D vwCl ((poW o q1 q2 q3 q4 q5 q6 qt cI cJ S1 (A_X4_set_s2 S1 S2 S3 S4 S5 S6 T sv x y) (A_X4_set_s3 S1 S2 S3 S4 S5 S6 T sv x y) (A_X4_set_s4 S1 S2 S3 S4 S5 S6 T sv x y) (A_X4_set_s5 S1 S2 S3 S4 S5 S6 T sv x y) (A_X4_set_s6 S1 S2 S3 S4 S5 S6 T sv x y) T (A_X4_set_s0 S1 S2 S3 S4 S5 S6 T sv x y)) ++ ouW oa cJ f) H := hP
    have hD : va_D A9 ((poW o q1 q2 q3 q4 q5 q6 qt cI cJ S1 (A_X4_set_s2 S1 S2 S3 S4 S5 S6 T sv x y) (A_X4_set_s3 S1 S2 S3 S4 S5 S6 T sv x y) (A_X4_set_s4 S1 S2 S3 S4 S5 S6 T sv x y) (A_X4_set_s5 S1 S2 S3 S4 S5 S6 T sv x y) (A_X4_set_s6 S1 S2 S3 S4 S5 S6 T sv x y) T (A_X4_set_s0 S1 S2 S3 S4 S5 S6 T sv x y)) ++ ouW oa cJ f) := hD
    refine lv_i2l hx hb dL_set_8 rfl ?_
    refine va_last (f := f) hx hb hK hP hD hS 94 1 rfl rfl (k_in (k := 0) rfl (by decide) (by decide)) dL_set_9 (fun H locs hP hD hS => ?_)
    rw [show (0 : Int32).toNatClampNeg = 0 from rfl] at hP hD
    have hP : va_P D vwCl ((poW o q1 q2 q3 q4 q5 q6 qt cI cJ S1 (A_X4_set_s2 S1 S2 S3 S4 S5 S6 T sv x y) (A_X4_set_s3 S1 S2 S3 S4 S5 S6 T sv x y) (A_X4_set_s4 S1 S2 S3 S4 S5 S6 T sv x y) (A_X4_set_s5 S1 S2 S3 S4 S5 S6 T sv x y) (A_X4_set_s6 S1 S2 S3 S4 S5 S6 T sv x y) T (A_X4_set_s0 S1 S2 S3 S4 S5 S6 T sv x y)) ++ ouW oa cJ (vp_updL f 0 (A_X4_set_r S1 S2 S3 S4 S5 S6 T sv x y).toInt64)) H := hP
    refine lv_goto (tgt := 17) hx hb dL_set_10 (by decide) ?_
    refine lv_iconst (v := 0) hx hb dL_set_17 (by decide) ?_
    exact k_hret (Nat.le_refl 1) (Nat.le_refl 6) hx hb hr hlk hP hS dL_set_18 (by rw [ht]; exact (k_code_0 _).symm) (if_pos ht).symm

set_option maxHeartbeats 1000000 in
set_option maxRecDepth 100000 in
theorem h_setDemand (l : Launch) (D : va_G) (o : Nat) (q1 q2 q3 q4 q5 q6 qt : Nat → Nat) (cI cJ : ClassId) (S1 S2 S3 S4 S5 S6 : SS) (T : TS) (sv : Int32) (oa : Nat) (f : Nat → Int64) (x y : Int32)  (hst : l.stackTraces = false) (hth : (A_X4_setDemand_t S1 S2 S3 S4 S5 S6 T sv x y) = none ∨ (A_X4_setDemand_t S1 S2 S3 S4 S5 S6 T sv x y) = some iob ∨ (A_X4_setDemand_t S1 S2 S3 S4 S5 S6 T sv x y) = some iae) : kH l yL_setDemand wsL_setDemand ({ frames := 7, cells := 1, slots := 6, locals := 124 } : Room) D [(cI, .int), (cJ, .long)] [.ref o, .int x, .int y, .ref oa] ((poW o q1 q2 q3 q4 q5 q6 qt cI cJ S1 S2 S3 S4 S5 S6 T sv) ++ ouW oa cJ f) (k_code iob (A_X4_setDemand_t S1 S2 S3 S4 S5 S6 T sv x y)) (if (A_X4_setDemand_t S1 S2 S3 S4 S5 S6 T sv x y) = none then ((poW o q1 q2 q3 q4 q5 q6 qt cI cJ S1 (A_X4_setDemand_s2 S1 S2 S3 S4 S5 S6 T sv x y) (A_X4_setDemand_s3 S1 S2 S3 S4 S5 S6 T sv x y) (A_X4_setDemand_s4 S1 S2 S3 S4 S5 S6 T sv x y) (A_X4_setDemand_s5 S1 S2 S3 S4 S5 S6 T sv x y) (A_X4_setDemand_s6 S1 S2 S3 S4 S5 S6 T sv x y) T (A_X4_setDemand_s0 S1 S2 S3 S4 S5 S6 T sv x y)) ++ ouW oa cJ (vp_updL f 0 (A_X4_setDemand_r S1 S2 S3 S4 S5 S6 T sv x y).toInt64)) else ((poW o q1 q2 q3 q4 q5 q6 qt cI cJ S1 S2 S3 S4 S5 S6 T sv) ++ ouW oa cJ f)) := by
  refine kHBody.met (cc := cL_setDemand) (maxL := 5) (ret := (some .int)) (hh := [(0, 10, 13, 30), (0, 10, 17, 13)]) (by decide) rfl (Nat.le_of_ble_eq_true rfl) ?_
  intro p9 e9 s9 m9 below meth c9 A9 ls hx hb hr hml hts hown hlk hK hP hD hA hTT hN htb hl
  have hown : s9.vm.findClass RL = some m9.cls := hown
  have hS : va_S A9 s9.heap s9.heap [] := va_S.rf
  have hl : lv_has ls 5 [(0, .ref o), (1, .int x), (2, .int y), (3, .ref oa)] := hl
  refine lv_aload_n hx hb dL_setDemand_0 rfl (lv_at hl 3 rfl) ?_
  refine lv_iconst (v := 0) hx hb dL_setDemand_1 (by decide) ?_
  refine lv_aload_n hx hb dL_setDemand_2 rfl (lv_at hl 0 rfl) ?_
  refine lv_iload_n hx hb dL_setDemand_3 rfl (lv_at hl 1 rfl) ?_
  refine lv_iload_n hx hb dL_setDemand_4 rfl (lv_at hl 2 rfl) ?_
  refine k_hcalli (a := []) (z := ouW oa cJ f) (wc := (poW o q1 q2 q3 q4 q5 q6 qt cI cJ S1 S2 S3 S4 S5 S6 T sv)) (wc' := (poW o q1 q2 q3 q4 q5 q6 qt cI cJ S1 (A_X4_setDemand_s2 S1 S2 S3 S4 S5 S6 T sv x y) (A_X4_setDemand_s3 S1 S2 S3 S4 S5 S6 T sv x y) (A_X4_setDemand_s4 S1 S2 S3 S4 S5 S6 T sv x y) (A_X4_setDemand_s5 S1 S2 S3 S4 S5 S6 T sv x y) (A_X4_setDemand_s6 S1 S2 S3 S4 S5 S6 T sv x y) T (A_X4_setDemand_s0 S1 S2 S3 S4 S5 S6 T sv x y))) (vx_runV (As := [.int x, .int y]) (rest := [.int 0, .ref oa]) ⟨hx, hb, hml, hown, hts⟩ (c_X4_setDemand l D o q1 q2 q3 q4 q5 q6 qt cI cJ S1 S2 S3 S4 S5 S6 T sv x y hst _) (cwV 2 hts gL_setDemand_X4_setDemand rfl rfl rfl (by decide +kernel) ⟨Nat.le_of_ble_eq_true rfl, Nat.le_of_ble_eq_true rfl⟩) ⟨kBT_blind, va_recv hK hP (ci := 4) (q0 := 0) rfl rfl, k_preT (a := []) (z := ouW oa cJ f) rfl hK hP hD hS hA hTT⟩ rfl rfl hl.1 rfl (lv_room (Nat.le_of_ble_eq_true rfl)) dL_setDemand_5 ⟨Nat.le_of_ble_eq_true rfl, Nat.le_of_ble_eq_true rfl⟩) rfl (poW_ad _ _ _ _ _ _ _ _ _ _ _ _ _ _ _ _ _ _ _ _ _ _ _ _ _ _) hP hD hS hA (fun E ce q9 H locs ht hP hD hS hce hcv hcl => ?_) (fun H locs ht hP hD hS => ?_)
  · rcases hth with h | h | h
    · exact absurd (ht.symm.trans h) (fun z => nomatch z)
    · have hE : E = iob := Option.some.inj (ht.symm.trans h)
      subst hE
      refine vx_catch (own := RL) (name := iob) (E := iob) hown [] ⟨0, 10, 13, 30⟩ [⟨0, 10, 17, 13⟩] htb (fun z hz => nomatch hz) rfl (by decide) (hts (.classLink RL 30 "java/lang/IndexOutOfBoundsException") (List.mem_of_getElem? (i := 1) rfl)) (va_Nw.use rfl (hTT.2.2.1 iob (by decide))) hce hcv hcl ?_
      refine lv_astore (lv' := [(4, .ref q9), (0, .ref o), (1, .int x), (2, .int y), (3, .ref oa)]) hx hb dL_setDemand_13 hl (by decide) rfl (fun ls hl => ?_)
      refine lv_iconst (v := 1) hx hb dL_setDemand_15 (by decide) ?_
      exact k_hret (Nat.le_refl 1) (Nat.le_refl 6) hx hb hr hlk hP hS dL_setDemand_16 (by rw [h]; exact (k_code_1 _).symm) (if_neg (by rw [h]; exact fun z => nomatch z)).symm
    · have hE : E = iae := Option.some.inj (ht.symm.trans h)
      subst hE
      refine vx_catch (own := RL) (name := iae) (E := iae) hown [⟨0, 10, 13, 30⟩] ⟨0, 10, 17, 13⟩ [] htb (fun z hz => by cases List.mem_singleton.mp hz; exact Or.inr ⟨by decide, iob, (hts (.classLink RL 30 "java/lang/IndexOutOfBoundsException") (List.mem_of_getElem? (i := 1) rfl)), hN.2.1⟩) rfl (by decide) (hts (.classLink RL 13 "java/lang/IllegalArgumentException") (List.mem_of_getElem? (i := 2) rfl)) (va_Nw.use rfl (hTT.2.2.1 iae (by decide))) hce hcv hcl ?_
      refine lv_astore (lv' := [(4, .ref q9), (0, .ref o), (1, .int x), (2, .int y), (3, .ref oa)]) hx hb dL_setDemand_17 hl (by decide) rfl (fun ls hl => ?_)
      refine lv_iconst (v := 2) hx hb dL_setDemand_19 (by decide) ?_
      exact k_hret (Nat.le_refl 1) (Nat.le_refl 6) hx hb hr hlk hP hS dL_setDemand_20 (by rw [h]; exact (k_code_2 (by decide)).symm) (if_neg (by rw [h]; exact fun z => nomatch z)).symm
  · have hP : va_P D vwCl ((poW o q1 q2 q3 q4 q5 q6 qt cI cJ S1 (A_X4_setDemand_s2 S1 S2 S3 S4 S5 S6 T sv x y) (A_X4_setDemand_s3 S1 S2 S3 S4 S5 S6 T sv x y) (A_X4_setDemand_s4 S1 S2 S3 S4 S5 S6 T sv x y) (A_X4_setDemand_s5 S1 S2 S3 S4 S5 S6 T sv x y) (A_X4_setDemand_s6 S1 S2 S3 S4 S5 S6 T sv x y) T (A_X4_setDemand_s0 S1 S2 S3 S4 S5 S6 T sv x y)) ++ ouW oa cJ f) H := hP
    have hD : va_D A9 ((poW o q1 q2 q3 q4 q5 q6 qt cI cJ S1 (A_X4_setDemand_s2 S1 S2 S3 S4 S5 S6 T sv x y) (A_X4_setDemand_s3 S1 S2 S3 S4 S5 S6 T sv x y) (A_X4_setDemand_s4 S1 S2 S3 S4 S5 S6 T sv x y) (A_X4_setDemand_s5 S1 S2 S3 S4 S5 S6 T sv x y) (A_X4_setDemand_s6 S1 S2 S3 S4 S5 S6 T sv x y) T (A_X4_setDemand_s0 S1 S2 S3 S4 S5 S6 T sv x y)) ++ ouW oa cJ f) := hD
    refine lv_i2l hx hb dL_setDemand_8 rfl ?_
    refine va_last (f := f) hx hb hK hP hD hS 94 1 rfl rfl (k_in (k := 0) rfl (by decide) (by decide)) dL_setDemand_9 (fun H locs hP hD hS => ?_)
    rw [show (0 : Int32).toNatClampNeg = 0 from rfl] at hP hD
    have hP : va_P D vwCl ((poW o q1 q2 q3 q4 q5 q6 qt cI cJ S1 (A_X4_setDemand_s2 S1 S2 S3 S4 S5 S6 T sv x y) (A_X4_setDemand_s3 S1 S2 S3 S4 S5 S6 T sv x y) (A_X4_setDemand_s4 S1 S2 S3 S4 S5 S6 T sv x y) (A_X4_setDemand_s5 S1 S2 S3 S4 S5 S6 T sv x y) (A_X4_setDemand_s6 S1 S2 S3 S4 S5 S6 T sv x y) T (A_X4_setDemand_s0 S1 S2 S3 S4 S5 S6 T sv x y)) ++ ouW oa cJ (vp_updL f 0 (A_X4_setDemand_r S1 S2 S3 S4 S5 S6 T sv x y).toInt64)) H := hP
    refine lv_goto (tgt := 21) hx hb dL_setDemand_10 (by decide) ?_
    refine lv_iconst (v := 0) hx hb dL_setDemand_21 (by decide) ?_
    exact k_hret (Nat.le_refl 1) (Nat.le_refl 6) hx hb hr hlk hP hS dL_setDemand_22 (by rw [ht]; exact (k_code_0 _).symm) (if_pos ht).symm

set_option maxHeartbeats 1000000 in
set_option maxRecDepth 100000 in
theorem h_addPump (l : Launch) (D : va_G) (o : Nat) (q1 q2 q3 q4 q5 q6 qt : Nat → Nat) (cI cJ : ClassId) (S1 S2 S3 S4 S5 S6 : SS) (T : TS) (sv : Int32) (oa : Nat) (f : Nat → Int64) (x y : Int32) (n : Nat) (hn : S2.1 8 = nI n) (hn6 : n ≤ 6) (hst : l.stackTraces = false) (hth : (A_X4_addPump_t S1 S2 S3 S4 S5 S6 T sv n x y) = none ∨ (A_X4_addPump_t S1 S2 S3 S4 S5 S6 T sv n x y) = some iae ∨ (A_X4_addPump_t S1 S2 S3 S4 S5 S6 T sv n x y) = some ise) : kH l yL_addPump wsL_addPump ({ frames := 7, cells := 1, slots := 6, locals := 124 } : Room) D [(cI, .int), (cJ, .long)] [.ref o, .int x, .int y, .ref oa] ((poW o q1 q2 q3 q4 q5 q6 qt cI cJ S1 S2 S3 S4 S5 S6 T sv) ++ ouW oa cJ f) (k_code iae (A_X4_addPump_t S1 S2 S3 S4 S5 S6 T sv n x y)) (if (A_X4_addPump_t S1 S2 S3 S4 S5 S6 T sv n x y) = none then ((poW o q1 q2 q3 q4 q5 q6 qt cI cJ S1 (A_X4_addPump_s2 S1 S2 S3 S4 S5 S6 T sv n x y) (A_X4_addPump_s3 S1 S2 S3 S4 S5 S6 T sv n x y) (A_X4_addPump_s4 S1 S2 S3 S4 S5 S6 T sv n x y) (A_X4_addPump_s5 S1 S2 S3 S4 S5 S6 T sv n x y) (A_X4_addPump_s6 S1 S2 S3 S4 S5 S6 T sv n x y) T (A_X4_addPump_s0 S1 S2 S3 S4 S5 S6 T sv n x y)) ++ ouW oa cJ (vp_updL f 0 (A_X4_addPump_r S1 S2 S3 S4 S5 S6 T sv n x y).toInt64)) else ((poW o q1 q2 q3 q4 q5 q6 qt cI cJ S1 S2 S3 S4 S5 S6 T sv) ++ ouW oa cJ f)) := by
  refine kHBody.met (cc := cL_addPump) (maxL := 5) (ret := (some .int)) (hh := [(0, 10, 13, 13), (0, 10, 17, 15)]) (by decide) rfl (Nat.le_of_ble_eq_true rfl) ?_
  intro p9 e9 s9 m9 below meth c9 A9 ls hx hb hr hml hts hown hlk hK hP hD hA hTT hN htb hl
  have hown : s9.vm.findClass RL = some m9.cls := hown
  have hS : va_S A9 s9.heap s9.heap [] := va_S.rf
  have hl : lv_has ls 5 [(0, .ref o), (1, .int x), (2, .int y), (3, .ref oa)] := hl
  refine lv_aload_n hx hb dL_addPump_0 rfl (lv_at hl 3 rfl) ?_
  refine lv_iconst (v := 0) hx hb dL_addPump_1 (by decide) ?_
  refine lv_aload_n hx hb dL_addPump_2 rfl (lv_at hl 0 rfl) ?_
  refine lv_iload_n hx hb dL_addPump_3 rfl (lv_at hl 1 rfl) ?_
  refine lv_iload_n hx hb dL_addPump_4 rfl (lv_at hl 2 rfl) ?_
  refine k_hcalli (a := []) (z := ouW oa cJ f) (wc := (poW o q1 q2 q3 q4 q5 q6 qt cI cJ S1 S2 S3 S4 S5 S6 T sv)) (wc' := (poW o q1 q2 q3 q4 q5 q6 qt cI cJ S1 (A_X4_addPump_s2 S1 S2 S3 S4 S5 S6 T sv n x y) (A_X4_addPump_s3 S1 S2 S3 S4 S5 S6 T sv n x y) (A_X4_addPump_s4 S1 S2 S3 S4 S5 S6 T sv n x y) (A_X4_addPump_s5 S1 S2 S3 S4 S5 S6 T sv n x y) (A_X4_addPump_s6 S1 S2 S3 S4 S5 S6 T sv n x y) T (A_X4_addPump_s0 S1 S2 S3 S4 S5 S6 T sv n x y))) (vx_runV (As := [.int x, .int y]) (rest := [.int 0, .ref oa]) ⟨hx, hb, hml, hown, hts⟩ (c_X4_addPump l D o q1 q2 q3 q4 q5 q6 qt cI cJ S1 S2 S3 S4 S5 S6 T sv x y n hn hn6 hst _) (cwV 2 hts gL_addPump_X4_addPump rfl rfl rfl (by decide +kernel) ⟨Nat.le_of_ble_eq_true rfl, Nat.le_of_ble_eq_true rfl⟩) ⟨kBT_blind, va_recv hK hP (ci := 4) (q0 := 0) rfl rfl, k_preT (a := []) (z := ouW oa cJ f) rfl hK hP hD hS hA hTT⟩ rfl rfl hl.1 rfl (lv_room (Nat.le_of_ble_eq_true rfl)) dL_addPump_5 ⟨Nat.le_of_ble_eq_true rfl, Nat.le_of_ble_eq_true rfl⟩) rfl (poW_ad _ _ _ _ _ _ _ _ _ _ _ _ _ _ _ _ _ _ _ _ _ _ _ _ _ _) hP hD hS hA (fun E ce q9 H locs ht hP hD hS hce hcv hcl => ?_) (fun H locs ht hP hD hS => ?_)
  · rcases hth with h | h | h
    · exact absurd (ht.symm.trans h) (fun z => nomatch z)
    · have hE : E = iae := Option.some.inj (ht.symm.trans h)
      subst hE
      refine vx_catch (own := RL) (name := iae) (E := iae) hown [] ⟨0, 10, 13, 13⟩ [⟨0, 10, 17, 15⟩] htb (fun z hz => nomatch hz) rfl (by decide) (hts (.classLink RL 13 "java/lang/IllegalArgumentException") (List.mem_of_getElem? (i := 1) rfl)) (va_Nw.use rfl (hTT.2.2.1 iae (by decide))) hce hcv hcl ?_
      refine lv_astore (lv' := [(4, .ref q9), (0, .ref o), (1, .int x), (2, .int y), (3, .ref oa)]) hx hb dL_addPump_13 hl (by decide) rfl (fun ls hl => ?_)
      refine lv_iconst (v := 1) hx hb dL_addPump_15 (by decide) ?_
      exact k_hret (Nat.le_refl 1) (Nat.le_refl 6) hx hb hr hlk hP hS dL_addPump_16 (by rw [h]; exact (k_code_1 _).symm) (if_neg (by rw [h]; exact fun z => nomatch z)).symm
    · have hE : E = ise := Option.some.inj (ht.symm.trans h)
      subst hE
      refine vx_catch (own := RL) (name := ise) (E := ise) hown [⟨0, 10, 13, 13⟩] ⟨0, 10, 17, 15⟩ [] htb (fun z hz => by cases List.mem_singleton.mp hz; exact Or.inr ⟨by decide, iae, (hts (.classLink RL 13 "java/lang/IllegalArgumentException") (List.mem_of_getElem? (i := 1) rfl)), hN.1⟩) rfl (by decide) (hts (.classLink RL 15 "java/lang/IllegalStateException") (List.mem_of_getElem? (i := 2) rfl)) (va_Nw.use rfl (hTT.2.2.1 ise (by decide))) hce hcv hcl ?_
      refine lv_astore (lv' := [(4, .ref q9), (0, .ref o), (1, .int x), (2, .int y), (3, .ref oa)]) hx hb dL_addPump_17 hl (by decide) rfl (fun ls hl => ?_)
      refine lv_iconst (v := 2) hx hb dL_addPump_19 (by decide) ?_
      exact k_hret (Nat.le_refl 1) (Nat.le_refl 6) hx hb hr hlk hP hS dL_addPump_20 (by rw [h]; exact (k_code_2 (by decide)).symm) (if_neg (by rw [h]; exact fun z => nomatch z)).symm
  · have hP : va_P D vwCl ((poW o q1 q2 q3 q4 q5 q6 qt cI cJ S1 (A_X4_addPump_s2 S1 S2 S3 S4 S5 S6 T sv n x y) (A_X4_addPump_s3 S1 S2 S3 S4 S5 S6 T sv n x y) (A_X4_addPump_s4 S1 S2 S3 S4 S5 S6 T sv n x y) (A_X4_addPump_s5 S1 S2 S3 S4 S5 S6 T sv n x y) (A_X4_addPump_s6 S1 S2 S3 S4 S5 S6 T sv n x y) T (A_X4_addPump_s0 S1 S2 S3 S4 S5 S6 T sv n x y)) ++ ouW oa cJ f) H := hP
    have hD : va_D A9 ((poW o q1 q2 q3 q4 q5 q6 qt cI cJ S1 (A_X4_addPump_s2 S1 S2 S3 S4 S5 S6 T sv n x y) (A_X4_addPump_s3 S1 S2 S3 S4 S5 S6 T sv n x y) (A_X4_addPump_s4 S1 S2 S3 S4 S5 S6 T sv n x y) (A_X4_addPump_s5 S1 S2 S3 S4 S5 S6 T sv n x y) (A_X4_addPump_s6 S1 S2 S3 S4 S5 S6 T sv n x y) T (A_X4_addPump_s0 S1 S2 S3 S4 S5 S6 T sv n x y)) ++ ouW oa cJ f) := hD
    refine lv_i2l hx hb dL_addPump_8 rfl ?_
    refine va_last (f := f) hx hb hK hP hD hS 94 1 rfl rfl (k_in (k := 0) rfl (by decide) (by decide)) dL_addPump_9 (fun H locs hP hD hS => ?_)
    rw [show (0 : Int32).toNatClampNeg = 0 from rfl] at hP hD
    have hP : va_P D vwCl ((poW o q1 q2 q3 q4 q5 q6 qt cI cJ S1 (A_X4_addPump_s2 S1 S2 S3 S4 S5 S6 T sv n x y) (A_X4_addPump_s3 S1 S2 S3 S4 S5 S6 T sv n x y) (A_X4_addPump_s4 S1 S2 S3 S4 S5 S6 T sv n x y) (A_X4_addPump_s5 S1 S2 S3 S4 S5 S6 T sv n x y) (A_X4_addPump_s6 S1 S2 S3 S4 S5 S6 T sv n x y) T (A_X4_addPump_s0 S1 S2 S3 S4 S5 S6 T sv n x y)) ++ ouW oa cJ (vp_updL f 0 (A_X4_addPump_r S1 S2 S3 S4 S5 S6 T sv n x y).toInt64)) H := hP
    refine lv_goto (tgt := 21) hx hb dL_addPump_10 (by decide) ?_
    refine lv_iconst (v := 0) hx hb dL_addPump_21 (by decide) ?_
    exact k_hret (Nat.le_refl 1) (Nat.le_refl 6) hx hb hr hlk hP hS dL_addPump_22 (by rw [ht]; exact (k_code_0 _).symm) (if_pos ht).symm

set_option maxHeartbeats 1000000 in
set_option maxRecDepth 100000 in
theorem h_swear (l : Launch) (D : va_G) (o : Nat) (q1 q2 q3 q4 q5 q6 qt : Nat → Nat) (cI cJ : ClassId) (S1 S2 S3 S4 S5 S6 : SS) (T : TS) (sv : Int32) (oa : Nat) (f : Nat → Int64) (x y : Int32) (n : Nat) (hn : S2.1 8 = nI n) (hn6 : n ≤ 6) (hst : l.stackTraces = false) (hth : (A_X4_swear_t S1 S2 S3 S4 S5 S6 T sv n x y) = none ∨ (A_X4_swear_t S1 S2 S3 S4 S5 S6 T sv n x y) = some iob ∨ (A_X4_swear_t S1 S2 S3 S4 S5 S6 T sv n x y) = some iae) : kH l yL_swear wsL_swear ({ frames := 7, cells := 1, slots := 6, locals := 125 } : Room) D [(cI, .int), (cJ, .long)] [.ref o, .int x, .int y, .ref oa] ((poW o q1 q2 q3 q4 q5 q6 qt cI cJ S1 S2 S3 S4 S5 S6 T sv) ++ ouW oa cJ f) (k_code iob (A_X4_swear_t S1 S2 S3 S4 S5 S6 T sv n x y)) (if (A_X4_swear_t S1 S2 S3 S4 S5 S6 T sv n x y) = none then ((poW o q1 q2 q3 q4 q5 q6 qt cI cJ S1 (A_X4_swear_s2 S1 S2 S3 S4 S5 S6 T sv n x y) (A_X4_swear_s3 S1 S2 S3 S4 S5 S6 T sv n x y) (A_X4_swear_s4 S1 S2 S3 S4 S5 S6 T sv n x y) (A_X4_swear_s5 S1 S2 S3 S4 S5 S6 T sv n x y) (A_X4_swear_s6 S1 S2 S3 S4 S5 S6 T sv n x y) T (A_X4_swear_s0 S1 S2 S3 S4 S5 S6 T sv n x y)) ++ ouW oa cJ (vp_updL f 0 (A_X4_swear_r S1 S2 S3 S4 S5 S6 T sv n x y).toInt64)) else ((poW o q1 q2 q3 q4 q5 q6 qt cI cJ S1 S2 S3 S4 S5 S6 T sv) ++ ouW oa cJ f)) := by
  refine kHBody.met (cc := cL_swear) (maxL := 5) (ret := (some .int)) (hh := [(0, 10, 13, 30), (0, 10, 17, 13)]) (by decide) rfl (Nat.le_of_ble_eq_true rfl) ?_
  intro p9 e9 s9 m9 below meth c9 A9 ls hx hb hr hml hts hown hlk hK hP hD hA hTT hN htb hl
  have hown : s9.vm.findClass RL = some m9.cls := hown
  have hS : va_S A9 s9.heap s9.heap [] := va_S.rf
  have hl : lv_has ls 5 [(0, .ref o), (1, .int x), (2, .int y), (3, .ref oa)] := hl
  refine lv_aload_n hx hb dL_swear_0 rfl (lv_at hl 3 rfl) ?_
  refine lv_iconst (v := 0) hx hb dL_swear_1 (by decide) ?_
  refine lv_aload_n hx hb dL_swear_2 rfl (lv_at hl 0 rfl) ?_
  refine lv_iload_n hx hb dL_swear_3 rfl (lv_at hl 1 rfl) ?_
  refine lv_iload_n hx hb dL_swear_4 rfl (lv_at hl 2 rfl) ?_
  refine k_hcalli (a := []) (z := ouW oa cJ f) (wc := (poW o q1 q2 q3 q4 q5 q6 qt cI cJ S1 S2 S3 S4 S5 S6 T sv)) (wc' := (poW o q1 q2 q3 q4 q5 q6 qt cI cJ S1 (A_X4_swear_s2 S1 S2 S3 S4 S5 S6 T sv n x y) (A_X4_swear_s3 S1 S2 S3 S4 S5 S6 T sv n x y) (A_X4_swear_s4 S1 S2 S3 S4 S5 S6 T sv n x y) (A_X4_swear_s5 S1 S2 S3 S4 S5 S6 T sv n x y) (A_X4_swear_s6 S1 S2 S3 S4 S5 S6 T sv n x y) T (A_X4_swear_s0 S1 S2 S3 S4 S5 S6 T sv n x y))) (vx_runV (As := [.int x, .int y]) (rest := [.int 0, .ref oa]) ⟨hx, hb, hml, hown, hts⟩ (c_X4_swear l D o q1 q2 q3 q4 q5 q6 qt cI cJ S1 S2 S3 S4 S5 S6 T sv x y n hn hn6 hst _) (cwV 2 hts gL_swear_X4_swear rfl rfl rfl (by decide +kernel) ⟨Nat.le_of_ble_eq_true rfl, Nat.le_of_ble_eq_true rfl⟩) ⟨kBT_blind, va_recv hK hP (ci := 4) (q0 := 0) rfl rfl, k_preT (a := []) (z := ouW oa cJ f) rfl hK hP hD hS hA hTT⟩ rfl rfl hl.1 rfl (lv_room (Nat.le_of_ble_eq_true rfl)) dL_swear_5 ⟨Nat.le_of_ble_eq_true rfl, Nat.le_of_ble_eq_true rfl⟩) rfl (poW_ad _ _ _ _ _ _ _ _ _ _ _ _ _ _ _ _ _ _ _ _ _ _ _ _ _ _) hP hD hS hA (fun E ce q9 H locs ht hP hD hS hce hcv hcl => ?_) (fun H locs ht hP hD hS => ?_)
  · rcases hth with h | h | h
    · exact absurd (ht.symm.trans h) (fun z => nomatch z)
    · have hE : E = iob := Option.some.inj (ht.symm.trans h)
      subst hE
      refine vx_catch (own := RL) (name := iob) (E := iob) hown [] ⟨0, 10, 13, 30⟩ [⟨0, 10, 17, 13⟩] htb (fun z hz => nomatch hz) rfl (by decide) (hts (.classLink RL 30 "java/lang/IndexOutOfBoundsException") (List.mem_of_getElem? (i := 1) rfl)) (va_Nw.use rfl (hTT.2.2.1 iob (by decide))) hce hcv hcl ?_
      refine lv_astore (lv' := [(4, .ref q9), (0, .ref o), (1, .int x), (2, .int y), (3, .ref oa)]) hx hb dL_swear_13 hl (by decide) rfl (fun ls hl => ?_)
      refine lv_iconst (v := 1) hx hb dL_swear_15 (by decide) ?_
      exact k_hret (Nat.le_refl 1) (Nat.le_refl 6) hx hb hr hlk hP hS dL_swear_16 (by rw [h]; exact (k_code_1 _).symm) (if_neg (by rw [h]; exact fun z => nomatch z)).symm
    · have hE : E = iae := Option.some.inj (ht.symm.trans h)
      subst hE
      refine vx_catch (own := RL) (name := iae) (E := iae) hown [⟨0, 10, 13, 30⟩] ⟨0, 10, 17, 13⟩ [] htb (fun z hz => by cases List.mem_singleton.mp hz; exact Or.inr ⟨by decide, iob, (hts (.classLink RL 30 "java/lang/IndexOutOfBoundsException") (List.mem_of_getElem? (i := 1) rfl)), hN.2.1⟩) rfl (by decide) (hts (.classLink RL 13 "java/lang/IllegalArgumentException") (List.mem_of_getElem? (i := 2) rfl)) (va_Nw.use rfl (hTT.2.2.1 iae (by decide))) hce hcv hcl ?_
      refine lv_astore (lv' := [(4, .ref q9), (0, .ref o), (1, .int x), (2, .int y), (3, .ref oa)]) hx hb dL_swear_17 hl (by decide) rfl (fun ls hl => ?_)
      refine lv_iconst (v := 2) hx hb dL_swear_19 (by decide) ?_
      exact k_hret (Nat.le_refl 1) (Nat.le_refl 6) hx hb hr hlk hP hS dL_swear_20 (by rw [h]; exact (k_code_2 (by decide)).symm) (if_neg (by rw [h]; exact fun z => nomatch z)).symm
  · have hP : va_P D vwCl ((poW o q1 q2 q3 q4 q5 q6 qt cI cJ S1 (A_X4_swear_s2 S1 S2 S3 S4 S5 S6 T sv n x y) (A_X4_swear_s3 S1 S2 S3 S4 S5 S6 T sv n x y) (A_X4_swear_s4 S1 S2 S3 S4 S5 S6 T sv n x y) (A_X4_swear_s5 S1 S2 S3 S4 S5 S6 T sv n x y) (A_X4_swear_s6 S1 S2 S3 S4 S5 S6 T sv n x y) T (A_X4_swear_s0 S1 S2 S3 S4 S5 S6 T sv n x y)) ++ ouW oa cJ f) H := hP
    have hD : va_D A9 ((poW o q1 q2 q3 q4 q5 q6 qt cI cJ S1 (A_X4_swear_s2 S1 S2 S3 S4 S5 S6 T sv n x y) (A_X4_swear_s3 S1 S2 S3 S4 S5 S6 T sv n x y) (A_X4_swear_s4 S1 S2 S3 S4 S5 S6 T sv n x y) (A_X4_swear_s5 S1 S2 S3 S4 S5 S6 T sv n x y) (A_X4_swear_s6 S1 S2 S3 S4 S5 S6 T sv n x y) T (A_X4_swear_s0 S1 S2 S3 S4 S5 S6 T sv n x y)) ++ ouW oa cJ f) := hD
    refine lv_i2l hx hb dL_swear_8 rfl ?_
    refine va_last (f := f) hx hb hK hP hD hS 94 1 rfl rfl (k_in (k := 0) rfl (by decide) (by decide)) dL_swear_9 (fun H locs hP hD hS => ?_)
    rw [show (0 : Int32).toNatClampNeg = 0 from rfl] at hP hD
    have hP : va_P D vwCl ((poW o q1 q2 q3 q4 q5 q6 qt cI cJ S1 (A_X4_swear_s2 S1 S2 S3 S4 S5 S6 T sv n x y) (A_X4_swear_s3 S1 S2 S3 S4 S5 S6 T sv n x y) (A_X4_swear_s4 S1 S2 S3 S4 S5 S6 T sv n x y) (A_X4_swear_s5 S1 S2 S3 S4 S5 S6 T sv n x y) (A_X4_swear_s6 S1 S2 S3 S4 S5 S6 T sv n x y) T (A_X4_swear_s0 S1 S2 S3 S4 S5 S6 T sv n x y)) ++ ouW oa cJ (vp_updL f 0 (A_X4_swear_r S1 S2 S3 S4 S5 S6 T sv n x y).toInt64)) H := hP
    refine lv_goto (tgt := 21) hx hb dL_swear_10 (by decide) ?_
    refine lv_iconst (v := 0) hx hb dL_swear_21 (by decide) ?_
    exact k_hret (Nat.le_refl 1) (Nat.le_refl 6) hx hb hr hlk hP hS dL_swear_22 (by rw [ht]; exact (k_code_0 _).symm) (if_pos ht).symm
