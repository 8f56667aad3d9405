set_option maxHeartbeats 1000000 in
set_option maxRecDepth 100000 in
theorem h_service (l : Launch) (D : va_G) (o : Nat) (q1 q2 q3 q4 q5 q6 qt : Nat → Nat) (cI cJ : ClassId) (S1 S2 S3 S4 S5 S6 : SS) (T : TS) (sv : Int32) (oa : Nat) (f : Nat → Int64) (x y : Int32) (n : Nat) (hn : S2.1 8 = nI n) (hn6 : n ≤ 6) (hst : l.stackTraces = false) (hth : (A_X4_service_t S1 S2 S3 S4 S5 S6 T sv n x y) = none ∨ (A_X4_service_t S1 S2 S3 S4 S5 S6 T sv n x y) = some iob ∨ (A_X4_service_t S1 S2 S3 S4 S5 S6 T sv n x y) = some ise) : kH l yL_service wsL_service ({ frames := 7, cells := 1, slots := 6, locals := 125 } : Room) D [(cI, .int), (cJ, .long)] [.ref o, .int x, .int y, .ref oa] ((poW o q1 q2 q3 q4 q5 q6 qt cI cJ S1 S2 S3 S4 S5 S6 T sv) ++ ouW oa cJ f) (k_code iob (A_X4_service_t S1 S2 S3 S4 S5 S6 T sv n x y)) (if (A_X4_service_t S1 S2 S3 S4 S5 S6 T sv n x y) = none then ((poW o q1 q2 q3 q4 q5 q6 qt cI cJ S1 (A_X4_service_s2 S1 S2 S3 S4 S5 S6 T sv n x y) (A_X4_service_s3 S1 S2 S3 S4 S5 S6 T sv n x y) (A_X4_service_s4 S1 S2 S3 S4 S5 S6 T sv n x y) (A_X4_service_s5 S1 S2 S3 S4 S5 S6 T sv n x y) (A_X4_service_s6 S1 S2 S3 S4 S5 S6 T sv n x y) T (A_X4_service_s0 S1 S2 S3 S4 S5 S6 T sv n x y)) ++ ouW oa cJ (vp_updL f 0 (if (A_X4_service_r S1 S2 S3 S4 S5 S6 T sv n x y) = 0 then 0 else 1))) else ((poW o q1 q2 q3 q4 q5 q6 qt cI cJ S1 S2 S3 S4 S5 S6 T sv) ++ ouW oa cJ f)) := by
  refine kHBody.met (cc := cL_service) (maxL := 5) (ret := (some .int)) (hh := [(0, 17, 20, 30), (0, 17, 24, 15)]) (by decide) rfl (Nat.le_of_ble_eq_true rfl) ?_
  intro p9 e9 s9 m9 below meth c9 A9 ls hx hb hr hml hts hown hlk hK hP hD hA hTT hN htb hl
  have hown : s9.vm.findClass RL = some m9.cls := hown
  have hS : va_S A9 s9.heap s9.heap [] := va_S.rf
  have hl : lv_has ls 5 [(0, .ref o), (1, .int x), (2, .int y), (3, .ref oa)] := hl
  refine lv_aload_n hx hb dL_service_0 rfl (lv_at hl 3 rfl) ?_
  refine lv_iconst (v := 0) hx hb dL_service_1 (by decide) ?_
  refine lv_aload_n hx hb dL_service_2 rfl (lv_at hl 0 rfl) ?_
  refine lv_iload_n hx hb dL_service_3 rfl (lv_at hl 1 rfl) ?_
  refine lv_iload_n hx hb dL_service_4 rfl (lv_at hl 2 rfl) ?_
  refine k_hcalli (a := []) (z := ouW oa cJ f) (wc := (poW o q1 q2 q3 q4 q5 q6 qt cI cJ S1 S2 S3 S4 S5 S6 T sv)) (wc' := (poW o q1 q2 q3 q4 q5 q6 qt cI cJ S1 (A_X4_service_s2 S1 S2 S3 S4 S5 S6 T sv n x y) (A_X4_service_s3 S1 S2 S3 S4 S5 S6 T sv n x y) (A_X4_service_s4 S1 S2 S3 S4 S5 S6 T sv n x y) (A_X4_service_s5 S1 S2 S3 S4 S5 S6 T sv n x y) (A_X4_service_s6 S1 S2 S3 S4 S5 S6 T sv n x y) T (A_X4_service_s0 S1 S2 S3 S4 S5 S6 T sv n x y))) (vx_runV (As := [.int x, .int y]) (rest := [.int 0, .ref oa]) ⟨hx, hb, hml, hown, hts⟩ (c_X4_service l D o q1 q2 q3 q4 q5 q6 qt cI cJ S1 S2 S3 S4 S5 S6 T sv x y n hn hn6 hst _) (cwV 2 hts gL_service_X4_service rfl rfl rfl (by decide +kernel) ⟨Nat.le_of_ble_eq_true rfl, Nat.le_of_ble_eq_true rfl⟩) ⟨kBT_blind, va_recv hK hP (ci := 4) (q0 := 0) rfl rfl, k_preT (a := []) (z := ouW oa cJ f) rfl hK hP hD hS hA hTT⟩ rfl rfl hl.1 rfl (lv_room (Nat.le_of_ble_eq_true rfl)) dL_service_5 ⟨Nat.le_of_ble_eq_true rfl, Nat.le_of_ble_eq_true rfl⟩) rfl (poW_ad _ _ _ _ _ _ _ _ _ _ _ _ _ _ _ _ _ _ _ _ _ _ _ _ _ _) hP hD hS hA (fun E ce q9 H locs ht hP hD hS hce hcv hcl => ?_) (fun H locs ht hP hD hS => ?_)
  · rcases hth with h | h | h
    · exact absurd (ht.symm.trans h) (fun z => nomatch z)
    · have hE : E = iob := Option.some.inj (ht.symm.trans h)
      subst hE
      refine vx_catch (own := RL) (name := iob) (E := iob) hown [] ⟨0, 17, 20, 30⟩ [⟨0, 17, 24, 15⟩] htb (fun z hz => nomatch hz) rfl (by decide) (hts (.classLink RL 30 "java/lang/IndexOutOfBoundsException") (List.mem_of_getElem? (i := 1) rfl)) (va_Nw.use rfl (hTT.2.2.1 iob (by decide))) hce hcv hcl ?_
      refine lv_astore (lv' := [(4, .ref q9), (0, .ref o), (1, .int x), (2, .int y), (3, .ref oa)]) hx hb dL_service_20 hl (by decide) rfl (fun ls hl => ?_)
      refine lv_iconst (v := 1) hx hb dL_service_22 (by decide) ?_
      exact k_hret (Nat.le_refl 1) (Nat.le_refl 6) hx hb hr hlk hP hS dL_service_23 (by rw [h]; exact (k_code_1 _).symm) (if_neg (by rw [h]; exact fun z => nomatch z)).symm
    · have hE : E = ise := Option.some.inj (ht.symm.trans h)
      subst hE
      refine vx_catch (own := RL) (name := ise) (E := ise) hown [⟨0, 17, 20, 30⟩] ⟨0, 17, 24, 15⟩ [] htb (fun z hz => by cases List.mem_singleton.mp hz; exact Or.inr ⟨by decide, iob, (hts (.classLink RL 30 "java/lang/IndexOutOfBoundsException") (List.mem_of_getElem? (i := 1) rfl)), hN.2.2⟩) rfl (by decide) (hts (.classLink RL 15 "java/lang/IllegalStateException") (List.mem_of_getElem? (i := 2) rfl)) (va_Nw.use rfl (hTT.2.2.1 ise (by decide))) hce hcv hcl ?_
      refine lv_astore (lv' := [(4, .ref q9), (0, .ref o), (1, .int x), (2, .int y), (3, .ref oa)]) hx hb dL_service_24 hl (by decide) rfl (fun ls hl => ?_)
      refine lv_iconst (v := 2) hx hb dL_service_26 (by decide) ?_
      exact k_hret (Nat.le_refl 1) (Nat.le_refl 6) hx hb hr hlk hP hS dL_service_27 (by rw [h]; exact (k_code_2 (by decide)).symm) (if_neg (by rw [h]; exact fun z => nomatch z)).symm
  · have hP : va_P D vwCl ((poW o q1 q2 q3 q4 q5 q6 qt cI cJ S1 (A_X4_service_s2 S1 S2 S3 S4 S5 S6 T sv n x y) (A_X4_service_s3 S1 S2 S3 S4 S5 S6 T sv n x y) (A_X4_service_s4 S1 S2 S3 S4 S5 S6 T sv n x y) (A_X4_service_s5 S1 S2 S3 S4 S5 S6 T sv n x y) (A_X4_service_s6 S1 S2 S3 S4 S5 S6 T sv n x y) T (A_X4_service_s0 S1 S2 S3 S4 S5 S6 T sv n x y)) ++ ouW oa cJ f) H := hP
    have hD : va_D A9 ((poW o q1 q2 q3 q4 q5 q6 qt cI cJ S1 (A_X4_service_s2 S1 S2 S3 S4 S5 S6 T sv n x y) (A_X4_service_s3 S1 S2 S3 S4 S5 S6 T sv n x y) (A_X4_service_s4 S1 S2 S3 S4 S5 S6 T sv n x y) (A_X4_service_s5 S1 S2 S3 S4 S5 S6 T sv n x y) (A_X4_service_s6 S1 S2 S3 S4 S5 S6 T sv n x y) T (A_X4_service_s0 S1 S2 S3 S4 S5 S6 T sv n x y)) ++ ouW oa cJ f) := hD
    refine lv_if_eq (tgt := 15) hx hb dL_service_8 (by decide) (fun c9 => ?_) (fun c9 => ?_)
    · have c9 : (A_X4_service_r S1 S2 S3 S4 S5 S6 T sv n x y) = 0 := c9
      refine lv_lconst (v := 0) hx hb dL_service_15 (by decide) ?_
      refine va_last (f := f) hx hb hK hP hD hS 94 1 rfl rfl (k_in (k := 0) rfl (by decide) (by decide)) dL_service_16 (fun H locs hP hD hS => ?_)
      rw [show (0 : Int32).toNatClampNeg = 0 from rfl] at hP hD
      have hP : va_P D vwCl ((poW o q1 q2 q3 q4 q5 q6 qt cI cJ S1 (A_X4_service_s2 S1 S2 S3 S4 S5 S6 T sv n x y) (A_X4_service_s3 S1 S2 S3 S4 S5 S6 T sv n x y) (A_X4_service_s4 S1 S2 S3 S4 S5 S6 T sv n x y) (A_X4_service_s5 S1 S2 S3 S4 S5 S6 T sv n x y) (A_X4_service_s6 S1 S2 S3 S4 S5 S6 T sv n x y) T (A_X4_service_s0 S1 S2 S3 S4 S5 S6 T sv n x y)) ++ ouW oa cJ (vp_updL f 0 0)) H := hP
      refine lv_goto (tgt := 28) hx hb dL_service_17 (by decide) ?_
      refine lv_iconst (v := 0) hx hb dL_service_28 (by decide) ?_
      exact k_hret (Nat.le_refl 1) (Nat.le_refl 6) hx hb hr hlk hP hS dL_service_29 (by rw [ht]; exact (k_code_0 _).symm) (by rw [if_pos ht]; first | rw [if_pos c9] | rw [if_neg c9])
    · have c9 : ¬ (A_X4_service_r S1 S2 S3 S4 S5 S6 T sv n x y) = 0 := c9
      refine lv_lconst (v := 1) hx hb dL_service_11 (by decide) ?_
      refine lv_goto (tgt := 16) hx hb dL_service_12 (by decide) ?_
      refine va_last (f := f) hx hb hK hP hD hS 94 1 rfl rfl (k_in (k := 0) rfl (by decide) (by decide)) dL_service_16 (fun H locs hP hD hS => ?_)
      rw [show (0 : Int32).toNatClampNeg = 0 from rfl] at hP hD
      have hP : va_P D vwCl ((poW o q1 q2 q3 q4 q5 q6 qt cI cJ S1 (A_X4_service_s2 S1 S2 S3 S4 S5 S6 T sv n x y) (A_X4_service_s3 S1 S2 S3 S4 S5 S6 T sv n x y) (A_X4_service_s4 S1 S2 S3 S4 S5 S6 T sv n x y) (A_X4_service_s5 S1 S2 S3 S4 S5 S6 T sv n x y) (A_X4_service_s6 S1 S2 S3 S4 S5 S6 T sv n x y) T (A_X4_service_s0 S1 S2 S3 S4 S5 S6 T sv n x y)) ++ ouW oa cJ (vp_updL f 0 1)) H := hP
      refine lv_goto (tgt := 28) hx hb dL_service_17 (by decide) ?_
      refine lv_iconst (v := 0) hx hb dL_service_28 (by decide) ?_
      exact k_hret (Nat.le_refl 1) (Nat.le_refl 6) hx hb hr hlk hP hS dL_service_29 (by rw [ht]; exact (k_code_0 _).symm) (by rw [if_pos ht]; first | rw [if_pos c9] | rw [if_neg c9])

set_option maxHeartbeats 1000000 in
set_option maxRecDepth 100000 in
theorem h_pass (l : Launch) (D : va_G) (o : Nat) (q1 q2 q3 q4 q5 q6 qt : Nat → Nat) (cI cJ : ClassId) (S1 S2 S3 S4 S5 S6 : SS) (T : TS) (sv : Int32) (oa : Nat) (f : Nat → Int64) (x : Int32) (n : Nat) (hn : S2.1 8 = nI n) (hn6 : n ≤ 6) (hst : l.stackTraces = false) (hth : (A_X4_pass_t S1 S2 S3 S4 S5 S6 T sv n x) = none ∨ (A_X4_pass_t S1 S2 S3 S4 S5 S6 T sv n x) = some iae ∨ (A_X4_pass_t S1 S2 S3 S4 S5 S6 T sv n x) = some ise) : kH l yL_pass wsL_pass ({ frames := 7, cells := 1, slots := 6, locals := 150 } : Room) D [(cI, .int), (cJ, .long)] [.ref o, .int x, .ref oa] ((poW o q1 q2 q3 q4 q5 q6 qt cI cJ S1 S2 S3 S4 S5 S6 T sv) ++ ouW oa cJ f) (k_code iae (A_X4_pass_t S1 S2 S3 S4 S5 S6 T sv n x)) (if (A_X4_pass_t S1 S2 S3 S4 S5 S6 T sv n x) = none then ((poW o q1 q2 q3 q4 q5 q6 qt cI cJ S1 (A_X4_pass_s2 S1 S2 S3 S4 S5 S6 T sv n x) (A_X4_pass_s3 S1 S2 S3 S4 S5 S6 T sv n x) (A_X4_pass_s4 S1 S2 S3 S4 S5 S6 T sv n x) (A_X4_pass_s5 S1 S2 S3 S4 S5 S6 T sv n x) (A_X4_pass_s6 S1 S2 S3 S4 S5 S6 T sv n x) T (A_X4_pass_s0 S1 S2 S3 S4 S5 S6 T sv n x)) ++ ouW oa cJ (vp_updL f 0 (A_X4_pass_r S1 S2 S3 S4 S5 S6 T sv n x).toInt64)) else ((poW o q1 q2 q3 q4 q5 q6 qt cI cJ S1 S2 S3 S4 S5 S6 T sv) ++ ouW oa cJ f)) := by
  refine kHBody.met (cc := cL_pass) (maxL := 4) (ret := (some .int)) (hh := [(0, 9, 12, 13), (0, 9, 15, 15)]) (by decide) rfl (Nat.le_of_ble_eq_true rfl) ?_
  intro p9 e9 s9 m9 below meth c9 A9 ls hx hb hr hml hts hown hlk hK hP hD hA hTT hN htb hl
  have hown : s9.vm.findClass RL = some m9.cls := hown
  have hS : va_S A9 s9.heap s9.heap [] := va_S.rf
  have hl : lv_has ls 4 [(0, .ref o), (1, .int x), (2, .ref oa)] := hl
  refine lv_aload_n hx hb dL_pass_0 rfl (lv_at hl 2 rfl) ?_
  refine lv_iconst (v := 0) hx hb dL_pass_1 (by decide) ?_
  refine lv_aload_n hx hb dL_pass_2 rfl (lv_at hl 0 rfl) ?_
  refine lv_iload_n hx hb dL_pass_3 rfl (lv_at hl 1 rfl) ?_
  refine k_hcalli (a := []) (z := ouW oa cJ f) (wc := (poW o q1 q2 q3 q4 q5 q6 qt cI cJ S1 S2 S3 S4 S5 S6 T sv)) (wc' := (poW o q1 q2 q3 q4 q5 q6 qt cI cJ S1 (A_X4_pass_s2 S1 S2 S3 S4 S5 S6 T sv n x) (A_X4_pass_s3 S1 S2 S3 S4 S5 S6 T sv n x) (A_X4_pass_s4 S1 S2 S3 S4 S5 S6 T sv n x) (A_X4_pass_s5 S1 S2 S3 S4 S5 S6 T sv n x) (A_X4_pass_s6 S1 S2 S3 S4 S5 S6 T sv n x) T (A_X4_pass_s0 S1 S2 S3 S4 S5 S6 T sv n x))) (vx_runV (As := [.int x]) (rest := [.int 0, .ref oa]) ⟨hx, hb, hml, hown, hts⟩ (c_X4_pass l D o q1 q2 q3 q4 q5 q6 qt cI cJ S1 S2 S3 S4 S5 S6 T sv x n hn hn6 hst _) (cwV 1 hts gL_pass_X4_pass rfl rfl rfl (by decide +kernel) ⟨Nat.le_of_ble_eq_true rfl, Nat.le_of_ble_eq_true rfl⟩) ⟨kBT_blind, va_recv hK hP (ci := 4) (q0 := 0) rfl rfl, k_preT (a := []) (z := ouW oa cJ f) rfl hK hP hD hS hA hTT⟩ rfl rfl hl.1 rfl (lv_room (Nat.le_of_ble_eq_true rfl)) dL_pass_4 ⟨Nat.le_of_ble_eq_true rfl, Nat.le_of_ble_eq_true rfl⟩) rfl (poW_ad _ _ _ _ _ _ _ _ _ _ _ _ _ _ _ _ _ _ _ _ _ _ _ _ _ _) hP hD hS hA (fun E ce q9 H locs ht hP hD hS hce hcv hcl => ?_) (fun H locs ht hP hD hS => ?_)
  · rcases hth with h | h | h
    · exact absurd (ht.symm.trans h) (fun z => nomatch z)
    · have hE : E = iae := Option.some.inj (ht.symm.trans h)
      subst hE
      refine vx_catch (own := RL) (name := iae) (E := iae) hown [] ⟨0, 9, 12, 13⟩ [⟨0, 9, 15, 15⟩] htb (fun z hz => nomatch hz) rfl (by decide) (hts (.classLink RL 13 "java/lang/IllegalArgumentException") (List.mem_of_getElem? (i := 1) rfl)) (va_Nw.use rfl (hTT.2.2.1 iae (by decide))) hce hcv hcl ?_
      refine lv_astore_n (lv' := [(3, .ref q9), (0, .ref o), (1, .int x), (2, .ref oa)]) hx hb dL_pass_12 rfl hl (by decide) rfl (fun ls hl => ?_)
      refine lv_iconst (v := 1) hx hb dL_pass_13 (by decide) ?_
      exact k_hret (Nat.le_refl 1) (Nat.le_refl 6) hx hb hr hlk hP hS dL_pass_14 (by rw [h]; exact (k_code_1 _).symm) (if_neg (by rw [h]; exact fun z => nomatch z)).symm
    · have hE : E = ise := Option.some.inj (ht.symm.trans h)
      subst hE
      refine vx_catch (own := RL) (name := ise) (E := ise) hown [⟨0, 9, 12, 13⟩] ⟨0, 9, 15, 15⟩ [] htb (fun z hz => by cases List.mem_singleton.mp hz; exact Or.inr ⟨by decide, iae, (hts (.classLink RL 13 "java/lang/IllegalArgumentException") (List.mem_of_getElem? (i := 1) rfl)), hN.1⟩) rfl (by decide) (hts (.classLink RL 15 "java/lang/IllegalStateException") (List.mem_of_getElem? (i := 2) rfl)) (va_Nw.use rfl (hTT.2.2.1 ise (by decide))) hce hcv hcl ?_
      refine lv_astore_n (lv' := [(3, .ref q9), (0, .ref o), (1, .int x), (2, .ref oa)]) hx hb dL_pass_15 rfl hl (by decide) rfl (fun ls hl => ?_)
      refine lv_iconst (v := 2) hx hb dL_pass_16 (by decide) ?_
      exact k_hret (Nat.le_refl 1) (Nat.le_refl 6) hx hb hr hlk hP hS dL_pass_17 (by rw [h]; exact (k_code_2 (by decide)).symm) (if_neg (by rw [h]; exact fun z => nomatch z)).symm
  · have hP : va_P D vwCl ((poW o q1 q2 q3 q4 q5 q6 qt cI cJ S1 (A_X4_pass_s2 S1 S2 S3 S4 S5 S6 T sv n x) (A_X4_pass_s3 S1 S2 S3 S4 S5 S6 T sv n x) (A_X4_pass_s4 S1 S2 S3 S4 S5 S6 T sv n x) (A_X4_pass_s5 S1 S2 S3 S4 S5 S6 T sv n x) (A_X4_pass_s6 S1 S2 S3 S4 S5 S6 T sv n x) T (A_X4_pass_s0 S1 S2 S3 S4 S5 S6 T sv n x)) ++ ouW oa cJ f) H := hP
    have hD : va_D A9 ((poW o q1 q2 q3 q4 q5 q6 qt cI cJ S1 (A_X4_pass_s2 S1 S2 S3 S4 S5 S6 T sv n x) (A_X4_pass_s3 S1 S2 S3 S4 S5 S6 T sv n x) (A_X4_pass_s4 S1 S2 S3 S4 S5 S6 T sv n x) (A_X4_pass_s5 S1 S2 S3 S4 S5 S6 T sv n x) (A_X4_pass_s6 S1 S2 S3 S4 S5 S6 T sv n x) T (A_X4_pass_s0 S1 S2 S3 S4 S5 S6 T sv n x)) ++ ouW oa cJ f) := hD
    refine lv_i2l hx hb dL_pass_7 rfl ?_
    refine va_last (f := f) hx hb hK hP hD hS 94 1 rfl rfl (k_in (k := 0) rfl (by decide) (by decide)) dL_pass_8 (fun H locs hP hD hS => ?_)
    rw [show (0 : Int32).toNatClampNeg = 0 from rfl] at hP hD
    have hP : va_P D vwCl ((poW o q1 q2 q3 q4 q5 q6 qt cI cJ S1 (A_X4_pass_s2 S1 S2 S3 S4 S5 S6 T sv n x) (A_X4_pass_s3 S1 S2 S3 S4 S5 S6 T sv n x) (A_X4_pass_s4 S1 S2 S3 S4 S5 S6 T sv n x) (A_X4_pass_s5 S1 S2 S3 S4 S5 S6 T sv n x) (A_X4_pass_s6 S1 S2 S3 S4 S5 S6 T sv n x) T (A_X4_pass_s0 S1 S2 S3 S4 S5 S6 T sv n x)) ++ ouW oa cJ (vp_updL f 0 (A_X4_pass_r S1 S2 S3 S4 S5 S6 T sv n x).toInt64)) H := hP
    refine lv_goto (tgt := 18) hx hb dL_pass_9 (by decide) ?_
    refine lv_iconst (v := 0) hx hb dL_pass_18 (by decide) ?_
    exact k_hret (Nat.le_refl 1) (Nat.le_refl 6) hx hb hr hlk hP hS dL_pass_19 (by rw [ht]; exact (k_code_0 _).symm) (if_pos ht).symm

set_option maxHeartbeats 1000000 in
set_option maxRecDepth 100000 in
theorem h_pump (l : Launch) (D : va_G) (o : Nat) (q1 q2 q3 q4 q5 q6 qt : Nat → Nat) (cI cJ : ClassId) (S1 S2 S3 S4 S5 S6 : SS) (T : TS) (sv : Int32) (oa : Nat) (f : Nat → Int64) (x y : Int32) (n : Nat) (hn : S2.1 8 = nI n) (hn6 : n ≤ 6) (hst : l.stackTraces = false) (hth : (A_X4_pump_t S1 S2 S3 S4 S5 S6 T sv n x y) = none ∨ (A_X4_pump_t S1 S2 S3 S4 S5 S6 T sv n x y) = some iob ∨ (A_X4_pump_t S1 S2 S3 S4 S5 S6 T sv n x y) = some iae) : kH l yL_pump wsL_pump ({ frames := 7, cells := 1, slots := 6, locals := 104 } : Room) D [(cI, .int), (cJ, .long)] [.ref o, .int x, .int y, .ref oa] ((poW o q1 q2 q3 q4 q5 q6 qt cI cJ S1 S2 S3 S4 S5 S6 T sv) ++ ouW oa cJ f) (k_code iob (A_X4_pump_t S1 S2 S3 S4 S5 S6 T sv n x y)) (if (A_X4_pump_t S1 S2 S3 S4 S5 S6 T sv n x y) = none then ((poW o q1 q2 q3 q4 q5 q6 qt cI cJ S1 S2 S3 S4 S5 S6 T sv) ++ ouW oa cJ (vp_updL f 0 (A_X4_pump_r S1 S2 S3 S4 S5 S6 T sv n x y).toInt64)) else ((poW o q1 q2 q3 q4 q5 q6 qt cI cJ S1 S2 S3 S4 S5 S6 T sv) ++ ouW oa cJ f)) := by
  refine kHBody.met (cc := cL_pump) (maxL := 5) (ret := (some .int)) (hh := [(0, 10, 13, 30), (0, 10, 17, 13)]) (by decide) rfl (Nat.le_of_ble_eq_true rfl) ?_
  intro p9 e9 s9 m9 below meth c9 A9 ls hx hb hr hml hts hown hlk hK hP hD hA hTT hN htb hl
  have hown : s9.vm.findClass RL = some m9.cls := hown
  have hS : va_S A9 s9.heap s9.heap [] := va_S.rf
  have hl : lv_has ls 5 [(0, .ref o), (1, .int x), (2, .int y), (3, .ref oa)] := hl
  refine lv_aload_n hx hb dL_pump_0 rfl (lv_at hl 3 rfl) ?_
  refine lv_iconst (v := 0) hx hb dL_pump_1 (by decide) ?_
  refine lv_aload_n hx hb dL_pump_2 rfl (lv_at hl 0 rfl) ?_
  refine lv_iload_n hx hb dL_pump_3 rfl (lv_at hl 1 rfl) ?_
  refine lv_iload_n hx hb dL_pump_4 rfl (lv_at hl 2 rfl) ?_
  refine k_hcalli (a := []) (z := ouW oa cJ f) (wc := (poW o q1 q2 q3 q4 q5 q6 qt cI cJ S1 S2 S3 S4 S5 S6 T sv)) (wc' := (poW o q1 q2 q3 q4 q5 q6 qt cI cJ S1 S2 S3 S4 S5 S6 T sv)) (vx_runV (As := [.int x, .int y]) (rest := [.int 0, .ref oa]) ⟨hx, hb, hml, hown, hts⟩ (c_X4_pump l D o q1 q2 q3 q4 q5 q6 qt cI cJ S1 S2 S3 S4 S5 S6 T sv x y n hn hn6 hst _) (cwV 2 hts gL_pump_X4_pump rfl rfl rfl (by decide +kernel) ⟨Nat.le_of_ble_eq_true rfl, Nat.le_of_ble_eq_true rfl⟩) ⟨kBT_blind, va_recv hK hP (ci := 4) (q0 := 0) rfl rfl, k_preT (a := []) (z := ouW oa cJ f) rfl hK hP hD hS hA hTT⟩ rfl rfl hl.1 rfl (lv_room (Nat.le_of_ble_eq_true rfl)) dL_pump_5 ⟨Nat.le_of_ble_eq_true rfl, Nat.le_of_ble_eq_true rfl⟩) rfl (poW_ad _ _ _ _ _ _ _ _ _ _ _ _ _ _ _ _ _ _ _ _ _ _ _ _ _ _) hP hD hS hA (fun E ce q9 H locs ht hP hD hS hce hcv hcl => ?_) (fun H locs ht hP hD hS => ?_)
  · rcases hth with h | h | h
    · exact absurd (ht.symm.trans h) (fun z => nomatch z)
    · have hE : E = iob := Option.some.inj (ht.symm.trans h)
      subst hE
      refine vx_catch (own := RL) (name := iob) (E := iob) hown [] ⟨0, 10, 13, 30⟩ [⟨0, 10, 17, 13⟩] htb (fun z hz => nomatch hz) rfl (by decide) (hts (.classLink RL 30 "java/lang/IndexOutOfBoundsException") (List.mem_of_getElem? (i := 1) rfl)) (va_Nw.use rfl (hTT.2.2.1 iob (by decide))) hce hcv hcl ?_
      refine lv_astore (lv' := [(4, .ref q9), (0, .ref o), (1, .int x), (2, .int y), (3, .ref oa)]) hx hb dL_pump_13 hl (by decide) rfl (fun ls hl => ?_)
      refine lv_iconst (v := 1) hx hb dL_pump_15 (by decide) ?_
      exact k_hret (Nat.le_refl 1) (Nat.le_refl 6) hx hb hr hlk hP hS dL_pump_16 (by rw [h]; exact (k_code_1 _).symm) (if_neg (by rw [h]; exact fun z => nomatch z)).symm
    · have hE : E = iae := Option.some.inj (ht.symm.trans h)
      subst hE
      refine vx_catch (own := RL) (name := iae) (E := iae) hown [⟨0, 10, 13, 30⟩] ⟨0, 10, 17, 13⟩ [] htb (fun z hz => by cases List.mem_singleton.mp hz; exact Or.inr ⟨by decide, iob, (hts (.classLink RL 30 "java/lang/IndexOutOfBoundsException") (List.mem_of_getElem? (i := 1) rfl)), hN.2.1⟩) rfl (by decide) (hts (.classLink RL 13 "java/lang/IllegalArgumentException") (List.mem_of_getElem? (i := 2) rfl)) (va_Nw.use rfl (hTT.2.2.1 iae (by decide))) hce hcv hcl ?_
      refine lv_astore (lv' := [(4, .ref q9), (0, .ref o), (1, .int x), (2, .int y), (3, .ref oa)]) hx hb dL_pump_17 hl (by decide) rfl (fun ls hl => ?_)
      refine lv_iconst (v := 2) hx hb dL_pump_19 (by decide) ?_
      exact k_hret (Nat.le_refl 1) (Nat.le_refl 6) hx hb hr hlk hP hS dL_pump_20 (by rw [h]; exact (k_code_2 (by decide)).symm) (if_neg (by rw [h]; exact fun z => nomatch z)).symm
  · have hP : va_P D vwCl ((poW o q1 q2 q3 q4 q5 q6 qt cI cJ S1 S2 S3 S4 S5 S6 T sv) ++ ouW oa cJ f) H := hP
    have hD : va_D A9 ((poW o q1 q2 q3 q4 q5 q6 qt cI cJ S1 S2 S3 S4 S5 S6 T sv) ++ ouW oa cJ f) := hD
    refine lv_i2l hx hb dL_pump_8 rfl ?_
    refine va_last (f := f) hx hb hK hP hD hS 94 1 rfl rfl (k_in (k := 0) rfl (by decide) (by decide)) dL_pump_9 (fun H locs hP hD hS => ?_)
    rw [show (0 : Int32).toNatClampNeg = 0 from rfl] at hP hD
    have hP : va_P D vwCl ((poW o q1 q2 q3 q4 q5 q6 qt cI cJ S1 S2 S3 S4 S5 S6 T sv) ++ ouW oa cJ (vp_updL f 0 (A_X4_pump_r S1 S2 S3 S4 S5 S6 T sv n x y).toInt64)) H := hP
    refine lv_goto (tgt := 21) hx hb dL_pump_10 (by decide) ?_
    refine lv_iconst (v := 0) hx hb dL_pump_21 (by decide) ?_
    exact k_hret (Nat.le_refl 1) (Nat.le_refl 6) hx hb hr hlk hP hS dL_pump_22 (by rw [ht]; exact (k_code_0 _).symm) (if_pos ht).symm

set_option maxHeartbeats 1000000 in
set_option maxRecDepth 100000 in
theorem h_demand (l : Launch) (D : va_G) (o : Nat) (q1 q2 q3 q4 q5 q6 qt : Nat → Nat) (cI cJ : ClassId) (S1 S2 S3 S4 S5 S6 : SS) (T : TS) (sv : Int32) (oa : Nat) (f : Nat → Int64) (x : Int32)  (hst : l.stackTraces = false) (hth : (A_X4_demand_t S1 S2 S3 S4 S5 S6 T sv x) = none ∨ (A_X4_demand_t S1 S2 S3 S4 S5 S6 T sv x) = some iob) : kH l yL_demand wsL_demand ({ frames := 7, cells := 1, slots := 6, locals := 103 } : Room) D [(cI, .int), (cJ, .long)] [.ref o, .int x, .ref oa] ((poW o q1 q2 q3 q4 q5 q6 qt cI cJ S1 S2 S3 S4 S5 S6 T sv) ++ ouW oa cJ f) (k_code iob (A_X4_demand_t S1 S2 S3 S4 S5 S6 T sv x)) (if (A_X4_demand_t S1 S2 S3 S4 S5 S6 T sv x) = none then ((poW o q1 q2 q3 q4 q5 q6 qt cI cJ S1 S2 S3 S4 S5 S6 T sv) ++ ouW oa cJ (vp_updL f 0 (A_X4_demand_r S1 S2 S3 S4 S5 S6 T sv x).toInt64)) else ((poW o q1 q2 q3 q4 q5 q6 qt cI cJ S1 S2 S3 S4 S5 S6 T sv) ++ ouW oa cJ f)) := by
  refine kHBody.met (cc := cL_demand) (maxL := 4) (ret := (some .int)) (hh := [(0, 9, 12, 30)]) (by decide) rfl (Nat.le_of_ble_eq_true rfl) ?_
  intro p9 e9 s9 m9 below meth c9 A9 ls hx hb hr hml hts hown hlk hK hP hD hA hTT hN htb hl
  have hown : s9.vm.findClass RL = some m9.cls := hown
  have hS : va_S A9 s9.heap s9.heap [] := va_S.rf
  have hl : lv_has ls 4 [(0, .ref o), (1, .int x), (2, .ref oa)] := hl
  refine lv_aload_n hx hb dL_demand_0 rfl (lv_at hl 2 rfl) ?_
  refine lv_iconst (v := 0) hx hb dL_demand_1 (by decide) ?_
  refine lv_aload_n hx hb dL_demand_2 rfl (lv_at hl 0 rfl) ?_
  refine lv_iload_n hx hb dL_demand_3 rfl (lv_at hl 1 rfl) ?_
  refine k_hcalli (a := []) (z := ouW oa cJ f) (wc := (poW o q1 q2 q3 q4 q5 q6 qt cI cJ S1 S2 S3 S4 S5 S6 T sv)) (wc' := (poW o q1 q2 q3 q4 q5 q6 qt cI cJ S1 S2 S3 S4 S5 S6 T sv)) (vx_runV (As := [.int x]) (rest := [.int 0, .ref oa]) ⟨hx, hb, hml, hown, hts⟩ (c_X4_demand l D o q1 q2 q3 q4 q5 q6 qt cI cJ S1 S2 S3 S4 S5 S6 T sv x hst _) (cwV 1 hts gL_demand_X4_demand rfl rfl rfl (by decide +kernel) ⟨Nat.le_of_ble_eq_true rfl, Nat.le_of_ble_eq_true rfl⟩) ⟨kBT_blind, va_recv hK hP (ci := 4) (q0 := 0) rfl rfl, k_preT (a := []) (z := ouW oa cJ f) rfl hK hP hD hS hA hTT⟩ rfl rfl hl.1 rfl (lv_room (Nat.le_of_ble_eq_true rfl)) dL_demand_4 ⟨Nat.le_of_ble_eq_true rfl, Nat.le_of_ble_eq_true rfl⟩) rfl (poW_ad _ _ _ _ _ _ _ _ _ _ _ _ _ _ _ _ _ _ _ _ _ _ _ _ _ _) hP hD hS hA (fun E ce q9 H locs ht hP hD hS hce hcv hcl => ?_) (fun H locs ht hP hD hS => ?_)
  · rcases hth with h | h
    · exact absurd (ht.symm.trans h) (fun z => nomatch z)
    · have hE : E = iob := Option.some.inj (ht.symm.trans h)
      subst hE
      refine vx_catch (own := RL) (name := iob) (E := iob) hown [] ⟨0, 9, 12, 30⟩ [] htb (fun z hz => nomatch hz) rfl (by decide) (hts (.classLink RL 30 "java/lang/IndexOutOfBoundsException") (List.mem_of_getElem? (i := 1) rfl)) (va_Nw.use rfl (hTT.2.2.1 iob (by decide))) hce hcv hcl ?_
      refine lv_astore_n (lv' := [(3, .ref q9), (0, .ref o), (1, .int x), (2, .ref oa)]) hx hb dL_demand_12 rfl hl (by decide) rfl (fun ls hl => ?_)
      refine lv_iconst (v := 1) hx hb dL_demand_13 (by decide) ?_
      exact k_hret (Nat.le_refl 1) (Nat.le_refl 6) hx hb hr hlk hP hS dL_demand_14 (by rw [h]; exact (k_code_1 _).symm) (if_neg (by rw [h]; exact fun z => nomatch z)).symm
  · have hP : va_P D vwCl ((poW o q1 q2 q3 q4 q5 q6 qt cI cJ S1 S2 S3 S4 S5 S6 T sv) ++ ouW oa cJ f) H := hP
    have hD : va_D A9 ((poW o q1 q2 q3 q4 q5 q6 qt cI cJ S1 S2 S3 S4 S5 S6 T sv) ++ ouW oa cJ f) := hD
    refine lv_i2l hx hb dL_demand_7 rfl ?_
    refine va_last (f := f) hx hb hK hP hD hS 94 1 rfl rfl (k_in (k := 0) rfl (by decide) (by decide)) dL_demand_8 (fun H locs hP hD hS => ?_)
    rw [show (0 : Int32).toNatClampNeg = 0 from rfl] at hP hD
    have hP : va_P D vwCl ((poW o q1 q2 q3 q4 q5 q6 qt cI cJ S1 S2 S3 S4 S5 S6 T sv) ++ ouW oa cJ (vp_updL f 0 (A_X4_demand_r S1 S2 S3 S4 S5 S6 T sv x).toInt64)) H := hP
    refine lv_goto (tgt := 15) hx hb dL_demand_9 (by decide) ?_
    refine lv_iconst (v := 0) hx hb dL_demand_15 (by decide) ?_
    exact k_hret (Nat.le_refl 1) (Nat.le_refl 6) hx hb hr hlk hP hS dL_demand_16 (by rw [ht]; exact (k_code_0 _).symm) (if_pos ht).symm

set_option maxHeartbeats 1000000 in
set_option maxRecDepth 100000 in
theorem h_value (l : Launch) (D : va_G) (o : Nat) (q1 q2 q3 q4 q5 q6 qt : Nat → Nat) (cI cJ : ClassId) (S1 S2 S3 S4 S5 S6 : SS) (T : TS) (sv : Int32) (oa : Nat) (f : Nat → Int64) (x : Int32) (n : Nat) (hn : S2.1 8 = nI n) (hn6 : n ≤ 6) (hst : l.stackTraces = false) (hth : (A_X4_value_t S1 S2 S3 S4 S5 S6 T sv n x) = none ∨ (A_X4_value_t S1 S2 S3 S4 S5 S6 T sv n x) = some iae) : kH l yL_value wsL_value ({ frames := 7, cells := 1, slots := 6, locals := 103 } : Room) D [(cI, .int), (cJ, .long)] [.ref o, .int x, .ref oa] ((poW o q1 q2 q3 q4 q5 q6 qt cI cJ S1 S2 S3 S4 S5 S6 T sv) ++ ouW oa cJ f) (k_code iae (A_X4_value_t S1 S2 S3 S4 S5 S6 T sv n x)) (if (A_X4_value_t S1 S2 S3 S4 S5 S6 T sv n x) = none then ((poW o q1 q2 q3 q4 q5 q6 qt cI cJ S1 S2 S3 S4 S5 S6 T sv) ++ ouW oa cJ (vp_updL f 0 (A_X4_value_r S1 S2 S3 S4 S5 S6 T sv n x).toInt64)) else ((poW o q1 q2 q3 q4 q5 q6 qt cI cJ S1 S2 S3 S4 S5 S6 T sv) ++ ouW oa cJ f)) := by
  refine kHBody.met (cc := cL_value) (maxL := 4) (ret := (some .int)) (hh := [(0, 9, 12, 13)]) (by decide) rfl (Nat.le_of_ble_eq_true rfl) ?_
  intro p9 e9 s9 m9 below meth c9 A9 ls hx hb hr hml hts hown hlk hK hP hD hA hTT hN htb hl
  have hown : s9.vm.findClass RL = some m9.cls := hown
  have hS : va_S A9 s9.heap s9.heap [] := va_S.rf
  have hl : lv_has ls 4 [(0, .ref o), (1, .int x), (2, .ref oa)] := hl
  refine lv_aload_n hx hb dL_value_0 rfl (lv_at hl 2 rfl) ?_
  refine lv_iconst (v := 0) hx hb dL_value_1 (by decide) ?_
  refine lv_aload_n hx hb dL_value_2 rfl (lv_at hl 0 rfl) ?_
  refine lv_iload_n hx hb dL_value_3 rfl (lv_at hl 1 rfl) ?_
  refine k_hcalli (a := []) (z := ouW oa cJ f) (wc := (poW o q1 q2 q3 q4 q5 q6 qt cI cJ S1 S2 S3 S4 S5 S6 T sv)) (wc' := (poW o q1 q2 q3 q4 q5 q6 qt cI cJ S1 S2 S3 S4 S5 S6 T sv)) (vx_runV (As := [.int x]) (rest := [.int 0, .ref oa]) ⟨hx, hb, hml, hown, hts⟩ (c_X4_value l D o q1 q2 q3 q4 q5 q6 qt cI cJ S1 S2 S3 S4 S5 S6 T sv x n hn hn6 hst _) (cwV 1 hts gL_value_X4_value rfl rfl rfl (by decide +kernel) ⟨Nat.le_of_ble_eq_true rfl, Nat.le_of_ble_eq_true rfl⟩) ⟨kBT_blind, va_recv hK hP (ci := 4) (q0 := 0) rfl rfl, k_preT (a := []) (z := ouW oa cJ f) rfl hK hP hD hS hA hTT⟩ rfl rfl hl.1 rfl (lv_room (Nat.le_of_ble_eq_true rfl)) dL_value_4 ⟨Nat.le_of_ble_eq_true rfl, Nat.le_of_ble_eq_true rfl⟩) rfl (poW_ad _ _ _ _ _ _ _ _ _ _ _ _ _ _ _ _ _ _ _ _ _ _ _ _ _ _) hP hD hS hA (fun E ce q9 H locs ht hP hD hS hce hcv hcl => ?_) (fun H locs ht hP hD hS => ?_)
  · rcases hth with h | h
    · exact absurd (ht.symm.trans h) (fun z => nomatch z)
    · have hE : E = iae := Option.some.inj (ht.symm.trans h)
      subst hE
      refine vx_catch (own := RL) (name := iae) (E := iae) hown [] ⟨0, 9, 12, 13⟩ [] htb (fun z hz => nomatch hz) rfl (by decide) (hts (.classLink RL 13 "java/lang/IllegalArgumentException") (List.mem_of_getElem? (i := 1) rfl)) (va_Nw.use rfl (hTT.2.2.1 iae (by decide))) hce hcv hcl ?_
      refine lv_astore_n (lv' := [(3, .ref q9), (0, .ref o), (1, .int x), (2, .ref oa)]) hx hb dL_value_12 rfl hl (by decide) rfl (fun ls hl => ?_)
      refine lv_iconst (v := 1) hx hb dL_value_13 (by decide) ?_
      exact k_hret (Nat.le_refl 1) (Nat.le_refl 6) hx hb hr hlk hP hS dL_value_14 (by rw [h]; exact (k_code_1 _).symm) (if_neg (by rw [h]; exact fun z => nomatch z)).symm
  · have hP : va_P D vwCl ((poW o q1 q2 q3 q4 q5 q6 qt cI cJ S1 S2 S3 S4 S5 S6 T sv) ++ ouW oa cJ f) H := hP
    have hD : va_D A9 ((poW o q1 q2 q3 q4 q5 q6 qt cI cJ S1 S2 S3 S4 S5 S6 T sv) ++ ouW oa cJ f) := hD
    refine lv_i2l hx hb dL_value_7 rfl ?_
    refine va_last (f := f) hx hb hK hP hD hS 94 1 rfl rfl (k_in (k := 0) rfl (by decide) (by decide)) dL_value_8 (fun H locs hP hD hS => ?_)
    rw [show (0 : Int32).toNatClampNeg = 0 from rfl] at hP hD
    have hP : va_P D vwCl ((poW o q1 q2 q3 q4 q5 q6 qt cI cJ S1 S2 S3 S4 S5 S6 T sv) ++ ouW oa cJ (vp_updL f 0 (A_X4_value_r S1 S2 S3 S4 S5 S6 T sv n x).toInt64)) H := hP
    refine lv_goto (tgt := 15) hx hb dL_value_9 (by decide) ?_
    refine lv_iconst (v := 0) hx hb dL_value_15 (by decide) ?_
    exact k_hret (Nat.le_refl 1) (Nat.le_refl 6) hx hb hr hlk hP hS dL_value_16 (by rw [ht]; exact (k_code_0 _).symm) (if_pos ht).symm

set_option maxHeartbeats 1000000 in
set_option maxRecDepth 100000 in
theorem h_setting (l : Launch) (D : va_G) (o : Nat) (q1 q2 q3 q4 q5 q6 qt : Nat → Nat) (cI cJ : ClassId) (S1 S2 S3 S4 S5 S6 : SS) (T : TS) (sv : Int32) (oa : Nat) (f : Nat → Int64) (x : Int32)  (hst : l.stackTraces = false) (hth : (A_X4_setting_t S1 S2 S3 S4 S5 S6 T sv x) = none ∨ (A_X4_setting_t S1 S2 S3 S4 S5 S6 T sv x) = some iae) : kH l yL_setting wsL_setting ({ frames := 7, cells := 1, slots := 6, locals := 103 } : Room) D [(cI, .int), (cJ, .long)] [.ref o, .int x, .ref oa] ((poW o q1 q2 q3 q4 q5 q6 qt cI cJ S1 S2 S3 S4 S5 S6 T sv) ++ ouW oa cJ f) (k_code iae (A_X4_setting_t S1 S2 S3 S4 S5 S6 T sv x)) (if (A_X4_setting_t S1 S2 S3 S4 S5 S6 T sv x) = none then ((poW o q1 q2 q3 q4 q5 q6 qt cI cJ S1 S2 S3 S4 S5 S6 T sv) ++ ouW oa cJ (vp_updL f 0 (A_X4_setting_r S1 S2 S3 S4 S5 S6 T sv x).toInt64)) else ((poW o q1 q2 q3 q4 q5 q6 qt cI cJ S1 S2 S3 S4 S5 S6 T sv) ++ ouW oa cJ f)) := by
  refine kHBody.met (cc := cL_setting) (maxL := 4) (ret := (some .int)) (hh := [(0, 9, 12, 13)]) (by decide) rfl (Nat.le_of_ble_eq_true rfl) ?_
  intro p9 e9 s9 m9 below meth c9 A9 ls hx hb hr hml hts hown hlk hK hP hD hA hTT hN htb hl
  have hown : s9.vm.findClass RL = some m9.cls := hown
  have hS : va_S A9 s9.heap s9.heap [] := va_S.rf
  have hl : lv_has ls 4 [(0, .ref o), (1, .int x), (2, .ref oa)] := hl
  refine lv_aload_n hx hb dL_setting_0 rfl (lv_at hl 2 rfl) ?_
  refine lv_iconst (v := 0) hx hb dL_setting_1 (by decide) ?_
  refine lv_aload_n hx hb dL_setting_2 rfl (lv_at hl 0 rfl) ?_
  refine lv_iload_n hx hb dL_setting_3 rfl (lv_at hl 1 rfl) ?_
  refine k_hcalli (a := []) (z := ouW oa cJ f) (wc := (poW o q1 q2 q3 q4 q5 q6 qt cI cJ S1 S2 S3 S4 S5 S6 T sv)) (wc' := (poW o q1 q2 q3 q4 q5 q6 qt cI cJ S1 S2 S3 S4 S5 S6 T sv)) (vx_runV (As := [.int x]) (rest := [.int 0, .ref oa]) ⟨hx, hb, hml, hown, hts⟩ (c_X4_setting l D o q1 q2 q3 q4 q5 q6 qt cI cJ S1 S2 S3 S4 S5 S6 T sv x hst _) (cwV 1 hts gL_setting_X4_setting rfl rfl rfl (by decide +kernel) ⟨Nat.le_of_ble_eq_true rfl, Nat.le_of_ble_eq_true rfl⟩) ⟨kBT_blind, va_recv hK hP (ci := 4) (q0 := 0) rfl rfl, k_preT (a := []) (z := ouW oa cJ f) rfl hK hP hD hS hA hTT⟩ rfl rfl hl.1 rfl (lv_room (Nat.le_of_ble_eq_true rfl)) dL_setting_4 ⟨Nat.le_of_ble_eq_true rfl, Nat.le_of_ble_eq_true rfl⟩) rfl (poW_ad _ _ _ _ _ _ _ _ _ _ _ _ _ _ _ _ _ _ _ _ _ _ _ _ _ _) hP hD hS hA (fun E ce q9 H locs ht hP hD hS hce hcv hcl => ?_) (fun H locs ht hP hD hS => ?_)
  · rcases hth with h | h
    · exact absurd (ht.symm.trans h) (fun z => nomatch z)
    · have hE : E = iae := Option.some.inj (ht.symm.trans h)
      subst hE
      refine vx_catch (own := RL) (name := iae) (E := iae) hown [] ⟨0, 9, 12, 13⟩ [] htb (fun z hz => nomatch hz) rfl (by decide) (hts (.classLink RL 13 "java/lang/IllegalArgumentException") (List.mem_of_getElem? (i := 1) rfl)) (va_Nw.use rfl (hTT.2.2.1 iae (by decide))) hce hcv hcl ?_
      refine lv_astore_n (lv' := [(3, .ref q9), (0, .ref o), (1, .int x), (2, .ref oa)]) hx hb dL_setting_12 rfl hl (by decide) rfl (fun ls hl => ?_)
      refine lv_iconst (v := 1) hx hb dL_setting_13 (by decide) ?_
      exact k_hret (Nat.le_refl 1) (Nat.le_refl 6) hx hb hr hlk hP hS dL_setting_14 (by rw [h]; exact (k_code_1 _).symm) (if_neg (by rw [h]; exact fun z => nomatch z)).symm
  · have hP : va_P D vwCl ((poW o q1 q2 q3 q4 q5 q6 qt cI cJ S1 S2 S3 S4 S5 S6 T sv) ++ ouW oa cJ f) H := hP
    have hD : va_D A9 ((poW o q1 q2 q3 q4 q5 q6 qt cI cJ S1 S2 S3 S4 S5 S6 T sv) ++ ouW oa cJ f) := hD
    refine lv_i2l hx hb dL_setting_7 rfl ?_
    refine va_last (f := f) hx hb hK hP hD hS 94 1 rfl rfl (k_in (k := 0) rfl (by decide) (by decide)) dL_setting_8 (fun H locs hP hD hS => ?_)
    rw [show (0 : Int32).toNatClampNeg = 0 from rfl] at hP hD
    have hP : va_P D vwCl ((poW o q1 q2 q3 q4 q5 q6 qt cI cJ S1 S2 S3 S4 S5 S6 T sv) ++ ouW oa cJ (vp_updL f 0 (A_X4_setting_r S1 S2 S3 S4 S5 S6 T sv x).toInt64)) H := hP
    refine lv_goto (tgt := 15) hx hb dL_setting_9 (by decide) ?_
    refine lv_iconst (v := 0) hx hb dL_setting_15 (by decide) ?_
    exact k_hret (Nat.le_refl 1) (Nat.le_refl 6) hx hb hr hlk hP hS dL_setting_16 (by rw [ht]; exact (k_code_0 _).symm) (if_pos ht).symm

set_option maxHeartbeats 1000000 in
set_option maxRecDepth 100000 in
theorem h_water (l : Launch) (D : va_G) (o : Nat) (q1 q2 q3 q4 q5 q6 qt : Nat → Nat) (cI cJ : ClassId) (S1 S2 S3 S4 S5 S6 : SS) (T : TS) (sv : Int32) (oa : Nat) (f : Nat → Int64) (x : Int32)  (hst : l.stackTraces = false) (hth : (A_X4_water_t S1 S2 S3 S4 S5 S6 T sv x) = none ∨ (A_X4_water_t S1 S2 S3 S4 S5 S6 T sv x) = some iae) : kH l yL_water wsL_water ({ frames := 7, cells := 1, slots := 6, locals := 103 } : Room) D [(cI, .int), (cJ, .long)] [.ref o, .int x, .ref oa] ((poW o q1 q2 q3 q4 q5 q6 qt cI cJ S1 S2 S3 S4 S5 S6 T sv) ++ ouW oa cJ f) (k_code iae (A_X4_water_t S1 S2 S3 S4 S5 S6 T sv x)) (if (A_X4_water_t S1 S2 S3 S4 S5 S6 T sv x) = none then ((poW o q1 q2 q3 q4 q5 q6 qt cI cJ S1 S2 S3 S4 S5 S6 T sv) ++ ouW oa cJ (vp_updL f 0 (A_X4_water_r S1 S2 S3 S4 S5 S6 T sv x))) else ((poW o q1 q2 q3 q4 q5 q6 qt cI cJ S1 S2 S3 S4 S5 S6 T sv) ++ ouW oa cJ f)) := by
  refine kHBody.met (cc := cL_water) (maxL := 4) (ret := (some .int)) (hh := [(0, 8, 11, 13)]) (by decide) rfl (Nat.le_of_ble_eq_true rfl) ?_
  intro p9 e9 s9 m9 below meth c9 A9 ls hx hb hr hml hts hown hlk hK hP hD hA hTT hN htb hl
  have hown : s9.vm.findClass RL = some m9.cls := hown
  have hS : va_S A9 s9.heap s9.heap [] := va_S.rf
  have hl : lv_has ls 4 [(0, .ref o), (1, .int x), (2, .ref oa)] := hl
  refine lv_aload_n hx hb dL_water_0 rfl (lv_at hl 2 rfl) ?_
  refine lv_iconst (v := 0) hx hb dL_water_1 (by decide) ?_
  refine lv_aload_n hx hb dL_water_2 rfl (lv_at hl 0 rfl) ?_
  refine lv_iload_n hx hb dL_water_3 rfl (lv_at hl 1 rfl) ?_
  refine k_hcalll (a := []) (z := ouW oa cJ f) (wc := (poW o q1 q2 q3 q4 q5 q6 qt cI cJ S1 S2 S3 S4 S5 S6 T sv)) (wc' := (poW o q1 q2 q3 q4 q5 q6 qt cI cJ S1 S2 S3 S4 S5 S6 T sv)) (vx_runV (As := [.int x]) (rest := [.int 0, .ref oa]) ⟨hx, hb, hml, hown, hts⟩ (c_X4_water l D o q1 q2 q3 q4 q5 q6 qt cI cJ S1 S2 S3 S4 S5 S6 T sv x hst _) (cwV 1 hts gL_water_X4_water rfl rfl rfl (by decide +kernel) ⟨Nat.le_of_ble_eq_true rfl, Nat.le_of_ble_eq_true rfl⟩) ⟨kBT_blind, va_recv hK hP (ci := 4) (q0 := 0) rfl rfl, k_preT (a := []) (z := ouW oa cJ f) rfl hK hP hD hS hA hTT⟩ rfl rfl hl.1 rfl (lv_room (Nat.le_of_ble_eq_true rfl)) dL_water_4 ⟨Nat.le_of_ble_eq_true rfl, Nat.le_of_ble_eq_true rfl⟩) rfl (poW_ad _ _ _ _ _ _ _ _ _ _ _ _ _ _ _ _ _ _ _ _ _ _ _ _ _ _) hP hD hS hA (fun E ce q9 H locs ht hP hD hS hce hcv hcl => ?_) (fun H locs ht hP hD hS => ?_)
  · rcases hth with h | h
    · exact absurd (ht.symm.trans h) (fun z => nomatch z)
    · have hE : E = iae := Option.some.inj (ht.symm.trans h)
      subst hE
      refine vx_catch (own := RL) (name := iae) (E := iae) hown [] ⟨0, 8, 11, 13⟩ [] htb (fun z hz => nomatch hz) rfl (by decide) (hts (.classLink RL 13 "java/lang/IllegalArgumentException") (List.mem_of_getElem? (i := 1) rfl)) (va_Nw.use rfl (hTT.2.2.1 iae (by decide))) hce hcv hcl ?_
      refine lv_astore_n (lv' := [(3, .ref q9), (0, .ref o), (1, .int x), (2, .ref oa)]) hx hb dL_water_11 rfl hl (by decide) rfl (fun ls hl => ?_)
      refine lv_iconst (v := 1) hx hb dL_water_12 (by decide) ?_
      exact k_hret (Nat.le_refl 1) (Nat.le_refl 6) hx hb hr hlk hP hS dL_water_13 (by rw [h]; exact (k_code_1 _).symm) (if_neg (by rw [h]; exact fun z => nomatch z)).symm
  · have hP : va_P D vwCl ((poW o q1 q2 q3 q4 q5 q6 qt cI cJ S1 S2 S3 S4 S5 S6 T sv) ++ ouW oa cJ f) H := hP
    have hD : va_D A9 ((poW o q1 q2 q3 q4 q5 q6 qt cI cJ S1 S2 S3 S4 S5 S6 T sv) ++ ouW oa cJ f) := hD
    refine va_last (f := f) hx hb hK hP hD hS 94 1 rfl rfl (k_in (k := 0) rfl (by decide) (by decide)) dL_water_7 (fun H locs hP hD hS => ?_)
    rw [show (0 : Int32).toNatClampNeg = 0 from rfl] at hP hD
    have hP : va_P D vwCl ((poW o q1 q2 q3 q4 q5 q6 qt cI cJ S1 S2 S3 S4 S5 S6 T sv) ++ ouW oa cJ (vp_updL f 0 (A_X4_water_r S1 S2 S3 S4 S5 S6 T sv x))) H := hP
    refine lv_goto (tgt := 14) hx hb dL_water_8 (by decide) ?_
    refine lv_iconst (v := 0) hx hb dL_water_14 (by decide) ?_
    exact k_hret (Nat.le_refl 1) (Nat.le_refl 6) hx hb hr hlk hP hS dL_water_15 (by rw [ht]; exact (k_code_0 _).symm) (if_pos ht).symm
