set_option maxHeartbeats 1000000 in
set_option maxRecDepth 100000 in
theorem h_nightLeak (l : Launch) (D : va_G) (o : Nat) (q1 q2 q3 q4 q5 q6 qt : Nat → Nat) (cI cJ : ClassId) (S1 S2 S3 S4 S5 S6 : SS) (T : TS) (sv : Int32) (oa : Nat) (f : Nat → Int64)  (hst : l.stackTraces = false) (hth : (A_X4_nightLeak_t S1 S2 S3 S4 S5 S6 T sv) = none ∨ (A_X4_nightLeak_t S1 S2 S3 S4 S5 S6 T sv) = some ise) : kH l yL_nightLeak wsL_nightLeak ({ frames := 7, cells := 1, slots := 6, locals := 102 } : Room) D [(cI, .int), (cJ, .long)] [.ref o, .ref oa] ((poW o q1 q2 q3 q4 q5 q6 qt cI cJ S1 S2 S3 S4 S5 S6 T sv) ++ ouW oa cJ f) (k_code ise (A_X4_nightLeak_t S1 S2 S3 S4 S5 S6 T sv)) (if (A_X4_nightLeak_t S1 S2 S3 S4 S5 S6 T sv) = none then ((poW o q1 q2 q3 q4 q5 q6 qt cI cJ S1 S2 S3 S4 S5 S6 T sv) ++ ouW oa cJ (vp_updL f 0 (A_X4_nightLeak_r S1 S2 S3 S4 S5 S6 T sv))) else ((poW o q1 q2 q3 q4 q5 q6 qt cI cJ S1 S2 S3 S4 S5 S6 T sv) ++ ouW oa cJ f)) := by
  refine kHBody.met (cc := cL_nightLeak) (maxL := 3) (ret := (some .int)) (hh := [(0, 7, 10, 15)]) (by decide) rfl (Nat.le_of_ble_eq_true rfl) ?_
  intro p9 e9 s9 m9 below meth c9 A9 ls hx hb hr hml hts hown hlk hK hP hD hA hTT hN htb hl
  have hown : s9.vm.findClass RL = some m9.cls := hown
  have hS : va_S A9 s9.heap s9.heap [] := va_S.rf
  have hl : lv_has ls 3 [(0, .ref o), (1, .ref oa)] := hl
  refine lv_aload_n hx hb dL_nightLeak_0 rfl (lv_at hl 1 rfl) ?_
  refine lv_iconst (v := 0) hx hb dL_nightLeak_1 (by decide) ?_
  refine lv_aload_n hx hb dL_nightLeak_2 rfl (lv_at hl 0 rfl) ?_
  refine k_hcalll (a := []) (z := ouW oa cJ f) (wc := (poW o q1 q2 q3 q4 q5 q6 qt cI cJ S1 S2 S3 S4 S5 S6 T sv)) (wc' := (poW o q1 q2 q3 q4 q5 q6 qt cI cJ S1 S2 S3 S4 S5 S6 T sv)) (vx_runV (As := []) (rest := [.int 0, .ref oa]) ⟨hx, hb, hml, hown, hts⟩ (c_X4_nightLeak l D o q1 q2 q3 q4 q5 q6 qt cI cJ S1 S2 S3 S4 S5 S6 T sv hst _) (cwV 0 hts gL_nightLeak_X4_nightLeak rfl rfl rfl (by decide +kernel) ⟨Nat.le_of_ble_eq_true rfl, Nat.le_of_ble_eq_true rfl⟩) ⟨kBT_blind, va_recv hK hP (ci := 4) (q0 := 0) rfl rfl, k_preT (a := []) (z := ouW oa cJ f) rfl hK hP hD hS hA hTT⟩ rfl rfl hl.1 rfl (lv_room (Nat.le_of_ble_eq_true rfl)) dL_nightLeak_3 ⟨Nat.le_of_ble_eq_true rfl, Nat.le_of_ble_eq_true rfl⟩) rfl (poW_ad _ _ _ _ _ _ _ _ _ _ _ _ _ _ _ _ _ _ _ _ _ _ _ _ _ _) hP hD hS hA (fun E ce q9 H locs ht hP hD hS hce hcv hcl => ?_) (fun H locs ht hP hD hS => ?_)
  · rcases hth with h | h
    · exact absurd (ht.symm.trans h) (fun z => nomatch z)
    · have hE : E = ise := Option.some.inj (ht.symm.trans h)
      subst hE
      refine vx_catch (own := RL) (name := ise) (E := ise) hown [] ⟨0, 7, 10, 15⟩ [] htb (fun z hz => nomatch hz) rfl (by decide) (hts (.classLink RL 15 "java/lang/IllegalStateException") (List.mem_of_getElem? (i := 1) rfl)) (va_Nw.use rfl (hTT.2.2.1 ise (by decide))) hce hcv hcl ?_
      refine lv_astore_n (lv' := [(2, .ref q9), (0, .ref o), (1, .ref oa)]) hx hb dL_nightLeak_10 rfl hl (by decide) rfl (fun ls hl => ?_)
      refine lv_iconst (v := 1) hx hb dL_nightLeak_11 (by decide) ?_
      exact k_hret (Nat.le_refl 1) (Nat.le_refl 6) hx hb hr hlk hP hS dL_nightLeak_12 (by rw [h]; exact (k_code_1 _).symm) (if_neg (by rw [h]; exact fun z => nomatch z)).symm
  · have hP : va_P D vwCl ((poW o q1 q2 q3 q4 q5 q6 qt cI cJ S1 S2 S3 S4 S5 S6 T sv) ++ ouW oa cJ f) H := hP
    have hD : va_D A9 ((poW o q1 q2 q3 q4 q5 q6 qt cI cJ S1 S2 S3 S4 S5 S6 T sv) ++ ouW oa cJ f) := hD
    refine va_last (f := f) hx hb hK hP hD hS 94 1 rfl rfl (k_in (k := 0) rfl (by decide) (by decide)) dL_nightLeak_6 (fun H locs hP hD hS => ?_)
    rw [show (0 : Int32).toNatClampNeg = 0 from rfl] at hP hD
    have hP : va_P D vwCl ((poW o q1 q2 q3 q4 q5 q6 qt cI cJ S1 S2 S3 S4 S5 S6 T sv) ++ ouW oa cJ (vp_updL f 0 (A_X4_nightLeak_r S1 S2 S3 S4 S5 S6 T sv))) H := hP
    refine lv_goto (tgt := 13) hx hb dL_nightLeak_7 (by decide) ?_
    refine lv_iconst (v := 0) hx hb dL_nightLeak_13 (by decide) ?_
    exact k_hret (Nat.le_refl 1) (Nat.le_refl 6) hx hb hr hlk hP hS dL_nightLeak_14 (by rw [ht]; exact (k_code_0 _).symm) (if_pos ht).symm

set_option maxHeartbeats 1000000 in
set_option maxRecDepth 100000 in
theorem h_entry (l : Launch) (D : va_G) (o : Nat) (q1 q2 q3 q4 q5 q6 qt : Nat → Nat) (cI cJ : ClassId) (S1 S2 S3 S4 S5 S6 : SS) (T : TS) (sv : Int32) (oa : Nat) (f : Nat → Int64) (x y : Int32)  (hst : l.stackTraces = false) (hth : (A_X4_entry_t S1 S2 S3 S4 S5 S6 T sv x y) = none ∨ (A_X4_entry_t S1 S2 S3 S4 S5 S6 T sv x y) = some iob ∨ (A_X4_entry_t S1 S2 S3 S4 S5 S6 T sv x y) = some iae) : kH l yL_entry wsL_entry ({ frames := 7, cells := 1, slots := 6, locals := 104 } : Room) D [(cI, .int), (cJ, .long)] [.ref o, .int x, .int y, .ref oa] ((poW o q1 q2 q3 q4 q5 q6 qt cI cJ S1 S2 S3 S4 S5 S6 T sv) ++ ouW oa cJ f) (k_code iob (A_X4_entry_t S1 S2 S3 S4 S5 S6 T sv x y)) (if (A_X4_entry_t S1 S2 S3 S4 S5 S6 T sv x y) = none then ((poW o q1 q2 q3 q4 q5 q6 qt cI cJ S1 S2 S3 S4 S5 S6 T sv) ++ ouW oa cJ (vp_updL f 0 (A_X4_entry_r S1 S2 S3 S4 S5 S6 T sv x y).toInt64)) else ((poW o q1 q2 q3 q4 q5 q6 qt cI cJ S1 S2 S3 S4 S5 S6 T sv) ++ ouW oa cJ f)) := by
  refine kHBody.met (cc := cL_entry) (maxL := 5) (ret := (some .int)) (hh := [(0, 10, 13, 30), (0, 10, 17, 13)]) (by decide) rfl (Nat.le_of_ble_eq_true rfl) ?_
  intro p9 e9 s9 m9 below meth c9 A9 ls hx hb hr hml hts hown hlk hK hP hD hA hTT hN htb hl
  have hown : s9.vm.findClass RL = some m9.cls := hown
  have hS : va_S A9 s9.heap s9.heap [] := va_S.rf
  have hl : lv_has ls 5 [(0, .ref o), (1, .int x), (2, .int y), (3, .ref oa)] := hl
  refine lv_aload_n hx hb dL_entry_0 rfl (lv_at hl 3 rfl) ?_
  refine lv_iconst (v := 0) hx hb dL_entry_1 (by decide) ?_
  refine lv_aload_n hx hb dL_entry_2 rfl (lv_at hl 0 rfl) ?_
  refine lv_iload_n hx hb dL_entry_3 rfl (lv_at hl 1 rfl) ?_
  refine lv_iload_n hx hb dL_entry_4 rfl (lv_at hl 2 rfl) ?_
  refine k_hcalli (a := []) (z := ouW oa cJ f) (wc := (poW o q1 q2 q3 q4 q5 q6 qt cI cJ S1 S2 S3 S4 S5 S6 T sv)) (wc' := (poW o q1 q2 q3 q4 q5 q6 qt cI cJ S1 S2 S3 S4 S5 S6 T sv)) (vx_runV (As := [.int x, .int y]) (rest := [.int 0, .ref oa]) ⟨hx, hb, hml, hown, hts⟩ (c_X4_entry l D o q1 q2 q3 q4 q5 q6 qt cI cJ S1 S2 S3 S4 S5 S6 T sv x y hst _) (cwV 2 hts gL_entry_X4_entry rfl rfl rfl (by decide +kernel) ⟨Nat.le_of_ble_eq_true rfl, Nat.le_of_ble_eq_true rfl⟩) ⟨kBT_blind, va_recv hK hP (ci := 4) (q0 := 0) rfl rfl, k_preT (a := []) (z := ouW oa cJ f) rfl hK hP hD hS hA hTT⟩ rfl rfl hl.1 rfl (lv_room (Nat.le_of_ble_eq_true rfl)) dL_entry_5 ⟨Nat.le_of_ble_eq_true rfl, Nat.le_of_ble_eq_true rfl⟩) rfl (poW_ad _ _ _ _ _ _ _ _ _ _ _ _ _ _ _ _ _ _ _ _ _ _ _ _ _ _) hP hD hS hA (fun E ce q9 H locs ht hP hD hS hce hcv hcl => ?_) (fun H locs ht hP hD hS => ?_)
  · rcases hth with h | h | h
    · exact absurd (ht.symm.trans h) (fun z => nomatch z)
    · have hE : E = iob := Option.some.inj (ht.symm.trans h)
      subst hE
      refine vx_catch (own := RL) (name := iob) (E := iob) hown [] ⟨0, 10, 13, 30⟩ [⟨0, 10, 17, 13⟩] htb (fun z hz => nomatch hz) rfl (by decide) (hts (.classLink RL 30 "java/lang/IndexOutOfBoundsException") (List.mem_of_getElem? (i := 1) rfl)) (va_Nw.use rfl (hTT.2.2.1 iob (by decide))) hce hcv hcl ?_
      refine lv_astore (lv' := [(4, .ref q9), (0, .ref o), (1, .int x), (2, .int y), (3, .ref oa)]) hx hb dL_entry_13 hl (by decide) rfl (fun ls hl => ?_)
      refine lv_iconst (v := 1) hx hb dL_entry_15 (by decide) ?_
      exact k_hret (Nat.le_refl 1) (Nat.le_refl 6) hx hb hr hlk hP hS dL_entry_16 (by rw [h]; exact (k_code_1 _).symm) (if_neg (by rw [h]; exact fun z => nomatch z)).symm
    · have hE : E = iae := Option.some.inj (ht.symm.trans h)
      subst hE
      refine vx_catch (own := RL) (name := iae) (E := iae) hown [⟨0, 10, 13, 30⟩] ⟨0, 10, 17, 13⟩ [] htb (fun z hz => by cases List.mem_singleton.mp hz; exact Or.inr ⟨by decide, iob, (hts (.classLink RL 30 "java/lang/IndexOutOfBoundsException") (List.mem_of_getElem? (i := 1) rfl)), hN.2.1⟩) rfl (by decide) (hts (.classLink RL 13 "java/lang/IllegalArgumentException") (List.mem_of_getElem? (i := 2) rfl)) (va_Nw.use rfl (hTT.2.2.1 iae (by decide))) hce hcv hcl ?_
      refine lv_astore (lv' := [(4, .ref q9), (0, .ref o), (1, .int x), (2, .int y), (3, .ref oa)]) hx hb dL_entry_17 hl (by decide) rfl (fun ls hl => ?_)
      refine lv_iconst (v := 2) hx hb dL_entry_19 (by decide) ?_
      exact k_hret (Nat.le_refl 1) (Nat.le_refl 6) hx hb hr hlk hP hS dL_entry_20 (by rw [h]; exact (k_code_2 (by decide)).symm) (if_neg (by rw [h]; exact fun z => nomatch z)).symm
  · have hP : va_P D vwCl ((poW o q1 q2 q3 q4 q5 q6 qt cI cJ S1 S2 S3 S4 S5 S6 T sv) ++ ouW oa cJ f) H := hP
    have hD : va_D A9 ((poW o q1 q2 q3 q4 q5 q6 qt cI cJ S1 S2 S3 S4 S5 S6 T sv) ++ ouW oa cJ f) := hD
    refine lv_i2l hx hb dL_entry_8 rfl ?_
    refine va_last (f := f) hx hb hK hP hD hS 94 1 rfl rfl (k_in (k := 0) rfl (by decide) (by decide)) dL_entry_9 (fun H locs hP hD hS => ?_)
    rw [show (0 : Int32).toNatClampNeg = 0 from rfl] at hP hD
    have hP : va_P D vwCl ((poW o q1 q2 q3 q4 q5 q6 qt cI cJ S1 S2 S3 S4 S5 S6 T sv) ++ ouW oa cJ (vp_updL f 0 (A_X4_entry_r S1 S2 S3 S4 S5 S6 T sv x y).toInt64)) H := hP
    refine lv_goto (tgt := 21) hx hb dL_entry_10 (by decide) ?_
    refine lv_iconst (v := 0) hx hb dL_entry_21 (by decide) ?_
    exact k_hret (Nat.le_refl 1) (Nat.le_refl 6) hx hb hr hlk hP hS dL_entry_22 (by rw [ht]; exact (k_code_0 _).symm) (if_pos ht).symm

set_option maxHeartbeats 1000000 in
set_option maxRecDepth 100000 in
theorem h_levelIn (l : Launch) (D : va_G) (o : Nat) (q1 q2 q3 q4 q5 q6 qt : Nat → Nat) (cI cJ : ClassId) (S1 S2 S3 S4 S5 S6 : SS) (T : TS) (sv : Int32) (oa : Nat) (f : Nat → Int64) (x : Int32) (n : Nat) (hn : S2.1 8 = nI n) (hn6 : n ≤ 6) (hst : l.stackTraces = false) (hth : (A_X4_levelIn_t S1 S2 S3 S4 S5 S6 T sv n x) = none ∨ (A_X4_levelIn_t S1 S2 S3 S4 S5 S6 T sv n x) = some iae) : kH l yL_levelIn wsL_levelIn ({ frames := 7, cells := 1, slots := 6, locals := 149 } : Room) D [(cI, .int), (cJ, .long)] [.ref o, .int x, .ref oa] ((poW o q1 q2 q3 q4 q5 q6 qt cI cJ S1 S2 S3 S4 S5 S6 T sv) ++ ouW oa cJ f) (k_code iae (A_X4_levelIn_t S1 S2 S3 S4 S5 S6 T sv n x)) (if (A_X4_levelIn_t S1 S2 S3 S4 S5 S6 T sv n x) = none then ((poW o q1 q2 q3 q4 q5 q6 qt cI cJ (A_X4_levelIn_s1 S1 S2 S3 S4 S5 S6 T sv n x) S2 S3 S4 S5 S6 T sv) ++ ouW oa cJ (vp_updL f 0 (A_X4_levelIn_r S1 S2 S3 S4 S5 S6 T sv n x).toInt64)) else ((poW o q1 q2 q3 q4 q5 q6 qt cI cJ S1 S2 S3 S4 S5 S6 T sv) ++ ouW oa cJ f)) := by
  refine kHBody.met (cc := cL_levelIn) (maxL := 4) (ret := (some .int)) (hh := [(0, 9, 12, 13)]) (by decide) rfl (Nat.le_of_ble_eq_true rfl) ?_
  intro p9 e9 s9 m9 below meth c9 A9 ls hx hb hr hml hts hown hlk hK hP hD hA hTT hN htb hl
  have hown : s9.vm.findClass RL = some m9.cls := hown
  have hS : va_S A9 s9.heap s9.heap [] := va_S.rf
  have hl : lv_has ls 4 [(0, .ref o), (1, .int x), (2, .ref oa)] := hl
  refine lv_aload_n hx hb dL_levelIn_0 rfl (lv_at hl 2 rfl) ?_
  refine lv_iconst (v := 0) hx hb dL_levelIn_1 (by decide) ?_
  refine lv_aload_n hx hb dL_levelIn_2 rfl (lv_at hl 0 rfl) ?_
  refine lv_iload_n hx hb dL_levelIn_3 rfl (lv_at hl 1 rfl) ?_
  refine k_hcalli (a := []) (z := ouW oa cJ f) (wc := (poW o q1 q2 q3 q4 q5 q6 qt cI cJ S1 S2 S3 S4 S5 S6 T sv)) (wc' := (poW o q1 q2 q3 q4 q5 q6 qt cI cJ (A_X4_levelIn_s1 S1 S2 S3 S4 S5 S6 T sv n x) S2 S3 S4 S5 S6 T sv)) (vx_runV (As := [.int x]) (rest := [.int 0, .ref oa]) ⟨hx, hb, hml, hown, hts⟩ (c_X4_levelIn l D o q1 q2 q3 q4 q5 q6 qt cI cJ S1 S2 S3 S4 S5 S6 T sv x n hn hn6 hst _) (cwV 1 hts gL_levelIn_X4_levelIn rfl rfl rfl (by decide +kernel) ⟨Nat.le_of_ble_eq_true rfl, Nat.le_of_ble_eq_true rfl⟩) ⟨kBT_blind, va_recv hK hP (ci := 4) (q0 := 0) rfl rfl, k_preT (a := []) (z := ouW oa cJ f) rfl hK hP hD hS hA hTT⟩ rfl rfl hl.1 rfl (lv_room (Nat.le_of_ble_eq_true rfl)) dL_levelIn_4 ⟨Nat.le_of_ble_eq_true rfl, Nat.le_of_ble_eq_true rfl⟩) rfl (poW_ad _ _ _ _ _ _ _ _ _ _ _ _ _ _ _ _ _ _ _ _ _ _ _ _ _ _) hP hD hS hA (fun E ce q9 H locs ht hP hD hS hce hcv hcl => ?_) (fun H locs ht hP hD hS => ?_)
  · rcases hth with h | h
    · exact absurd (ht.symm.trans h) (fun z => nomatch z)
    · have hE : E = iae := Option.some.inj (ht.symm.trans h)
      subst hE
      refine vx_catch (own := RL) (name := iae) (E := iae) hown [] ⟨0, 9, 12, 13⟩ [] htb (fun z hz => nomatch hz) rfl (by decide) (hts (.classLink RL 13 "java/lang/IllegalArgumentException") (List.mem_of_getElem? (i := 1) rfl)) (va_Nw.use rfl (hTT.2.2.1 iae (by decide))) hce hcv hcl ?_
      refine lv_astore_n (lv' := [(3, .ref q9), (0, .ref o), (1, .int x), (2, .ref oa)]) hx hb dL_levelIn_12 rfl hl (by decide) rfl (fun ls hl => ?_)
      refine lv_iconst (v := 1) hx hb dL_levelIn_13 (by decide) ?_
      exact k_hret (Nat.le_refl 1) (Nat.le_refl 6) hx hb hr hlk hP hS dL_levelIn_14 (by rw [h]; exact (k_code_1 _).symm) (if_neg (by rw [h]; exact fun z => nomatch z)).symm
  · have hP : va_P D vwCl ((poW o q1 q2 q3 q4 q5 q6 qt cI cJ (A_X4_levelIn_s1 S1 S2 S3 S4 S5 S6 T sv n x) S2 S3 S4 S5 S6 T sv) ++ ouW oa cJ f) H := hP
    have hD : va_D A9 ((poW o q1 q2 q3 q4 q5 q6 qt cI cJ (A_X4_levelIn_s1 S1 S2 S3 S4 S5 S6 T sv n x) S2 S3 S4 S5 S6 T sv) ++ ouW oa cJ f) := hD
    refine lv_i2l hx hb dL_levelIn_7 rfl ?_
    refine va_last (f := f) hx hb hK hP hD hS 94 1 rfl rfl (k_in (k := 0) rfl (by decide) (by decide)) dL_levelIn_8 (fun H locs hP hD hS => ?_)
    rw [show (0 : Int32).toNatClampNeg = 0 from rfl] at hP hD
    have hP : va_P D vwCl ((poW o q1 q2 q3 q4 q5 q6 qt cI cJ (A_X4_levelIn_s1 S1 S2 S3 S4 S5 S6 T sv n x) S2 S3 S4 S5 S6 T sv) ++ ouW oa cJ (vp_updL f 0 (A_X4_levelIn_r S1 S2 S3 S4 S5 S6 T sv n x).toInt64)) H := hP
    refine lv_goto (tgt := 15) hx hb dL_levelIn_9 (by decide) ?_
    refine lv_iconst (v := 0) hx hb dL_levelIn_15 (by decide) ?_
    exact k_hret (Nat.le_refl 1) (Nat.le_refl 6) hx hb hr hlk hP hS dL_levelIn_16 (by rw [ht]; exact (k_code_0 _).symm) (if_pos ht).symm

set_option maxHeartbeats 1000000 in
set_option maxRecDepth 100000 in
theorem h_startsIn (l : Launch) (D : va_G) (o : Nat) (q1 q2 q3 q4 q5 q6 qt : Nat → Nat) (cI cJ : ClassId) (S1 S2 S3 S4 S5 S6 : SS) (T : TS) (sv : Int32) (oa : Nat) (f : Nat → Int64) (x y : Int32) (n : Nat) (hn : S2.1 8 = nI n) (hn6 : n ≤ 6) (hst : l.stackTraces = false) (hth : (A_X4_startsIn_t S1 S2 S3 S4 S5 S6 T sv n x y) = none ∨ (A_X4_startsIn_t S1 S2 S3 S4 S5 S6 T sv n x y) = some iob ∨ (A_X4_startsIn_t S1 S2 S3 S4 S5 S6 T sv n x y) = some iae) : kH l yL_startsIn wsL_startsIn ({ frames := 7, cells := 1, slots := 6, locals := 150 } : Room) D [(cI, .int), (cJ, .long)] [.ref o, .int x, .int y, .ref oa] ((poW o q1 q2 q3 q4 q5 q6 qt cI cJ S1 S2 S3 S4 S5 S6 T sv) ++ ouW oa cJ f) (k_code iob (A_X4_startsIn_t S1 S2 S3 S4 S5 S6 T sv n x y)) (if (A_X4_startsIn_t S1 S2 S3 S4 S5 S6 T sv n x y) = none then ((poW o q1 q2 q3 q4 q5 q6 qt cI cJ (A_X4_startsIn_s1 S1 S2 S3 S4 S5 S6 T sv n x y) S2 S3 S4 S5 S6 T sv) ++ ouW oa cJ (vp_updL f 0 (A_X4_startsIn_r S1 S2 S3 S4 S5 S6 T sv n x y).toInt64)) else ((poW o q1 q2 q3 q4 q5 q6 qt cI cJ S1 S2 S3 S4 S5 S6 T sv) ++ ouW oa cJ f)) := by
  refine kHBody.met (cc := cL_startsIn) (maxL := 5) (ret := (some .int)) (hh := [(0, 10, 13, 30), (0, 10, 17, 13)]) (by decide) rfl (Nat.le_of_ble_eq_true rfl) ?_
  intro p9 e9 s9 m9 below meth c9 A9 ls hx hb hr hml hts hown hlk hK hP hD hA hTT hN htb hl
  have hown : s9.vm.findClass RL = some m9.cls := hown
  have hS : va_S A9 s9.heap s9.heap [] := va_S.rf
  have hl : lv_has ls 5 [(0, .ref o), (1, .int x), (2, .int y), (3, .ref oa)] := hl
  refine lv_aload_n hx hb dL_startsIn_0 rfl (lv_at hl 3 rfl) ?_
  refine lv_iconst (v := 0) hx hb dL_startsIn_1 (by decide) ?_
  refine lv_aload_n hx hb dL_startsIn_2 rfl (lv_at hl 0 rfl) ?_
  refine lv_iload_n hx hb dL_startsIn_3 rfl (lv_at hl 1 rfl) ?_
  refine lv_iload_n hx hb dL_startsIn_4 rfl (lv_at hl 2 rfl) ?_
  refine k_hcalli (a := []) (z := ouW oa cJ f) (wc := (poW o q1 q2 q3 q4 q5 q6 qt cI cJ S1 S2 S3 S4 S5 S6 T sv)) (wc' := (poW o q1 q2 q3 q4 q5 q6 qt cI cJ (A_X4_startsIn_s1 S1 S2 S3 S4 S5 S6 T sv n x y) S2 S3 S4 S5 S6 T sv)) (vx_runV (As := [.int x, .int y]) (rest := [.int 0, .ref oa]) ⟨hx, hb, hml, hown, hts⟩ (c_X4_startsIn l D o q1 q2 q3 q4 q5 q6 qt cI cJ S1 S2 S3 S4 S5 S6 T sv x y n hn hn6 hst _) (cwV 2 hts gL_startsIn_X4_startsIn rfl rfl rfl (by decide +kernel) ⟨Nat.le_of_ble_eq_true rfl, Nat.le_of_ble_eq_true rfl⟩) ⟨kBT_blind, va_recv hK hP (ci := 4) (q0 := 0) rfl rfl, k_preT (a := []) (z := ouW oa cJ f) rfl hK hP hD hS hA hTT⟩ rfl rfl hl.1 rfl (lv_room (Nat.le_of_ble_eq_true rfl)) dL_startsIn_5 ⟨Nat.le_of_ble_eq_true rfl, Nat.le_of_ble_eq_true rfl⟩) rfl (poW_ad _ _ _ _ _ _ _ _ _ _ _ _ _ _ _ _ _ _ _ _ _ _ _ _ _ _) hP hD hS hA (fun E ce q9 H locs ht hP hD hS hce hcv hcl => ?_) (fun H locs ht hP hD hS => ?_)
  · rcases hth with h | h | h
    · exact absurd (ht.symm.trans h) (fun z => nomatch z)
    · have hE : E = iob := Option.some.inj (ht.symm.trans h)
      subst hE
      refine vx_catch (own := RL) (name := iob) (E := iob) hown [] ⟨0, 10, 13, 30⟩ [⟨0, 10, 17, 13⟩] htb (fun z hz => nomatch hz) rfl (by decide) (hts (.classLink RL 30 "java/lang/IndexOutOfBoundsException") (List.mem_of_getElem? (i := 1) rfl)) (va_Nw.use rfl (hTT.2.2.1 iob (by decide))) hce hcv hcl ?_
      refine lv_astore (lv' := [(4, .ref q9), (0, .ref o), (1, .int x), (2, .int y), (3, .ref oa)]) hx hb dL_startsIn_13 hl (by decide) rfl (fun ls hl => ?_)
      refine lv_iconst (v := 1) hx hb dL_startsIn_15 (by decide) ?_
      exact k_hret (Nat.le_refl 1) (Nat.le_refl 6) hx hb hr hlk hP hS dL_startsIn_16 (by rw [h]; exact (k_code_1 _).symm) (if_neg (by rw [h]; exact fun z => nomatch z)).symm
    · have hE : E = iae := Option.some.inj (ht.symm.trans h)
      subst hE
      refine vx_catch (own := RL) (name := iae) (E := iae) hown [⟨0, 10, 13, 30⟩] ⟨0, 10, 17, 13⟩ [] htb (fun z hz => by cases List.mem_singleton.mp hz; exact Or.inr ⟨by decide, iob, (hts (.classLink RL 30 "java/lang/IndexOutOfBoundsException") (List.mem_of_getElem? (i := 1) rfl)), hN.2.1⟩) rfl (by decide) (hts (.classLink RL 13 "java/lang/IllegalArgumentException") (List.mem_of_getElem? (i := 2) rfl)) (va_Nw.use rfl (hTT.2.2.1 iae (by decide))) hce hcv hcl ?_
      refine lv_astore (lv' := [(4, .ref q9), (0, .ref o), (1, .int x), (2, .int y), (3, .ref oa)]) hx hb dL_startsIn_17 hl (by decide) rfl (fun ls hl => ?_)
      refine lv_iconst (v := 2) hx hb dL_startsIn_19 (by decide) ?_
      exact k_hret (Nat.le_refl 1) (Nat.le_refl 6) hx hb hr hlk hP hS dL_startsIn_20 (by rw [h]; exact (k_code_2 (by decide)).symm) (if_neg (by rw [h]; exact fun z => nomatch z)).symm
  · have hP : va_P D vwCl ((poW o q1 q2 q3 q4 q5 q6 qt cI cJ (A_X4_startsIn_s1 S1 S2 S3 S4 S5 S6 T sv n x y) S2 S3 S4 S5 S6 T sv) ++ ouW oa cJ f) H := hP
    have hD : va_D A9 ((poW o q1 q2 q3 q4 q5 q6 qt cI cJ (A_X4_startsIn_s1 S1 S2 S3 S4 S5 S6 T sv n x y) S2 S3 S4 S5 S6 T sv) ++ ouW oa cJ f) := hD
    refine lv_i2l hx hb dL_startsIn_8 rfl ?_
    refine va_last (f := f) hx hb hK hP hD hS 94 1 rfl rfl (k_in (k := 0) rfl (by decide) (by decide)) dL_startsIn_9 (fun H locs hP hD hS => ?_)
    rw [show (0 : Int32).toNatClampNeg = 0 from rfl] at hP hD
    have hP : va_P D vwCl ((poW o q1 q2 q3 q4 q5 q6 qt cI cJ (A_X4_startsIn_s1 S1 S2 S3 S4 S5 S6 T sv n x y) S2 S3 S4 S5 S6 T sv) ++ ouW oa cJ (vp_updL f 0 (A_X4_startsIn_r S1 S2 S3 S4 S5 S6 T sv n x y).toInt64)) H := hP
    refine lv_goto (tgt := 21) hx hb dL_startsIn_10 (by decide) ?_
    refine lv_iconst (v := 0) hx hb dL_startsIn_21 (by decide) ?_
    exact k_hret (Nat.le_refl 1) (Nat.le_refl 6) hx hb hr hlk hP hS dL_startsIn_22 (by rw [ht]; exact (k_code_0 _).symm) (if_pos ht).symm

set_option maxHeartbeats 1000000 in
set_option maxRecDepth 100000 in
theorem h_oathFor (l : Launch) (D : va_G) (o : Nat) (q1 q2 q3 q4 q5 q6 qt : Nat → Nat) (cI cJ : ClassId) (S1 S2 S3 S4 S5 S6 : SS) (T : TS) (sv : Int32) (oa : Nat) (f : Nat → Int64) (x : Int32) (n : Nat) (hn : S2.1 8 = nI n) (hn6 : n ≤ 6) (hst : l.stackTraces = false) (hth : (c_ofT x) = none ∨ (c_ofT x) = some iae) : kH l yL_oathFor wsL_oathFor ({ frames := 7, cells := 1, slots := 6, locals := 151 } : Room) D [(cI, .int), (cJ, .long)] [.ref o, .int x, .ref oa] ((poW o q1 q2 q3 q4 q5 q6 qt cI cJ S1 S2 S3 S4 S5 S6 T sv) ++ ouW oa cJ f) (k_code iae (c_ofT x)) (if (c_ofT x) = none then ((poW o q1 q2 q3 q4 q5 q6 qt cI cJ (c_ofS S2 n x.toNatClampNeg) S2 S3 S4 S5 S6 T sv) ++ ouW oa cJ (vp_updL f 0 (c_ofR S2 n x.toNatClampNeg).toInt64)) else ((poW o q1 q2 q3 q4 q5 q6 qt cI cJ S1 S2 S3 S4 S5 S6 T sv) ++ ouW oa cJ f)) := by
  refine kHBody.met (cc := cL_oathFor) (maxL := 4) (ret := (some .int)) (hh := [(0, 9, 12, 13)]) (by decide) rfl (Nat.le_of_ble_eq_true rfl) ?_
  intro p9 e9 s9 m9 below meth c9 A9 ls hx hb hr hml hts hown hlk hK hP hD hA hTT hN htb hl
  have hown : s9.vm.findClass RL = some m9.cls := hown
  have hS : va_S A9 s9.heap s9.heap [] := va_S.rf
  have hl : lv_has ls 4 [(0, .ref o), (1, .int x), (2, .ref oa)] := hl
  refine lv_aload_n hx hb dL_oathFor_0 rfl (lv_at hl 2 rfl) ?_
  refine lv_iconst (v := 0) hx hb dL_oathFor_1 (by decide) ?_
  refine lv_aload_n hx hb dL_oathFor_2 rfl (lv_at hl 0 rfl) ?_
  refine lv_iload_n hx hb dL_oathFor_3 rfl (lv_at hl 1 rfl) ?_
  refine k_hcalli (a := []) (z := ouW oa cJ f) (wc := (poW o q1 q2 q3 q4 q5 q6 qt cI cJ S1 S2 S3 S4 S5 S6 T sv)) (wc' := (poW o q1 q2 q3 q4 q5 q6 qt cI cJ (c_ofS S2 n x.toNatClampNeg) S2 S3 S4 S5 S6 T sv)) (vx_runV (As := [.int x]) (rest := [.int 0, .ref oa]) ⟨hx, hb, hml, hown, hts⟩ (c_X4_oathFor l D o q1 q2 q3 q4 q5 q6 qt cI cJ S1 S2 S3 S4 S5 S6 T sv x n hn hn6 hst _) (cwV 1 hts gL_oathFor_X4_oathFor rfl rfl rfl (by decide +kernel) ⟨Nat.le_of_ble_eq_true rfl, Nat.le_of_ble_eq_true rfl⟩) ⟨kBT_blind, va_recv hK hP (ci := 4) (q0 := 0) rfl rfl, k_preT (a := []) (z := ouW oa cJ f) rfl hK hP hD hS hA hTT⟩ rfl rfl hl.1 rfl (lv_room (Nat.le_of_ble_eq_true rfl)) dL_oathFor_4 ⟨Nat.le_of_ble_eq_true rfl, Nat.le_of_ble_eq_true rfl⟩) rfl (poW_ad _ _ _ _ _ _ _ _ _ _ _ _ _ _ _ _ _ _ _ _ _ _ _ _ _ _) hP hD hS hA (fun E ce q9 H locs ht hP hD hS hce hcv hcl => ?_) (fun H locs ht hP hD hS => ?_)
  · rcases hth with h | h
    · exact absurd (ht.symm.trans h) (fun z => nomatch z)
    · have hE : E = iae := Option.some.inj (ht.symm.trans h)
      subst hE
      refine vx_catch (own := RL) (name := iae) (E := iae) hown [] ⟨0, 9, 12, 13⟩ [] htb (fun z hz => nomatch hz) rfl (by decide) (hts (.classLink RL 13 "java/lang/IllegalArgumentException") (List.mem_of_getElem? (i := 1) rfl)) (va_Nw.use rfl (hTT.2.2.1 iae (by decide))) hce hcv hcl ?_
      refine lv_astore_n (lv' := [(3, .ref q9), (0, .ref o), (1, .int x), (2, .ref oa)]) hx hb dL_oathFor_12 rfl hl (by decide) rfl (fun ls hl => ?_)
      refine lv_iconst (v := 1) hx hb dL_oathFor_13 (by decide) ?_
      exact k_hret (Nat.le_refl 1) (Nat.le_refl 6) hx hb hr hlk hP hS dL_oathFor_14 (by rw [h]; exact (k_code_1 _).symm) (if_neg (by rw [h]; exact fun z => nomatch z)).symm
  · have hP : va_P D vwCl ((poW o q1 q2 q3 q4 q5 q6 qt cI cJ (c_ofS S2 n x.toNatClampNeg) S2 S3 S4 S5 S6 T sv) ++ ouW oa cJ f) H := hP
    have hD : va_D A9 ((poW o q1 q2 q3 q4 q5 q6 qt cI cJ (c_ofS S2 n x.toNatClampNeg) S2 S3 S4 S5 S6 T sv) ++ ouW oa cJ f) := hD
    refine lv_i2l hx hb dL_oathFor_7 rfl ?_
    refine va_last (f := f) hx hb hK hP hD hS 94 1 rfl rfl (k_in (k := 0) rfl (by decide) (by decide)) dL_oathFor_8 (fun H locs hP hD hS => ?_)
    rw [show (0 : Int32).toNatClampNeg = 0 from rfl] at hP hD
    have hP : va_P D vwCl ((poW o q1 q2 q3 q4 q5 q6 qt cI cJ (c_ofS S2 n x.toNatClampNeg) S2 S3 S4 S5 S6 T sv) ++ ouW oa cJ (vp_updL f 0 (c_ofR S2 n x.toNatClampNeg).toInt64)) H := hP
    refine lv_goto (tgt := 15) hx hb dL_oathFor_9 (by decide) ?_
    refine lv_iconst (v := 0) hx hb dL_oathFor_15 (by decide) ?_
    exact k_hret (Nat.le_refl 1) (Nat.le_refl 6) hx hb hr hlk hP hS dL_oathFor_16 (by rw [ht]; exact (k_code_0 _).symm) (if_pos ht).symm

set_option maxHeartbeats 1000000 in
set_option maxRecDepth 100000 in
theorem h_append (l : Launch) (D : va_G) (o : Nat) (q1 q2 q3 q4 q5 q6 qt : Nat → Nat) (cI cJ : ClassId) (S1 S2 S3 S4 S5 S6 : SS) (T : TS) (sv : Int32) (oa : Nat) (f : Nat → Int64) (x : Int32)  (hst : l.stackTraces = false) (hth : (A_X4_append_t S1 S2 S3 S4 S5 S6 T sv x) = none ∨ (A_X4_append_t S1 S2 S3 S4 S5 S6 T sv x) = some iae ∨ (A_X4_append_t S1 S2 S3 S4 S5 S6 T sv x) = some ise) : kH l yL_append wsL_append ({ frames := 7, cells := 1, slots := 6, locals := 103 } : Room) D [(cI, .int), (cJ, .long)] [.ref o, .int x, .ref oa] ((poW o q1 q2 q3 q4 q5 q6 qt cI cJ S1 S2 S3 S4 S5 S6 T sv) ++ ouW oa cJ f) (k_code iae (A_X4_append_t S1 S2 S3 S4 S5 S6 T sv x)) (if (A_X4_append_t S1 S2 S3 S4 S5 S6 T sv x) = none then ((poW o q1 q2 q3 q4 q5 q6 qt cI cJ S1 S2 S3 S4 S5 S6 (A_X4_append_s7 S1 S2 S3 S4 S5 S6 T sv x) sv) ++ ouW oa cJ (vp_updL f 0 (A_X4_append_r S1 S2 S3 S4 S5 S6 T sv x).toInt64)) else ((poW o q1 q2 q3 q4 q5 q6 qt cI cJ S1 S2 S3 S4 S5 S6 T sv) ++ ouW oa cJ f)) := by
  refine kHBody.met (cc := cL_append) (maxL := 4) (ret := (some .int)) (hh := [(0, 9, 12, 13), (0, 9, 15, 15)]) (by decide) rfl (Nat.le_of_ble_eq_true rfl) ?_
  intro p9 e9 s9 m9 below meth c9 A9 ls hx hb hr hml hts hown hlk hK hP hD hA hTT hN htb hl
  have hown : s9.vm.findClass RL = some m9.cls := hown
  have hS : va_S A9 s9.heap s9.heap [] := va_S.rf
  have hl : lv_has ls 4 [(0, .ref o), (1, .int x), (2, .ref oa)] := hl
  refine lv_aload_n hx hb dL_append_0 rfl (lv_at hl 2 rfl) ?_
  refine lv_iconst (v := 0) hx hb dL_append_1 (by decide) ?_
  refine lv_aload_n hx hb dL_append_2 rfl (lv_at hl 0 rfl) ?_
  refine lv_iload_n hx hb dL_append_3 rfl (lv_at hl 1 rfl) ?_
  refine k_hcalli (a := []) (z := ouW oa cJ f) (wc := (poW o q1 q2 q3 q4 q5 q6 qt cI cJ S1 S2 S3 S4 S5 S6 T sv)) (wc' := (poW o q1 q2 q3 q4 q5 q6 qt cI cJ S1 S2 S3 S4 S5 S6 (A_X4_append_s7 S1 S2 S3 S4 S5 S6 T sv x) sv)) (vx_runV (As := [.int x]) (rest := [.int 0, .ref oa]) ⟨hx, hb, hml, hown, hts⟩ (c_X4_append l D o q1 q2 q3 q4 q5 q6 qt cI cJ S1 S2 S3 S4 S5 S6 T sv x hst _) (cwV 1 hts gL_append_X4_append rfl rfl rfl (by decide +kernel) ⟨Nat.le_of_ble_eq_true rfl, Nat.le_of_ble_eq_true rfl⟩) ⟨kBT_blind, va_recv hK hP (ci := 4) (q0 := 0) rfl rfl, k_preT (a := []) (z := ouW oa cJ f) rfl hK hP hD hS hA hTT⟩ rfl rfl hl.1 rfl (lv_room (Nat.le_of_ble_eq_true rfl)) dL_append_4 ⟨Nat.le_of_ble_eq_true rfl, Nat.le_of_ble_eq_true rfl⟩) rfl (poW_ad _ _ _ _ _ _ _ _ _ _ _ _ _ _ _ _ _ _ _ _ _ _ _ _ _ _) hP hD hS hA (fun E ce q9 H locs ht hP hD hS hce hcv hcl => ?_) (fun H locs ht hP hD hS => ?_)
  · rcases hth with h | h | h
    · exact absurd (ht.symm.trans h) (fun z => nomatch z)
    · have hE : E = iae := Option.some.inj (ht.symm.trans h)
      subst hE
      refine vx_catch (own := RL) (name := iae) (E := iae) hown [] ⟨0, 9, 12, 13⟩ [⟨0, 9, 15, 15⟩] htb (fun z hz => nomatch hz) rfl (by decide) (hts (.classLink RL 13 "java/lang/IllegalArgumentException") (List.mem_of_getElem? (i := 1) rfl)) (va_Nw.use rfl (hTT.2.2.1 iae (by decide))) hce hcv hcl ?_
      refine lv_astore_n (lv' := [(3, .ref q9), (0, .ref o), (1, .int x), (2, .ref oa)]) hx hb dL_append_12 rfl hl (by decide) rfl (fun ls hl => ?_)
      refine lv_iconst (v := 1) hx hb dL_append_13 (by decide) ?_
      exact k_hret (Nat.le_refl 1) (Nat.le_refl 6) hx hb hr hlk hP hS dL_append_14 (by rw [h]; exact (k_code_1 _).symm) (if_neg (by rw [h]; exact fun z => nomatch z)).symm
    · have hE : E = ise := Option.some.inj (ht.symm.trans h)
      subst hE
      refine vx_catch (own := RL) (name := ise) (E := ise) hown [⟨0, 9, 12, 13⟩] ⟨0, 9, 15, 15⟩ [] htb (fun z hz => by cases List.mem_singleton.mp hz; exact Or.inr ⟨by decide, iae, (hts (.classLink RL 13 "java/lang/IllegalArgumentException") (List.mem_of_getElem? (i := 1) rfl)), hN.1⟩) rfl (by decide) (hts (.classLink RL 15 "java/lang/IllegalStateException") (List.mem_of_getElem? (i := 2) rfl)) (va_Nw.use rfl (hTT.2.2.1 ise (by decide))) hce hcv hcl ?_
      refine lv_astore_n (lv' := [(3, .ref q9), (0, .ref o), (1, .int x), (2, .ref oa)]) hx hb dL_append_15 rfl hl (by decide) rfl (fun ls hl => ?_)
      refine lv_iconst (v := 2) hx hb dL_append_16 (by decide) ?_
      exact k_hret (Nat.le_refl 1) (Nat.le_refl 6) hx hb hr hlk hP hS dL_append_17 (by rw [h]; exact (k_code_2 (by decide)).symm) (if_neg (by rw [h]; exact fun z => nomatch z)).symm
  · have hP : va_P D vwCl ((poW o q1 q2 q3 q4 q5 q6 qt cI cJ S1 S2 S3 S4 S5 S6 (A_X4_append_s7 S1 S2 S3 S4 S5 S6 T sv x) sv) ++ ouW oa cJ f) H := hP
    have hD : va_D A9 ((poW o q1 q2 q3 q4 q5 q6 qt cI cJ S1 S2 S3 S4 S5 S6 (A_X4_append_s7 S1 S2 S3 S4 S5 S6 T sv x) sv) ++ ouW oa cJ f) := hD
    refine lv_i2l hx hb dL_append_7 rfl ?_
    refine va_last (f := f) hx hb hK hP hD hS 94 1 rfl rfl (k_in (k := 0) rfl (by decide) (by decide)) dL_append_8 (fun H locs hP hD hS => ?_)
    rw [show (0 : Int32).toNatClampNeg = 0 from rfl] at hP hD
    have hP : va_P D vwCl ((poW o q1 q2 q3 q4 q5 q6 qt cI cJ S1 S2 S3 S4 S5 S6 (A_X4_append_s7 S1 S2 S3 S4 S5 S6 T sv x) sv) ++ ouW oa cJ (vp_updL f 0 (A_X4_append_r S1 S2 S3 S4 S5 S6 T sv x).toInt64)) H := hP
    refine lv_goto (tgt := 18) hx hb dL_append_9 (by decide) ?_
    refine lv_iconst (v := 0) hx hb dL_append_18 (by decide) ?_
    exact k_hret (Nat.le_refl 1) (Nat.le_refl 6) hx hb hr hlk hP hS dL_append_19 (by rw [ht]; exact (k_code_0 _).symm) (if_pos ht).symm

set_option maxHeartbeats 1000000 in
set_option maxRecDepth 100000 in
theorem h_undo (l : Launch) (D : va_G) (o : Nat) (q1 q2 q3 q4 q5 q6 qt : Nat → Nat) (cI cJ : ClassId) (S1 S2 S3 S4 S5 S6 : SS) (T : TS) (sv : Int32) (oa : Nat) (f : Nat → Int64)  (hst : l.stackTraces = false) (hth : (A_X4_undo_t S1 S2 S3 S4 S5 S6 T sv) = none ∨ (A_X4_undo_t S1 S2 S3 S4 S5 S6 T sv) = some ise) : kH l yL_undo wsL_undo ({ frames := 7, cells := 1, slots := 6, locals := 102 } : Room) D [(cI, .int), (cJ, .long)] [.ref o, .ref oa] ((poW o q1 q2 q3 q4 q5 q6 qt cI cJ S1 S2 S3 S4 S5 S6 T sv) ++ ouW oa cJ f) (k_code ise (A_X4_undo_t S1 S2 S3 S4 S5 S6 T sv)) (if (A_X4_undo_t S1 S2 S3 S4 S5 S6 T sv) = none then ((poW o q1 q2 q3 q4 q5 q6 qt cI cJ S1 (A_X4_undo_s2 S1 S2 S3 S4 S5 S6 T sv) (A_X4_undo_s3 S1 S2 S3 S4 S5 S6 T sv) (A_X4_undo_s4 S1 S2 S3 S4 S5 S6 T sv) (A_X4_undo_s5 S1 S2 S3 S4 S5 S6 T sv) S6 T (A_X4_undo_s0 S1 S2 S3 S4 S5 S6 T sv)) ++ ouW oa cJ (vp_updL f 0 (A_X4_undo_r S1 S2 S3 S4 S5 S6 T sv).toInt64)) else ((poW o q1 q2 q3 q4 q5 q6 qt cI cJ S1 S2 S3 S4 S5 S6 T sv) ++ ouW oa cJ f)) := by
  refine kHBody.met (cc := cL_undo) (maxL := 3) (ret := (some .int)) (hh := [(0, 8, 11, 15)]) (by decide) rfl (Nat.le_of_ble_eq_true rfl) ?_
  intro p9 e9 s9 m9 below meth c9 A9 ls hx hb hr hml hts hown hlk hK hP hD hA hTT hN htb hl
  have hown : s9.vm.findClass RL = some m9.cls := hown
  have hS : va_S A9 s9.heap s9.heap [] := va_S.rf
  have hl : lv_has ls 3 [(0, .ref o), (1, .ref oa)] := hl
  refine lv_aload_n hx hb dL_undo_0 rfl (lv_at hl 1 rfl) ?_
  refine lv_iconst (v := 0) hx hb dL_undo_1 (by decide) ?_
  refine lv_aload_n hx hb dL_undo_2 rfl (lv_at hl 0 rfl) ?_
  refine k_hcalli (a := []) (z := ouW oa cJ f) (wc := (poW o q1 q2 q3 q4 q5 q6 qt cI cJ S1 S2 S3 S4 S5 S6 T sv)) (wc' := (poW o q1 q2 q3 q4 q5 q6 qt cI cJ S1 (A_X4_undo_s2 S1 S2 S3 S4 S5 S6 T sv) (A_X4_undo_s3 S1 S2 S3 S4 S5 S6 T sv) (A_X4_undo_s4 S1 S2 S3 S4 S5 S6 T sv) (A_X4_undo_s5 S1 S2 S3 S4 S5 S6 T sv) S6 T (A_X4_undo_s0 S1 S2 S3 S4 S5 S6 T sv))) (vx_runV (As := []) (rest := [.int 0, .ref oa]) ⟨hx, hb, hml, hown, hts⟩ (c_X4_undo l D o q1 q2 q3 q4 q5 q6 qt cI cJ S1 S2 S3 S4 S5 S6 T sv hst _) (cwV 0 hts gL_undo_X4_undo rfl rfl rfl (by decide +kernel) ⟨Nat.le_of_ble_eq_true rfl, Nat.le_of_ble_eq_true rfl⟩) ⟨kBT_blind, va_recv hK hP (ci := 4) (q0 := 0) rfl rfl, k_preT (a := []) (z := ouW oa cJ f) rfl hK hP hD hS hA hTT⟩ rfl rfl hl.1 rfl (lv_room (Nat.le_of_ble_eq_true rfl)) dL_undo_3 ⟨Nat.le_of_ble_eq_true rfl, Nat.le_of_ble_eq_true rfl⟩) rfl (poW_ad _ _ _ _ _ _ _ _ _ _ _ _ _ _ _ _ _ _ _ _ _ _ _ _ _ _) hP hD hS hA (fun E ce q9 H locs ht hP hD hS hce hcv hcl => ?_) (fun H locs ht hP hD hS => ?_)
  · rcases hth with h | h
    · exact absurd (ht.symm.trans h) (fun z => nomatch z)
    · have hE : E = ise := Option.some.inj (ht.symm.trans h)
      subst hE
      refine vx_catch (own := RL) (name := ise) (E := ise) hown [] ⟨0, 8, 11, 15⟩ [] htb (fun z hz => nomatch hz) rfl (by decide) (hts (.classLink RL 15 "java/lang/IllegalStateException") (List.mem_of_getElem? (i := 1) rfl)) (va_Nw.use rfl (hTT.2.2.1 ise (by decide))) hce hcv hcl ?_
      refine lv_astore_n (lv' := [(2, .ref q9), (0, .ref o), (1, .ref oa)]) hx hb dL_undo_11 rfl hl (by decide) rfl (fun ls hl => ?_)
      refine lv_iconst (v := 1) hx hb dL_undo_12 (by decide) ?_
      exact k_hret (Nat.le_refl 1) (Nat.le_refl 6) hx hb hr hlk hP hS dL_undo_13 (by rw [h]; exact (k_code_1 _).symm) (if_neg (by rw [h]; exact fun z => nomatch z)).symm
  · have hP : va_P D vwCl ((poW o q1 q2 q3 q4 q5 q6 qt cI cJ S1 (A_X4_undo_s2 S1 S2 S3 S4 S5 S6 T sv) (A_X4_undo_s3 S1 S2 S3 S4 S5 S6 T sv) (A_X4_undo_s4 S1 S2 S3 S4 S5 S6 T sv) (A_X4_undo_s5 S1 S2 S3 S4 S5 S6 T sv) S6 T (A_X4_undo_s0 S1 S2 S3 S4 S5 S6 T sv)) ++ ouW oa cJ f) H := hP
    have hD : va_D A9 ((poW o q1 q2 q3 q4 q5 q6 qt cI cJ S1 (A_X4_undo_s2 S1 S2 S3 S4 S5 S6 T sv) (A_X4_undo_s3 S1 S2 S3 S4 S5 S6 T sv) (A_X4_undo_s4 S1 S2 S3 S4 S5 S6 T sv) (A_X4_undo_s5 S1 S2 S3 S4 S5 S6 T sv) S6 T (A_X4_undo_s0 S1 S2 S3 S4 S5 S6 T sv)) ++ ouW oa cJ f) := hD
    refine lv_i2l hx hb dL_undo_6 rfl ?_
    refine va_last (f := f) hx hb hK hP hD hS 94 1 rfl rfl (k_in (k := 0) rfl (by decide) (by decide)) dL_undo_7 (fun H locs hP hD hS => ?_)
    rw [show (0 : Int32).toNatClampNeg = 0 from rfl] at hP hD
    have hP : va_P D vwCl ((poW o q1 q2 q3 q4 q5 q6 qt cI cJ S1 (A_X4_undo_s2 S1 S2 S3 S4 S5 S6 T sv) (A_X4_undo_s3 S1 S2 S3 S4 S5 S6 T sv) (A_X4_undo_s4 S1 S2 S3 S4 S5 S6 T sv) (A_X4_undo_s5 S1 S2 S3 S4 S5 S6 T sv) S6 T (A_X4_undo_s0 S1 S2 S3 S4 S5 S6 T sv)) ++ ouW oa cJ (vp_updL f 0 (A_X4_undo_r S1 S2 S3 S4 S5 S6 T sv).toInt64)) H := hP
    refine lv_goto (tgt := 14) hx hb dL_undo_8 (by decide) ?_
    refine lv_iconst (v := 0) hx hb dL_undo_14 (by decide) ?_
    exact k_hret (Nat.le_refl 1) (Nat.le_refl 6) hx hb hr hlk hP hS dL_undo_15 (by rw [ht]; exact (k_code_0 _).symm) (if_pos ht).symm
