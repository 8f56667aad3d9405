/-! THE LAW'S LOOP over the script -/
theorem lw_and31 (x : Int32) : ∃ n : Nat, n ≤ 31 ∧ x &&& 31 = nI n := by
  have h : (x &&& 31).toBitVec.toNat ≤ 31 := by
    rw [Int32.toBitVec_and, BitVec.toNat_and]
    exact Nat.le_trans Nat.and_le_right (by decide)
  refine ⟨(x &&& 31).toBitVec.toNat, h, ?_⟩
  refine Int32.toBitVec_inj.mp ?_
  show (x &&& 31).toBitVec = (Int32.ofNat _).toBitVec
  rw [Int32.toBitVec_ofNat']
  exact BitVec.eq_of_toNat_eq (by rw [BitVec.toNat_ofNat]; exact (Nat.mod_eq_of_lt (BitVec.isLt _)).symm)
theorem lw_sub3 {L : Nat} (h : L ≤ 1536) : (Int32.ofNat L - 3).toInt = (L : Int) - 3 := by
  rw [Int32.toInt_sub, show (Int32.ofNat L).toInt = (L : Int) from nI_toInt (n := L) (by omega), show (3 : Int32).toInt = 3 from rfl, Int.bmod_def]
  split <;> omega
theorem lw_gt3 {L i : Nat} (hL : L ≤ 1536) (hi : i ≤ L + 2) : ((Int32.ofNat L - 3) < nI i) ↔ L < i + 3 := by
  rw [Int32.lt_iff_toInt_lt, lw_sub3 hL, nI_toInt (by omega)]
  omega
set_option maxHeartbeats 1000000 in
set_option maxRecDepth 100000 in
theorem lw_sw {p : Program} {l : Launch} {e : Env} {s : State} {m : MethodId} {below : List Frame} {meth : Method} {c : Code} {b L : Nat} {xs : Nat → Int32} {D : va_G} {cI cJ : ClassId} (C0 : lw_C p l s m meth c b L xs D cI cJ) {o : Nat} {q1 q2 q3 q4 q5 q6 qt qm : Nat → Nat} {oa : Nat} {i : Nat} (hi : i + 2 < L) {kc ks : Nat} (hkc : kc + 1 ≤ 1160) (hks : ks + 6 ≤ 10503) (K : ∀ (S1 S2 S3 S4 S5 S6 : SS) (T : TS) (sv : Int32) (f : Nat → Int64) (M : MS), ROE S2 S3 S4 S5 S6 T sv M → ∀ (H : Heap) (locs : List Loc) (ls : Array Slot), va_P D vwCl (((poW o q1 q2 q3 q4 q5 q6 qt cI cJ S1 S2 S3 S4 S5 S6 T sv) ++ ouW oa cJ f) ++ moW qm cI cJ M) H → va_D (A0 s) (((poW o q1 q2 q3 q4 q5 q6 qt cI cJ S1 S2 S3 S4 S5 S6 T sv) ++ ouW oa cJ f) ++ moW qm cI cJ M) → va_S (A0 s) s.heap H locs → lv_has ls 9 [(0, .ref b), (1, .ref o), (2, .ref (qm 0)), (3, .ref oa), (4, .int (nI i))] → W p l e room_1 s m #[Value.ref b] below meth c H locs (kc + 1) (ks + 6) (lw_Z below #[Value.ref b] s) (F0 m 1548 ls [])) {S1 S2 S3 S4 S5 S6 : SS} {T : TS} {sv : Int32} {f : Nat → Int64} {M : MS} (hRO : ROE S2 S3 S4 S5 S6 T sv M) {H : Heap} {locs : List Loc} {ls : Array Slot} (hP : va_P D vwCl (((poW o q1 q2 q3 q4 q5 q6 qt cI cJ S1 S2 S3 S4 S5 S6 T sv) ++ ouW oa cJ f) ++ moW qm cI cJ M) H) (hD : va_D (A0 s) (((poW o q1 q2 q3 q4 q5 q6 qt cI cJ S1 S2 S3 S4 S5 S6 T sv) ++ ouW oa cJ f) ++ moW qm cI cJ M)) (hS : va_S (A0 s) s.heap H locs) (hl : lv_has ls 9 [(0, .ref b), (1, .ref o), (2, .ref (qm 0)), (3, .ref oa), (4, .int (nI i))]) (n : Nat) (hn : n ≤ 31) : W p l e room_1 s m #[Value.ref b] below meth c H locs kc ks (lw_Z below #[Value.ref b] s) (F0 m 39 ls [.int (nI n)]) := by
  have C1 := C0
  obtain ⟨hx, hb, -⟩ := C1
  match n, hn with
  | 0, _ => exact lv_tableIn (off := 121) (tgt := 160) hx hb dL_law_39 (by decide) (by decide) (by decide) (by decide) (lw_c0 C0 hi hkc hks K hRO hP hD hS hl)
  | 1, _ => exact lv_tableIn (off := 177) (tgt := 216) hx hb dL_law_39 (by decide) (by decide) (by decide) (by decide) (lw_c1 C0 hi hkc hks K hRO hP hD hS hl)
  | 2, _ => exact lv_tableIn (off := 245) (tgt := 284) hx hb dL_law_39 (by decide) (by decide) (by decide) (by decide) (lw_c2 C0 hi hkc hks K hRO hP hD hS hl)
  | 3, _ => exact lv_tableIn (off := 301) (tgt := 340) hx hb dL_law_39 (by decide) (by decide) (by decide) (by decide) (lw_c3 C0 hi hkc hks K hRO hP hD hS hl)
  | 4, _ => exact lv_tableIn (off := 369) (tgt := 408) hx hb dL_law_39 (by decide) (by decide) (by decide) (by decide) (lw_c4 C0 hi hkc hks K hRO hP hD hS hl)
  | 5, _ => exact lv_tableIn (off := 437) (tgt := 476) hx hb dL_law_39 (by decide) (by decide) (by decide) (by decide) (lw_c5 C0 hi hkc hks K hRO hP hD hS hl)
  | 6, _ => exact lv_tableIn (off := 505) (tgt := 544) hx hb dL_law_39 (by decide) (by decide) (by decide) (by decide) (lw_c6 C0 hi hkc hks K hRO hP hD hS hl)
  | 7, _ => exact lv_tableIn (off := 573) (tgt := 612) hx hb dL_law_39 (by decide) (by decide) (by decide) (by decide) (lw_c7 C0 hi hkc hks K hRO hP hD hS hl)
  | 8, _ => exact lv_tableIn (off := 664) (tgt := 703) hx hb dL_law_39 (by decide) (by decide) (by decide) (by decide) (lw_c8 C0 hi hkc hks K hRO hP hD hS hl)
  | 9, _ => exact lv_tableIn (off := 720) (tgt := 759) hx hb dL_law_39 (by decide) (by decide) (by decide) (by decide) (lw_c9 C0 hi hkc hks K hRO hP hD hS hl)
  | 10, _ => exact lv_tableIn (off := 788) (tgt := 827) hx hb dL_law_39 (by decide) (by decide) (by decide) (by decide) (lw_c10 C0 hi hkc hks K hRO hP hD hS hl)
  | 11, _ => exact lv_tableIn (off := 844) (tgt := 883) hx hb dL_law_39 (by decide) (by decide) (by decide) (by decide) (lw_c11 C0 hi hkc hks K hRO hP hD hS hl)
  | 12, _ => exact lv_tableIn (off := 900) (tgt := 939) hx hb dL_law_39 (by decide) (by decide) (by decide) (by decide) (lw_c12 C0 hi hkc hks K hRO hP hD hS hl)
  | 13, _ => exact lv_tableIn (off := 956) (tgt := 995) hx hb dL_law_39 (by decide) (by decide) (by decide) (by decide) (lw_c13 C0 hi hkc hks K hRO hP hD hS hl)
  | 14, _ => exact lv_tableIn (off := 1011) (tgt := 1050) hx hb dL_law_39 (by decide) (by decide) (by decide) (by decide) (lw_c14 C0 hi hkc hks K hRO hP hD hS hl)
  | 15, _ => exact lv_tableIn (off := 1054) (tgt := 1093) hx hb dL_law_39 (by decide) (by decide) (by decide) (by decide) (lw_c15 C0 hi hkc hks K hRO hP hD hS hl)
  | 16, _ => exact lv_tableIn (off := 1122) (tgt := 1161) hx hb dL_law_39 (by decide) (by decide) (by decide) (by decide) (lw_c16 C0 hi hkc hks K hRO hP hD hS hl)
  | 17, _ => exact lv_tableIn (off := 1178) (tgt := 1217) hx hb dL_law_39 (by decide) (by decide) (by decide) (by decide) (lw_c17 C0 hi hkc hks K hRO hP hD hS hl)
  | 18, _ => exact lv_tableIn (off := 1246) (tgt := 1285) hx hb dL_law_39 (by decide) (by decide) (by decide) (by decide) (lw_c18 C0 hi hkc hks K hRO hP hD hS hl)
  | 19, _ => exact lv_tableIn (off := 1302) (tgt := 1341) hx hb dL_law_39 (by decide) (by decide) (by decide) (by decide) (lw_c19 C0 hi hkc hks K hRO hP hD hS hl)
  | 20, _ => exact lv_tableIn (off := 1315) (tgt := 1354) hx hb dL_law_39 (by decide) (by decide) (by decide) (by decide) (lw_c20 C0 hi hkc hks K hRO hP hD hS hl)
  | 21, _ => exact lv_tableIn (off := 1328) (tgt := 1367) hx hb dL_law_39 (by decide) (by decide) (by decide) (by decide) (lw_c21 C0 hi hkc hks K hRO hP hD hS hl)
  | 22, _ => exact lv_tableIn (off := 1369) (tgt := 1408) hx hb dL_law_39 (by decide) (by decide) (by decide) (by decide) (lw_c22 C0 hi hkc hks K hRO hP hD hS hl)
  | 23, _ => exact lv_tableIn (off := 1425) (tgt := 1464) hx hb dL_law_39 (by decide) (by decide) (by decide) (by decide) (lw_c23 C0 hi hkc hks K hRO hP hD hS hl)
  | 24, _ => exact lv_tableIn (off := 1438) (tgt := 1477) hx hb dL_law_39 (by decide) (by decide) (by decide) (by decide) (lw_c24 C0 hi hkc hks K hRO hP hD hS hl)
  | 25, _ => exact lv_tableIn (off := 1451) (tgt := 1490) hx hb dL_law_39 (by decide) (by decide) (by decide) (by decide) (lw_c25 C0 hi hkc hks K hRO hP hD hS hl)
  | 26, _ => exact lv_tableIn (off := 1495) (tgt := 1534) hx hb dL_law_39 (by decide) (by decide) (by decide) (by decide) (lw_c26 C0 hi hkc hks K hRO hP hD hS hl)
  | n + 27, hn =>
    refine lv_tableOut (tgt := 1548) hx hb dL_law_39 (Or.inr (by rw [nI_toInt (by omega)]; omega)) (by decide) ?_
    refine W.widen (k := kc + 1) (n := ks + 6) (Nat.le_add_right _ _) (Nat.le_add_right _ _) ?_
    exact K _ _ _ _ _ _ _ _ _ _ hRO _ _ _ hP hD hS hl
set_option maxHeartbeats 1000000 in
set_option maxRecDepth 100000 in
theorem lw_loop {p : Program} {l : Launch} {e : Env} {s : State} {m : MethodId} {below : List Frame} {meth : Method} {c : Code} {b L : Nat} {xs : Nat → Int32} {D : va_G} {cI cJ : ClassId} (C0 : lw_C p l s m meth c b L xs D cI cJ) {o : Nat} {q1 q2 q3 q4 q5 q6 qt qm : Nat → Nat} {oa : Nat} : ∀ (n i kc ks : Nat), L + 3 ≤ i + n → i ≤ L + 2 → 3 * kc = i + 309 → ks = 6 * kc + 1495 → ∀ (S1 S2 S3 S4 S5 S6 : SS) (T : TS) (sv : Int32) (f : Nat → Int64) (M : MS), ROE S2 S3 S4 S5 S6 T sv M → ∀ (H : Heap) (locs : List Loc) (ls : Array Slot), va_P D vwCl (((poW o q1 q2 q3 q4 q5 q6 qt cI cJ S1 S2 S3 S4 S5 S6 T sv) ++ ouW oa cJ f) ++ moW qm cI cJ M) H → va_D (A0 s) (((poW o q1 q2 q3 q4 q5 q6 qt cI cJ S1 S2 S3 S4 S5 S6 T sv) ++ ouW oa cJ f) ++ moW qm cI cJ M) → va_S (A0 s) s.heap H locs → lv_has ls 9 [(0, .ref b), (1, .ref o), (2, .ref (qm 0)), (3, .ref oa), (4, .int (nI i))] → W p l e room_1 s m #[Value.ref b] below meth c H locs kc ks (lw_Z below #[Value.ref b] s) (F0 m 23 ls []) := by
  intro n
  have C1 := C0
  obtain ⟨hx, hb, hr, hml, hown, hts, hX, hbl, hlk, hK, hTT, hN, hst, hL⟩ := C1
  have hbA : ¬ A0 s b := Nat.not_le.mpr hbl
  induction n with
  | zero => intro i kc ks h1 h2; omega
  | succ n ih =>
    intro i kc ks h1 h2 h3 h4 S1 S2 S3 S4 S5 S6 T sv f M hRO H locs ls hP hD hS hl
    refine lv_iload hx hb dL_law_23 (lv_at hl 4 rfl) ?_
    refine lv_aload_n hx hb dL_law_25 rfl (lv_at hl 0 rfl) ?_
    refine va_slen hx hb hX hbl hbA hS dL_law_26 ?_
    refine lv_iconst (v := 3) hx hb dL_law_27 (by decide) ?_
    refine lv_isub hx hb dL_law_28 ?_
    refine lv_icmp_gt (tgt := 1554) hx hb dL_law_29 (by decide) (fun c_9 => ?_) (fun c_9 => ?_)
    · refine lv_iconst (v := 1) hx hb dL_law_1554 (by decide) ?_
      refine va_forget (fun q hq => hS.2.2 q hq) ?_
      refine W.widen (k := 1160) (n := 10503) (by omega) (by omega) ?_
      refine W.base ?_
      exact lw_ret (Drawn.sameBut.refl s.drawn lw_cs) hx hb hr hlk dL_law_1555
    · have hlt : i + 2 < L := by
        have := mt (lw_gt3 hL h2).mpr c_9
        omega
      refine lv_aload_n hx hb dL_law_32 rfl (lv_at hl 0 rfl) ?_
      refine lv_iload hx hb dL_law_33 (lv_at hl 4 rfl) ?_
      refine va_sld hx hb hX hbl hbA hS (vp_in_nI (by omega) (by omega)) dL_law_35 ?_
      refine lv_bipush (v := 31) hx hb dL_law_36 (by decide) ?_
      refine lv_iand hx hb dL_law_38 ?_
      obtain ⟨n9, hn9, he9⟩ := lw_and31 (xs (nI i).toNatClampNeg)
      rw [he9]
      refine lw_sw C0 hlt (by omega) (by omega) (fun S1 S2 S3 S4 S5 S6 T sv f M hRO H locs ls hP hD hS hl => ?_) hRO hP hD hS hl n9 hn9
      refine lv_iinc (v := nI (i + 3)) (lv' := [(4, .int (nI (i + 3))), (0, .ref b), (1, .ref o), (2, .ref (qm 0)), (3, .ref oa)]) hx hb dL_law_1548 hl (k := 4) rfl (nI_add i 3) (by decide) rfl (fun ls hl => ?_)
      refine lv_goto (tgt := 23) hx hb dL_law_1551 (by decide) ?_
      exact ih (i + 3) (kc + 1) (ks + 6) (by omega) (by omega) (by omega) (by omega) S1 S2 S3 S4 S5 S6 T sv f M hRO H locs ls hP hD hS (lv_sub hl [1, 2, 3, 4, 0] rfl)
