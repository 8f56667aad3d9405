set_option maxHeartbeats 1000000 in
set_option maxRecDepth 100000 in
theorem lw_first {p9 : Program} {l : Launch} {e9 : Env} {s9 : State} {m9 : MethodId} {below : List Frame} {meth : Method} {c9 : Code} {b L : Nat} {xs : Nat → Int32} {D : va_G} {cI cJ : ClassId} (C0 : lw_C p9 l s9 m9 meth c9 b L xs D cI cJ) {o : Nat} {q1 q2 q3 q4 q5 q6 qt : Nat → Nat} {bb : Int64} : ∀ (d k : Nat), 3 ≤ k + d → k ≤ 3 → ∀ (S1 S2 S3 S4 S5 S6 : SS) (T : TS) (sv : Int32), LI S2 sv bb k 0 → S2.2.2.1 0 1 = 0 → S2.2.2.1 0 2 = 1 → ∀ (H : Heap) (locs : List Loc) (ls : Array Slot), va_P D vwCl (poW o q1 q2 q3 q4 q5 q6 qt cI cJ S1 S2 S3 S4 S5 S6 T sv) H → va_D (A0 s9) (poW o q1 q2 q3 q4 q5 q6 qt cI cJ S1 S2 S3 S4 S5 S6 T sv) → va_S (A0 s9) s9.heap H locs → lv_has ls 14 [(0, .ref b), (1, .ref o), (2, .long bb), (4, .int 1), (5, .int (nI k))] → W p9 l e9 room_1 s9 m9 #[Value.ref b] below meth c9 H locs 95 1074 (lw_Z below #[Value.ref b] s9) (F0 m9 39 ls []) := by
  intro d
  have C1 := C0
  obtain ⟨hx, hb, hr, hml, hown, hts, hX, hbl, hlk, hK, hTT, hN, hst, hL⟩ := C1
  have fin : ∀ (k : Nat), k = 3 → ∀ (S1 S2 S3 S4 S5 S6 : SS) (T : TS) (sv : Int32), LI S2 sv bb k 0 → S2.2.2.1 0 1 = 0 → S2.2.2.1 0 2 = 1 → ∀ (H : Heap) (locs : List Loc) (ls : Array Slot), va_P D vwCl (poW o q1 q2 q3 q4 q5 q6 qt cI cJ S1 S2 S3 S4 S5 S6 T sv) H → va_D (A0 s9) (poW o q1 q2 q3 q4 q5 q6 qt cI cJ S1 S2 S3 S4 S5 S6 T sv) → va_S (A0 s9) s9.heap H locs → lv_has ls 14 [(0, .ref b), (1, .ref o), (2, .long bb), (4, .int 1), (5, .int (nI k))] → W p9 l e9 room_1 s9 m9 #[Value.ref b] below meth c9 H locs 95 1074 (lw_Z below #[Value.ref b] s9) (F0 m9 39 ls []) := by
    intro k hk S1 S2 S3 S4 S5 S6 T sv hI hs1 hs2 H locs ls hP hD hS hl
    refine lv_iload hx hb dL_law_39 (lv_at hl 4 rfl) ?_
    refine lv_iconst (v := 3) hx hb dL_law_41 (by decide) ?_
    refine lv_icmp_ge (tgt := 105) hx hb dL_law_42 (by decide) (fun _ => ?_) (fun c9 => absurd (show (3 : Int32) ≤ nI k from by rw [hk]; decide) c9)
    exact lw_mid C0 hk (u := 0) (by omega) (by omega) (by omega) (fun S1 S2 S3 S4 S5 S6 T sv hI H locs ls hP hD hS hl => lw_loop C0 hk 32 0 95 1074 0 (by omega) (by omega) (by omega) (by omega) (by omega) S1 S2 S3 S4 S5 S6 T sv bb hI H locs ls hP hD hS hl) hI hs1 hs2 hP hD hS (lv_sub hl [0, 1, 2, 3] rfl)
  induction d with
  | zero =>
    intro k h1 h2
    exact fin k (by omega)
  | succ d ih =>
    intro k h1 h2 S1 S2 S3 S4 S5 S6 T sv hI hs1 hs2 H locs ls hP hD hS hl
    rcases Nat.lt_or_ge k 3 with hk | hk
    · refine lw_add C0 hk (u := 0) (by omega) (by omega) (by omega) (fun S1 S2 S3 S4 S5 S6 T sv hI hs1 hs2 H locs ls hP hD hS hl => ?_) hI hs1 hs2 hP hD hS hl
      exact ih (k + 1) (by omega) (by omega) S1 S2 S3 S4 S5 S6 T sv hI hs1 hs2 H locs ls hP hD hS hl
    · exact fin k (by omega) S1 S2 S3 S4 S5 S6 T sv hI hs1 hs2 H locs ls hP hD hS hl
