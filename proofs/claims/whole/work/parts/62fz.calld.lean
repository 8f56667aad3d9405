section KCD
variable {p : Program} {l : Launch} {e : Env} {R : Room} {s : State} {m : MethodId} {args : Array Value} {below : List Frame} {meth : Method} {c : Code} {H : Heap} {locs : List Loc} {cells slots : Nat} {Q : State → Prop} {D : va_G} {A : Nat → Prop} {pc : Nat} {ls : Array Slot}
theorem k_calld {a z wc wc' w w' : va_W} {r9 : UInt64} {st0 rest As : List Value} (hr : kRunD p l e R s m args below meth c H locs cells slots D wc wc' r9 (F0 m pc ls st0) rest As) (hw : w = a ++ (wc ++ z)) (hw' : w' = a ++ (wc' ++ z)) (hadr : wc'.map Prod.fst = wc.map Prod.fst) (hP : va_P D vwCl w H) (hD : va_D A w) (hS : va_S A s.heap H locs) (hA : ∀ q : Nat, s.heap.size ≤ q → A q)
    (kk : ∀ (H1 : Heap) (locs1 : List Loc), va_P D vwCl w' H1 → va_D A w' → va_S A s.heap H1 locs1 → W p l e R s m args below meth c H1 locs1 cells slots Q (F0 m (pc + 3) ls (.double r9 :: rest))) : W p l e R s m args below meth c H locs cells slots Q (F0 m pc ls st0) := by
  have hFc := k_free hw hD hS hA
  refine va_calld hr hS (fun q _ h => hFc q h) hFc (fun r u t H1 locs1 ht hvm hv hB hz hk hS1 => ?_)
  subst hv
  obtain ⟨hP1, hD1⟩ := k_back (H0 := H) hw hw' hadr hP hD hk (by rw [← ht]; exact hB)
  exact kk H1 locs1 hP1 hD1 hS1
end KCD
