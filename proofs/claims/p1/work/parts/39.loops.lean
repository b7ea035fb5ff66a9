/-! LOOPS of a fixed number of turns, over contents that may be anything -/
section ZLOOP
variable {p : Program} {l : Launch} {e : Env} {R : Room} {s : State} {m : MethodId} {args : Array Value} {below : List Frame} {meth : Method} {c : Code} {H : Heap} {locs : List Loc} {cells slots : Nat} {Q : State → Prop} {pc : Nat} {ls : Array Slot}
theorem z_loop {I : Nat → Array Slot → Heap → List Loc → Prop} (N : Nat) (h0 : I 0 ls H locs)
    (step : ∀ (i : Nat), i < N → ∀ (ls : Array Slot) (H : Heap) (locs : List Loc), I i ls H locs → (∀ (ls : Array Slot) (H : Heap) (locs : List Loc), I (i + 1) ls H locs → W p l e R s m args below meth c H locs cells slots Q (F0 m pc ls [])) → W p l e R s m args below meth c H locs cells slots Q (F0 m pc ls []))
    (kk : ∀ (ls : Array Slot) (H : Heap) (locs : List Loc), I N ls H locs → W p l e R s m args below meth c H locs cells slots Q (F0 m pc ls [])) : W p l e R s m args below meth c H locs cells slots Q (F0 m pc ls []) := by
  have go : ∀ (n i : Nat), i + n = N → ∀ (ls : Array Slot) (H : Heap) (locs : List Loc), I i ls H locs → W p l e R s m args below meth c H locs cells slots Q (F0 m pc ls []) := by
    intro n
    induction n with
    | zero =>
      intro i hi ls H locs h
      have e0 : i = N := by omega
      subst e0
      exact kk ls H locs h
    | succ n ih =>
      intro i hi ls H locs h
      exact step i (by omega) ls H locs h (fun ls H locs h => ih (i + 1) (by omega) ls H locs h)
  exact go N 0 (by omega) ls H locs h0
end ZLOOP
theorem z_narup {f : Nat → Int32} {k : Nat} {v : Int32} (h : ∀ j : Nat, vp_nar .boolean (f j) = f j) (hv : vp_nar .boolean v = v) : ∀ j : Nat, vp_nar .boolean (va_up f k v j) = va_up f k v j := fun j => by
  unfold va_up
  split
  · exact hv
  · exact h j
theorem zu_all {α : Type} {g : Nat → α} {k : Nat} {v : α} (h : ∀ j : Nat, g j = v) : ∀ j : Nat, va_up g k v j = v := fun j => by
  unfold va_up
  split
  · rfl
  · exact h j
