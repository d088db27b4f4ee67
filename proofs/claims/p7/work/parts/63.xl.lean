theorem al_0 : ∀ j : Nat, 0 ≤ ((fun _ : Nat => (0 : Int32)) j).toInt := fun _ => (show 0 ≤ (0 : Int32).toInt by decide +kernel)
theorem inA_0 {a b : Int} (h1 : a ≤ 0) (h2 : 0 ≤ b) : inA (fun _ : Nat => (0 : Int32)) a b := fun k => by
  have h : (0 : Int32).toInt = 0 := by decide +kernel
  exact ⟨show a ≤ (0 : Int32).toInt by omega, show (0 : Int32).toInt ≤ b by omega⟩
theorem xLoopA {p : Program} {l : Launch} {e : Env} {R : Room} {s : State} {m : MethodId} {args : Array Value} {below : List Frame} {meth : Method} {c : Code} {cf sf : Nat → Nat} {Q : State → Prop} {pc : Nat} {stk : List Value} (I : Nat → Heap → List Loc → Array Slot → Prop)
    (step : ∀ (n : Nat) (H : Heap) (locs : List Loc) (ls : Array Slot), I n H locs ls → (∀ (n' : Nat) (H' : Heap) (locs' : List Loc) (ls' : Array Slot), n' < n → I n' H' locs' ls' → W p l e R s m args below meth c H' locs' (cf n') (sf n') Q (F0 m pc ls' stk)) → W p l e R s m args below meth c H locs (cf n) (sf n) Q (F0 m pc ls stk))
    (n : Nat) (H : Heap) (locs : List Loc) (ls : Array Slot) (h : I n H locs ls) : W p l e R s m args below meth c H locs (cf n) (sf n) Q (F0 m pc ls stk) := by
  induction n using Nat.strongRecOn generalizing H locs ls with
  | _ n ih => exact step n H locs ls h (fun n' H' locs' ls' hn h' => ih n' hn H' locs' ls' h')
