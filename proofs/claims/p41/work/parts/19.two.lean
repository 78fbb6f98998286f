theorem k_if {α : Type} {c : Prop} {dc : Decidable c} {P : α → Prop} {x y : α} (h1 : c → P x) (h2 : ¬ c → P y) : P (@ite α c dc x y) := by
  cases dc with
  | isTrue h => exact h1 h
  | isFalse h => exact h2 h
theorem k_top {p : Program} {l : Launch} {e : Env} {R : Room} {s : State} {m : MethodId} {args : Array Value} {below : List Frame} {meth : Method} {c : Code} {H : Heap} {locs : List Loc} {cells slots : Nat} {Q : State → Prop} {pc : Nat} {ls : Array Slot} {rest : List Value} {x : Int32} (y : Int32) (h : x = y) (k : W p l e R s m args below meth c H locs cells slots Q (F0 m pc ls (.int y :: rest))) : W p l e R s m args below meth c H locs cells slots Q (F0 m pc ls (.int x :: rest)) := by
  subst h; exact k
