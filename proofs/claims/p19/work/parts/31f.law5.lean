theorem all_C {p : Program} {l : Launch} {e : Env} {s : State} {m : MethodId} {below : List Frame} {meth : Method} {c : Code} {b : Nat} {L : Nat} {xs : Nat → Int32} {dC : Nat → ClassId} {dI : Nat → Nat → Nat} {zt : Nat} (hL : L ≤ 260) (C0 : lw_At p s m meth c b L xs) (hE : ev s) (hZ : va_Z "java/util/ArrayList" "DEFAULTCAPACITY_EMPTY_ELEMENTDATA" "[Ljava/lang/Object;" (.ref zt) (fun q : Nat => s.heap.size ≤ q) s s.heap) (hTz : va_T (.object "java/lang/Object") zt 0 (fun _ => .null) (fun q : Nat => s.heap.size ≤ q) s s.heap) : ∀ n, LC p l e s m below meth c b L xs dC dI zt n := by
  intro n
  induction n with
  | zero => exact @body_C p l e s m below meth c b L xs dC dI zt hL C0 hE hZ hTz 0 (fun n2 h => absurd h (by omega)) (fun n2 h => absurd h (by omega))
  | succ n ih =>
    exact @body_C p l e s m below meth c b L xs dC dI zt hL C0 hE hZ hTz (n + 1) (fun n2 h => @all_TC p l e s m below meth c b L xs dC dI zt hL C0 hE hZ hTz n2) (fun n2 h => by have e_ : n2 = n := (by omega); rw [e_]; exact @ih)
