/-! loops over the walk -/
abbrev CutL : Type := List (Nat × (List Nat × (List Value → List Value → gH → Nat → Nat → Prop)))
section LOOPS
variable {p : Program} {l : Launch} {e : Env} {R : Room} {s : State} {m : MethodId} {args : Array Value} {below : List Frame} {meth : Method} {c : Code} {Q : State → Prop} {E : wE} {A : Nat → Prop} {own : String} {cc : ByteArray} {nL : Nat}
variable {fl : Nat → Option (Nat × Nat × FieldType × Bool)} {nw : Nat → Option (Nat × Nat × List Value)} {nq : Nat → Option ClassId} {oc : Option Nat} {cs : Nat → Option (Nat × Nat × Nat × Nat × CallT)} {hh : Nat → Nat → Option Nat} {ret : Option FieldType} {mc ms : Nat} {RP : Option Value → gH → Prop} {TP : Nat → gH → Prop}
theorem cutL_ok {L : CutL} (h : AllL (fun q : Nat × (List Nat × (List Value → List Value → gH → Nat → Nat → Prop)) => ∀ vs st G k d, q.2.2 vs st G k d → Vj E nL A Q p l e R s m args below meth c q.1 (q.2.1.zip vs) st G k d) L) :
    ∀ pc ks K, lk L pc = some (ks, K) → ∀ vs st G k d, K vs st G k d → Vj E nL A Q p l e R s m args below meth c pc (ks.zip vs) st G k d := by
  intro pc ks K h0 vs st G k d hK
  exact h.mem _ (lk_mem h0) vs st G k d hK
theorem loopV (hH : WpH E own cc nL A Q p l e R s m args below meth c fl nw nq oc cs hh ret mc ms RP TP) (hd : Nat) (ks : List Nat) (Inv : Nat → List Value → List Value → gH → Nat → Nat → Prop) (more : CutL)
    (hm : AllL (fun q : Nat × (List Nat × (List Value → List Value → gH → Nat → Nat → Prop)) => ∀ vs st G k d, q.2.2 vs st G k d → Vj E nL A Q p l e R s m args below meth c q.1 (q.2.1.zip vs) st G k d) more) (fuel : Nat)
    (step : ∀ n vs st G k d, Inv n vs st G k d → wp1 cc (lk ((hd, (ks, fun vs st G k d => ∃ n', n' < n ∧ Inv n' vs st G k d)) :: more)) nL E fl nw nq oc cs hh ret mc ms RP TP fuel hd (ks.zip vs) st G k d) :
    ∀ n vs st G k d, Inv n vs st G k d → Vj E nL A Q p l e R s m args below meth c hd (ks.zip vs) st G k d := by
  intro n
  induction n using Nat.strongRecOn with
  | ind n ih =>
    intro vs st G k d hI
    refine wp1_sound hH (cutL_ok (L := (hd, (ks, fun vs st G k d => ∃ n', n' < n ∧ Inv n' vs st G k d)) :: more) ⟨?_, hm⟩) fuel hd _ _ _ _ _ (step n vs st G k d hI)
    rintro vs st G k d ⟨n', hlt, hI'⟩
    exact ih n' hlt vs st G k d hI'
theorem startV (hH : WpH E own cc nL A Q p l e R s m args below meth c fl nw nq oc cs hh ret mc ms RP TP) (cuts : CutL)
    (hm : AllL (fun q : Nat × (List Nat × (List Value → List Value → gH → Nat → Nat → Prop)) => ∀ vs st G k d, q.2.2 vs st G k d → Vj E nL A Q p l e R s m args below meth c q.1 (q.2.1.zip vs) st G k d) cuts) (fuel : Nat)
    {pc : Nat} {lv : List (Nat × Value)} {st : List Value} {G : gH} {k d : Nat} (h : wp cc (lk cuts) nL E fl nw nq oc cs hh ret mc ms RP TP fuel pc lv st G k d) : Vj E nL A Q p l e R s m args below meth c pc lv st G k d :=
  wp_sound hH (cutL_ok hm) fuel pc lv st G k d h
end LOOPS
theorem gset_at (G : gH) (a j : Nat) (e : va_E) : gset G a e j = if j = a then some e else G j := rfl
theorem ne_cells {G : gH} {a b : Nat} {x y : va_E} (ha : G a = some x) (hb : G b = some y) (h : x ≠ y) : a ≠ b := by
  rintro rfl
  exact h (Option.some.inj (ha.symm.trans hb))
theorem na_i (x : Int32) : narrow .int (.int x) = .int x := rfl
theorem fi_i (x : Int32) : fits .int (.int x) = true := rfl
theorem na_l (x : Int64) : narrow .long (.long x) = .long x := rfl
theorem na_o (C : String) (a : Nat) : narrow (.object C) (.ref a) = .ref a := rfl
theorem fi_o (C : String) (a : Nat) : fits (.object C) (.ref a) = true := rfl
theorem na_on (C : String) : narrow (.object C) .null = .null := rfl
theorem fi_on (C : String) : fits (.object C) .null = true := rfl
theorem na_a (t : FieldType) (a : Nat) : narrow (.array t) (.ref a) = .ref a := rfl
theorem fi_a (t : FieldType) (a : Nat) : fits (.array t) (.ref a) = true := rfl
theorem na_b0 : narrow .boolean (.int 0) = .int 0 := rfl
theorem na_b1 : narrow .boolean (.int 1) = .int 1 := rfl
theorem isA_2 (E : wE) : isA E (E.2.2 2) = True := eq_true ⟨2, _, rfl⟩
theorem isA_3 (E : wE) : isA E (E.2.2 3) = True := eq_true ⟨3, _, rfl⟩
theorem isAof_2 (E : wE) : isAof E (E.2.2 2) 4 = True := eq_true ⟨2, _, rfl, rfl⟩
theorem isAof_3 (E : wE) : isAof E (E.2.2 3) 5 = True := eq_true ⟨3, _, rfl, rfl⟩
theorem vrf_s (a : Nat) : va_rf (some a) = .ref a := rfl
theorem vrf_n : va_rf none = .null := rfl
theorem i10 : ((1 : Int32) = 0) = False := by decide
theorem i01 : ((0 : Int32) = 1) = False := by decide
theorem im10 : ((-1 : Int32) = 0) = False := by decide
section LOOPI
variable {p : Program} {l : Launch} {e : Env} {R : Room} {s : State} {m : MethodId} {args : Array Value} {below : List Frame} {meth : Method} {c : Code} {Q : State → Prop} {E : wE} {A : Nat → Prop} {own : String} {cc : ByteArray} {nL : Nat}
variable {fl : Nat → Option (Nat × Nat × FieldType × Bool)} {nw : Nat → Option (Nat × Nat × List Value)} {nq : Nat → Option ClassId} {oc : Option Nat} {cs : Nat → Option (Nat × Nat × Nat × Nat × CallT)} {hh : Nat → Nat → Option Nat} {ret : Option FieldType} {mc ms : Nat} {RP : Option Value → gH → Prop} {TP : Nat → gH → Prop}
theorem loopI (hd : Nat) (ks : List Nat) (Inv : Nat → List Value → List Value → gH → Nat → Nat → Prop)
    (step : ∀ n, (∀ vs st G k d, (∃ n', n' < n ∧ Inv n' vs st G k d) → Vj E nL A Q p l e R s m args below meth c hd (ks.zip vs) st G k d) → ∀ vs st G k d, Inv n vs st G k d → Vj E nL A Q p l e R s m args below meth c hd (ks.zip vs) st G k d) :
    ∀ n vs st G k d, Inv n vs st G k d → Vj E nL A Q p l e R s m args below meth c hd (ks.zip vs) st G k d := by
  intro n
  induction n using Nat.strongRecOn with
  | ind n ih =>
    intro vs st G k d hI
    refine step n ?_ vs st G k d hI
    rintro vs st G k d ⟨n', hlt, hI'⟩
    exact ih n' hlt vs st G k d hI'
theorem startV1 (hH : WpH E own cc nL A Q p l e R s m args below meth c fl nw nq oc cs hh ret mc ms RP TP) (cuts : CutL)
    (hm : AllL (fun q : Nat × (List Nat × (List Value → List Value → gH → Nat → Nat → Prop)) => ∀ vs st G k d, q.2.2 vs st G k d → Vj E nL A Q p l e R s m args below meth c q.1 (q.2.1.zip vs) st G k d) cuts) (fuel : Nat)
    {pc : Nat} {lv : List (Nat × Value)} {st : List Value} {G : gH} {k d : Nat} (h : wp1 cc (lk cuts) nL E fl nw nq oc cs hh ret mc ms RP TP fuel pc lv st G k d) : Vj E nL A Q p l e R s m args below meth c pc lv st G k d :=
  wp1_sound hH (cutL_ok hm) fuel pc lv st G k d h
end LOOPI
