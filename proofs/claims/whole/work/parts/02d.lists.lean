/-! tables as lists -/
def lk {β : Type} : List (Nat × β) → Nat → Option β
  | [], _ => none
  | (j, b) :: r, i => if j = i then some b else lk r i
theorem lk_nil {β : Type} (i : Nat) : lk ([] : List (Nat × β)) i = none := rfl
theorem lk_cons {β : Type} (j : Nat) (b : β) (r : List (Nat × β)) (i : Nat) : lk ((j, b) :: r) i = if j = i then some b else lk r i := rfl
theorem lk_mem {β : Type} : ∀ {L : List (Nat × β)} {i : Nat} {b : β}, lk L i = some b → (i, b) ∈ L
  | [], i, b, h => by cases h
  | (j, x) :: r, i, b, h => by
    unfold lk at h
    split at h
    · rename_i e
      cases h
      rw [e]
      exact List.mem_cons_self
    · exact List.mem_cons_of_mem _ (lk_mem h)
def AllL {α : Type} (P : α → Prop) : List α → Prop
  | [] => True
  | a :: r => P a ∧ AllL P r
theorem AllL.mem {α : Type} {P : α → Prop} : ∀ {L : List α}, AllL P L → ∀ a ∈ L, P a
  | [], _, a, h => by cases h
  | b :: r, hA, a, h => by
    rcases List.mem_cons.mp h with rfl | h
    · exact hA.1
    · exact AllL.mem hA.2 a h
theorem wpH_of {p : Program} {l : Launch} {e : Env} {R : Room} {s : State} {m : MethodId} {args : Array Value} {below : List Frame} {meth : Method} {c : Code} {Q : State → Prop} {E : wE} {A : Nat → Prop} {own : String} {cc : ByteArray} {nL : Nat} {ret : Option FieldType} {mc ms : Nat} {RP : Option Value → gH → Prop} {TP : Nat → gH → Prop}
    (hR : RtH l E own cc nL A Q p e R s m args below meth c ret mc ms RP TP) (hRc : R.cells = mc) (hRs : R.slots = ms)
    (flL : List (Nat × (Nat × Nat × FieldType × Bool))) (hfl : AllL (fun q : Nat × (Nat × Nat × FieldType × Bool) => fOK own q.1 q.2.1 q.2.2.1 q.2.2.2.1 q.2.2.2.2) flL)
    (oc : Option Nat) (hF : ∀ ci, oc = some ci → meth.name = "<init>" ∧ AllL (fun q : Nat × (Nat × Nat × FieldType × Bool) => q.2.1 = ci → q.2.2.2.2 = true → fOKF own q.1 q.2.1 q.2.2.1 q.2.2.2.1) flL)
    (nwL : List (Nat × (Nat × Nat × List Value))) (hnw : AllL (fun q : Nat × (Nat × Nat × List Value) => nOK own q.1 q.2.1 q.2.2.1 q.2.2.2) nwL)
    (nqL : List (Nat × ClassId)) (hnq : AllL (fun q : Nat × ClassId => aOK E own q.1 q.2) nqL)
    (h1 : Cond.arrayClass .int ∈ Tb) (h2 : Cond.arrayClass .long ∈ Tb)
    (csL : List (Nat × (Nat × Nat × Nat × Nat × CallT))) (hcs : AllL (fun q : Nat × (Nat × Nat × Nat × Nat × CallT) => CallOK E nL A Q p l e R s m args below meth c cc q.1 q.2.1 q.2.2.1 q.2.2.2.1 q.2.2.2.2.1 q.2.2.2.2.2) csL) :
    WpH E own cc nL A Q p l e R s m args below meth c (lk flL) (lk nwL) (lk nqL) oc (lk csL) (fun _ _ => none) ret mc ms RP TP := by
  obtain ⟨X, r1, r2, r3⟩ := hR
  refine ⟨X, hRc, hRs, ?_, ?_, ?_, ?_, h1, h2, ?_, ?_, ?_, ?_, ?_⟩
  · intro ix ci kf ty fin h
    exact hfl.mem _ (lk_mem h)
  · intro ix ci kf ty h0 h
    obtain ⟨a1, a2⟩ := hF ci h0
    exact ⟨a1, a2.mem _ (lk_mem h) rfl rfl⟩
  · intro ix ci N dfl h
    exact hnw.mem _ (lk_mem h)
  · intro ix cA h
    exact hnq.mem _ (lk_mem h)
  · intro ix kd na mc1 ms1 ct h
    exact hcs.mem _ (lk_mem h)
  · intro pc x h h0
    cases h0
  · intro pc x _ lv G k d a1 a2 a3
    exact r1 pc x lv G k d a1 a2 a3
  · intro pc lv v ty G k d a1 a2 a3 a4 a5 a6
    exact r2 a1 a2 a3 a4 a5 a6
  · intro pc lv G k d a1 a2 a3 a4 a5
    exact r3 a1 a2 a3 a4 a5
def wpX (cc : ByteArray) (cut : CutT) (nL : Nat) (E : wE) (fl : Nat → Option (Nat × Nat × FieldType × Bool)) (nw : Nat → Option (Nat × Nat × List Value)) (nq : Nat → Option ClassId) (oc : Option Nat) (cs : Nat → Option (Nat × Nat × Nat × Nat × CallT)) (hh : Nat → Nat → Option Nat) (ret : Option FieldType) (mc ms : Nat) (RP : Option Value → gH → Prop) (TP : Nat → gH → Prop) (n : Nat) (o : Option (List Nat × (List Value → List Value → gH → Nat → Nat → Prop))) (q : Option (Instr × Nat)) (pc : Nat) (lv : List (Nat × Value)) (st : List Value) (G : gH) (k d : Nat) : Prop :=
  match o with
  | some (ks, K) => (match lgs lv ks with | some vs => K vs st G k d | none => False)
  | none => (match q with | some (i, len) => wpI nL E fl nw nq oc cs hh ret mc ms RP TP (wp cc cut nL E fl nw nq oc cs hh ret mc ms RP TP n) i len pc lv st G k d | none => False)
section WPX
variable {cc : ByteArray} {cut : CutT} {nL : Nat} {E : wE} {fl : Nat → Option (Nat × Nat × FieldType × Bool)} {nw : Nat → Option (Nat × Nat × List Value)} {nq : Nat → Option ClassId} {oc : Option Nat} {cs : Nat → Option (Nat × Nat × Nat × Nat × CallT)} {hh : Nat → Nat → Option Nat} {ret : Option FieldType} {mc ms : Nat} {RP : Option Value → gH → Prop} {TP : Nat → gH → Prop} {n pc : Nat} {lv : List (Nat × Value)} {st : List Value} {G : gH} {k d : Nat}
theorem wp_s : wp cc cut nL E fl nw nq oc cs hh ret mc ms RP TP (n + 1) pc lv st G k d = wpX cc cut nL E fl nw nq oc cs hh ret mc ms RP TP n (cut pc) (decode cc pc).toOption pc lv st G k d := by
  unfold wp wpX
  cases cut pc with
  | some q => rfl
  | none =>
    cases decode cc pc with
    | ok q => rfl
    | error e => rfl
theorem wp1_s : wp1 cc cut nL E fl nw nq oc cs hh ret mc ms RP TP n pc lv st G k d = wpX cc cut nL E fl nw nq oc cs hh ret mc ms RP TP n none (decode cc pc).toOption pc lv st G k d := by
  unfold wp1 wpX
  cases decode cc pc with
  | ok q => rfl
  | error e => rfl
theorem wpX_i {q : Instr × Nat} : wpX cc cut nL E fl nw nq oc cs hh ret mc ms RP TP n none (some q) pc lv st G k d = wpI nL E fl nw nq oc cs hh ret mc ms RP TP (wp cc cut nL E fl nw nq oc cs hh ret mc ms RP TP n) q.1 q.2 pc lv st G k d := rfl
theorem wpX_c {ks : List Nat} {K : List Value → List Value → gH → Nat → Nat → Prop} {q : Option (Instr × Nat)} : wpX cc cut nL E fl nw nq oc cs hh ret mc ms RP TP n (some (ks, K)) q pc lv st G k d = (match lgs lv ks with | some vs => K vs st G k d | none => False) := rfl
end WPX
theorem toOpt_ok {ε α : Type} (a : α) : (Except.ok a : Except ε α).toOption = some a := rfl
theorem cast0 : ((0 : Nat) : Int) = 0 := rfl
theorem cast1 : ((1 : Nat) : Int) = 1 := rfl
