/-! the script -/
section LAWV
variable {p : Program} {l : Launch} {e : Env} {R : Room} {s : State} {m : MethodId} {args : Array Value} {below : List Frame} {meth : Method} {c : Code} {Q : State → Prop} {E : wE} {A : Nat → Prop} {own : String} {cc : ByteArray} {nL : Nat}
variable {fl : Nat → Option (Nat × Nat × FieldType × Bool)} {nw : Nat → Option (Nat × Nat × List Value)} {nq : Nat → Option ClassId} {oc : Option Nat} {cs : Nat → Option (Nat × Nat × Nat × Nat × CallT)} {hh : Nat → Nat → Option Nat} {ret : Option FieldType} {mc ms : Nat} {RP : Option Value → gH → Prop} {TP : Nat → gH → Prop}
variable {b L : Nat} {xs : Nat → Int32} {pc : Nat} {lv : List (Nat × Value)} {st : List Value} {G : gH} {k d : Nat}
theorem Vj_sld (X : Cx E own cc nL A p s m args meth c) (hSc : va_X b L xs s s.heap) (hbl : b < s.heap.size) (hbA : ¬ A b) (hd : decode cc pc = .ok (.iaload, 1)) {i : Int32} (hin : vp_in i L) (h : Vj E nL A Q p l e R s m args below meth c (pc + 1) lv (.int (xs i.toNatClampNeg) :: st) G k d) : Vj E nL A Q p l e R s m args below meth c pc lv (.int i :: .ref b :: st) G k d :=
  fun H locs ls hP hS hl => va_sld X.hx X.hb hSc hbl hbA hS hin hd (h H locs ls hP hS hl)
theorem Vj_slen (X : Cx E own cc nL A p s m args meth c) (hSc : va_X b L xs s s.heap) (hbl : b < s.heap.size) (hbA : ¬ A b) (hd : decode cc pc = .ok (.arraylength, 1)) (h : Vj E nL A Q p l e R s m args below meth c (pc + 1) lv (.int (Int32.ofNat L) :: st) G k d) : Vj E nL A Q p l e R s m args below meth c pc lv (.ref b :: st) G k d :=
  fun H locs ls hP hS hl => va_slen X.hx X.hb hSc hbl hbA hS hd (h H locs ls hP hS hl)
theorem Vj_ldc (X : Cx E own cc nL A p s m args meth c) {ix : Nat} {v : Int64} (hk : Cond.constantLong own ix v ∈ Tb) (hd : decode cc pc = .ok (.ldc2_w ix, 3)) (h : Vj E nL A Q p l e R s m args below meth c (pc + 3) lv (.long v :: st) G k d) : Vj E nL A Q p l e R s m args below meth c pc lv st G k d :=
  fun H locs ls hP hS hl => lv_ldc2 X.hx X.hb X.hown (X.hts _ hk) hd (h H locs ls hP hS hl)
theorem Vj_par (hH : WpH E own cc nL A Q p l e R s m args below meth c fl nw nq oc cs hh ret mc ms RP TP) (hSc : va_X b L xs s s.heap) (hbl : b < s.heap.size) (hbA : ¬ A b) (h0 : decode cc pc = .ok (.aload_n 0, 1)) (h1 : decode cc (pc + 1) = .ok (.iload 4, 2)) {z : Int} (h2 : decode cc (pc + 1 + 2) = .ok (.iconst z, 1)) (h3 : decode cc (pc + 1 + 2 + 1) = .ok (.iadd, 1)) (h4 : decode cc (pc + 1 + 2 + 1 + 1) = .ok (.iaload, 1))
    (l0 : lg lv 0 = some (.ref b)) {i j : Nat} (l4 : lg lv 4 = some (.int (nI i))) (hz : Int32.ofInt z = nI j) (hj : i + j < L) (hL : L ≤ 3072) (h : Vj E nL A Q p l e R s m args below meth c (pc + 6) lv (.int (xs (i + j)) :: st) G k d) : Vj E nL A Q p l e R s m args below meth c pc lv st G k d := by
  refine ws_aload_n (nx := Vj E nL A Q p l e R s m args below meth c) hH (fun _ _ _ _ _ _ h => h) h0 ?_
  rw [wI_aload_n, show ((0 : Fin 4).val) = 0 from rfl, l0]
  refine ws_iload (nx := Vj E nL A Q p l e R s m args below meth c) hH (fun _ _ _ _ _ _ h => h) h1 ?_
  rw [wI_iload, l4]
  refine ws_iconst (nx := Vj E nL A Q p l e R s m args below meth c) hH (fun _ _ _ _ _ _ h => h) h2 ?_
  rw [wI_iconst, hz]
  refine ws_iadd (nx := Vj E nL A Q p l e R s m args below meth c) hH (fun _ _ _ _ _ _ h => h) h3 ?_
  rw [wI_iadd, nI_add]
  refine Vj_sld hH.1 hSc hbl hbA h4 (vp_in_nI hj (by omega)) ?_
  rw [nI_clamp (by omega)]
  exact h
/-- the switch's word -/
theorem Vj_w0 (hH : WpH E own cc nL A Q p l e R s m args below meth c fl nw nq oc cs hh ret mc ms RP TP) (hSc : va_X b L xs s s.heap) (hbl : b < s.heap.size) (hbA : ¬ A b) (h0 : decode cc pc = .ok (.aload_n 0, 1)) (h1 : decode cc (pc + 1) = .ok (.iload 4, 2)) (h4 : decode cc (pc + 1 + 2) = .ok (.iaload, 1))
    (l0 : lg lv 0 = some (.ref b)) {i : Nat} (l4 : lg lv 4 = some (.int (nI i))) (hj : i < L) (hL : L ≤ 3072) (h : Vj E nL A Q p l e R s m args below meth c (pc + 4) lv (.int (xs i) :: st) G k d) : Vj E nL A Q p l e R s m args below meth c pc lv st G k d := by
  refine ws_aload_n (nx := Vj E nL A Q p l e R s m args below meth c) hH (fun _ _ _ _ _ _ h => h) h0 ?_
  rw [wI_aload_n, show ((0 : Fin 4).val) = 0 from rfl, l0]
  refine ws_iload (nx := Vj E nL A Q p l e R s m args below meth c) hH (fun _ _ _ _ _ _ h => h) h1 ?_
  rw [wI_iload, l4]
  refine Vj_sld hH.1 hSc hbl hbA h4 (vp_in_nI hj (by omega)) ?_
  rw [nI_clamp (by omega)]
  exact h
/-- the bytes of a sign -/
def byS (x y : Int32) : Int64 := (x.toInt64 <<< ((Int8.ofInt 32).toInt32.toInt64 &&& 63)) ||| (y.toInt64 &&& 4294967295)
theorem Vj_sgn (hH : WpH E own cc nL A Q p l e R s m args below meth c fl nw nq oc cs hh ret mc ms RP TP) (hSc : va_X b L xs s s.heap) (hbl : b < s.heap.size) (hbA : ¬ A b)
    (a0 : decode cc pc = .ok (.aload_n 0, 1)) (a1 : decode cc (pc + 1) = .ok (.iload 4, 2)) (a2 : decode cc (pc + 1 + 2) = .ok (.iconst 1, 1)) (a3 : decode cc (pc + 1 + 2 + 1) = .ok (.iadd, 1)) (a4 : decode cc (pc + 1 + 2 + 1 + 1) = .ok (.iaload, 1))
    (b0 : decode cc (pc + 6) = .ok (.i2l, 1)) (b1 : decode cc (pc + 6 + 1) = .ok (.bipush 32, 2)) (b2 : decode cc (pc + 6 + 1 + 2) = .ok (.lshl, 1))
    (c0 : decode cc (pc + 10) = .ok (.aload_n 0, 1)) (c1 : decode cc (pc + 10 + 1) = .ok (.iload 4, 2)) (c2 : decode cc (pc + 10 + 1 + 2) = .ok (.iconst 2, 1)) (c3 : decode cc (pc + 10 + 1 + 2 + 1) = .ok (.iadd, 1)) (c4 : decode cc (pc + 10 + 1 + 2 + 1 + 1) = .ok (.iaload, 1))
    (e0 : decode cc (pc + 16) = .ok (.i2l, 1)) (e1 : decode cc (pc + 16 + 1) = .ok (.ldc2_w 57, 3)) (hk : Cond.constantLong own 57 4294967295 ∈ Tb) (e2 : decode cc (pc + 16 + 1 + 3) = .ok (.land, 1)) (e3 : decode cc (pc + 16 + 1 + 3 + 1) = .ok (.lor, 1))
    (f0 : decode cc (pc + 22) = .ok (.aload_n 0, 1)) (f1 : decode cc (pc + 22 + 1) = .ok (.iload 4, 2)) (f2 : decode cc (pc + 22 + 1 + 2) = .ok (.iconst 3, 1)) (f3 : decode cc (pc + 22 + 1 + 2 + 1) = .ok (.iadd, 1)) (f4 : decode cc (pc + 22 + 1 + 2 + 1 + 1) = .ok (.iaload, 1))
    (l0 : lg lv 0 = some (.ref b)) {i : Nat} (l4 : lg lv 4 = some (.int (nI i))) (hj : i + 3 < L) (hL : L ≤ 3072) (h : Vj E nL A Q p l e R s m args below meth c (pc + 22 + 6) lv (.int (xs (i + 3)) :: .long (byS (xs (i + 1)) (xs (i + 2))) :: st) G k d) : Vj E nL A Q p l e R s m args below meth c pc lv st G k d := by
  refine Vj_par hH hSc hbl hbA a0 a1 a2 a3 a4 l0 l4 (j := 1) rfl (by omega) hL ?_
  refine ws_i2l (nx := Vj E nL A Q p l e R s m args below meth c) hH (fun _ _ _ _ _ _ h => h) b0 ?_
  rw [wI_i2l]
  refine ws_bipush (nx := Vj E nL A Q p l e R s m args below meth c) hH (fun _ _ _ _ _ _ h => h) b1 ?_
  rw [wI_bipush]
  refine ws_lshl (nx := Vj E nL A Q p l e R s m args below meth c) hH (fun _ _ _ _ _ _ h => h) b2 ?_
  rw [wI_lshl]
  refine Vj_par hH hSc hbl hbA c0 c1 c2 c3 c4 l0 l4 (j := 2) rfl (by omega) hL ?_
  refine ws_i2l (nx := Vj E nL A Q p l e R s m args below meth c) hH (fun _ _ _ _ _ _ h => h) e0 ?_
  rw [wI_i2l]
  refine Vj_ldc hH.1 hk e1 ?_
  refine ws_land (nx := Vj E nL A Q p l e R s m args below meth c) hH (fun _ _ _ _ _ _ h => h) e2 ?_
  rw [wI_land]
  refine ws_lor (nx := Vj E nL A Q p l e R s m args below meth c) hH (fun _ _ _ _ _ _ h => h) e3 ?_
  rw [wI_lor]
  exact Vj_par hH hSc hbl hbA f0 f1 f2 f3 f4 l0 l4 (j := 3) rfl (by omega) hL h
end LAWV
theorem RepM.frame {M : Nat → Nat} {E : wE} {σ : St0} {th : Int32} {G G1 : gH} (h : RepM M E σ th G) (hf : ∀ k, k < 20 → G1 (M k) = G (M k)) : RepM M E σ th G1 := by
  obtain ⟨S, B, ⟨h1, h2, h3⟩, hs, ht⟩ := h
  exact ⟨S, B, ⟨(hf 0 (by omega)).trans h1, fun k a1 a2 => (hf k a2).trans (h2 k a1 a2), h3⟩, hs, ht⟩
theorem RepM.cell {M : Nat → Nat} {E : wE} {σ : St0} {th : Int32} {G : gH} (h : RepM M E σ th G) {k : Nat} (hk : k < 20) : ∃ X, G (M k) = some X ∧ ∀ fs, ¬ X = .inr (5, fs) := by
  obtain ⟨S, B, ⟨h1, h2, h3⟩, hs, ht⟩ := h
  by_cases h0 : k = 0
  · subst h0
    exact ⟨_, h1, fun fs z => by cases z⟩
  · exact ⟨_, h2 k (by omega) hk, fun fs z => by cases z⟩
/-- both objects, apart -/
def lwP (B : aX) (M : Nat → Nat) (q : Nat) : Prop := ¬ B.own q ∧ (∀ k, k < 20 → ¬ B.own (M k)) ∧ ∀ k, k < 20 → M k ≠ q
theorem RepM.afterL {B : aX} {M : Nat → Nat} {q : Nat} {E : wE} {σ : St0} {th : Int32} {G G1 : gH} (h : RepM M E σ th G) (hp : lwP B M q) (hf : FrL B q G G1) : RepM M E σ th G1 := by
  refine h.frame (fun k hk => hf _ (hp.2.1 k hk) (hp.2.2 k hk) ?_)
  obtain ⟨X, hX, -⟩ := h.cell hk
  rw [hX]
  rfl
theorem RepX.afterM {B : aX} {M : Nat → Nat} {q : Nat} {E : wE} {σ σ' : St0} {th : Int32} {G G1 : gH} (h : RepX B E σ G) (hm : RepM M E σ' th G) (hp : lwP B M q) (hf : FrM M G G1) : RepX B E σ G1 := by
  refine h.frame (fun a ha => hf a (fun k hk z => ?_)) (fun a fs ha => hf a (fun k hk z => ?_))
  · exact hp.2.1 k hk (by rw [← z]; exact ha)
  · obtain ⟨X, hX, hn⟩ := hm.cell hk
    rw [← z, ha] at hX
    cases hX
    exact hn fs rfl
theorem lcmp0 (x : Int64) : lg_cmp x x = 0 := by
  unfold lg_cmp
  simp
