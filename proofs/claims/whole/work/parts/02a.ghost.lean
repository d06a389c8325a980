/-! The ghost heap: what the cells of a world hold, as a map from addresses -/
abbrev gH : Type := Nat → Option va_E
def gv (L : List Nat) (f : Nat → va_E) : gH := fun a => if a ∈ L then some (f a) else none
def gset (G : gH) (a : Nat) (e : va_E) : gH := fun j => if j = a then some e else G j
theorem gset_self (G : gH) (a : Nat) (e : va_E) : gset G a e a = some e := by simp [gset]
theorem gset_ne (G : gH) {a j : Nat} (e : va_E) (h : j ≠ a) : gset G a e j = G j := by simp [gset, h]
theorem gset_gset (G : gH) (a : Nat) (e e' : va_E) : gset (gset G a e) a e' = gset G a e' := by
  funext j
  by_cases h : j = a <;> simp [gset, h]
def gP (D : va_G) (cl : List vw_C) (A : Nat → Prop) (G : gH) (H : Heap) : Prop := ∃ (L : List Nat) (f : Nat → va_E), G = gv L f ∧ va_P D cl (va_pl L f) H ∧ va_D A (va_pl L f)
theorem gv_in {L : List Nat} {f : Nat → va_E} {a : Nat} {e : va_E} (h : gv L f a = some e) : a ∈ L ∧ f a = e := by
  unfold gv at h
  split at h
  · exact ⟨by assumption, Option.some.inj h⟩
  · cases h
theorem gv_out {L : List Nat} {f : Nat → va_E} {a : Nat} (h : a ∉ L) : gv L f a = none := by simp [gv, h]
theorem gv_up {L : List Nat} {f : Nat → va_E} {a : Nat} {e : va_E} (h : a ∈ L) : gv L (va_up f a e) = gset (gv L f) a e := by
  funext j
  by_cases hj : j = a
  · subst hj
    simp [gv, gset, va_up, h]
  · simp [gv, gset, va_up, hj]
theorem gv_push {L : List Nat} {f : Nat → va_E} {a : Nat} {e : va_E} : gv (L ++ [a]) (va_up f a e) = gset (gv L f) a e := by
  funext j
  by_cases hj : j = a
  · subst hj
    simp [gv, gset, va_up]
  · simp [gv, gset, va_up, hj]
theorem gP_get {D : va_G} {cl : List vw_C} {A : Nat → Prop} {G : gH} {H : Heap} {a : Nat} {e : va_E} (h : gP D cl A G H) (hg : G a = some e) : ∃ (L : List Nat) (f : Nat → va_E) (q : Nat), G = gv L f ∧ va_P D cl (va_pl L f) H ∧ va_D A (va_pl L f) ∧ a ∈ L ∧ f a = e ∧ (va_pl L f)[q]? = some (a, e) := by
  obtain ⟨L, f, rfl, hP, hD⟩ := h
  obtain ⟨h1, h2⟩ := gv_in hg
  subst h2
  obtain ⟨q, hq⟩ := va_pl_get (X := []) (f := f) h1
  exact ⟨L, f, q, rfl, hP, hD, h1, rfl, hq⟩
theorem gP_set {D : va_G} {cl : List vw_C} {A : Nat → Prop} {L : List Nat} {f : Nat → va_E} {H1 : Heap} {a q : Nat} {e' : va_E} (hL : a ∈ L) (hq : (va_pl L f)[q]? = some (a, f a)) (hD : va_D A (va_pl L f)) (hP1 : va_P D cl ((va_pl L f).set q (a, e')) H1) (hD1 : va_D A ((va_pl L f).set q (a, e'))) : gP D cl A (gset (gv L f) a e') H1 := by
  have hs : (va_pl L f).set q (a, e') = va_pl L (va_up f a e') := va_pl_set (X := []) (e := e') hD hL hq
  rw [hs] at hP1 hD1
  exact ⟨L, va_up f a e', (gv_up hL).symm, hP1, hD1⟩
theorem gP_push {D : va_G} {cl : List vw_C} {A : Nat → Prop} {L : List Nat} {f : Nat → va_E} {H1 : Heap} {q : Nat} {e : va_E} (hP1 : va_P D cl (va_pl L f ++ [(q, e)]) H1) (hD1 : va_D A (va_pl L f ++ [(q, e)])) : gv L f q = none ∧ gP D cl A (gset (gv L f) q e) H1 := by
  have hn : q ∉ L := by
    intro hq
    obtain ⟨i, hi⟩ := va_pl_get (X := []) (f := f) hq
    have hi' : (va_pl L f)[i]? = some (q, f q) := hi
    have hil : i < (va_pl L f).length := (List.getElem?_eq_some_iff.mp hi').1
    have h1 : (va_pl L f ++ [(q, e)])[i]? = some (q, f q) := by rw [List.getElem?_append_left hil]; exact hi'
    have h2 : (va_pl L f ++ [(q, e)])[(va_pl L f).length]? = some (q, e) := by simp
    have := hD1.1 i _ _ _ h1 h2 rfl
    omega
  refine ⟨gv_out hn, L ++ [q], va_up f q e, gv_push.symm, ?_, ?_⟩
  · rw [← va_pl_push hn]; exact hP1
  · rw [← va_pl_push hn]; exact hD1
theorem gP_weaken {D : va_G} {cl : List vw_C} {A B : Nat → Prop} {G : gH} {H : Heap} (h : gP D cl A G H) (hAB : ∀ a, (G a).isSome = true → A a → B a) : gP D cl B G H := by
  obtain ⟨L, f, rfl, hP, hD⟩ := h
  refine ⟨L, f, rfl, hP, hD.weaken (fun k q hk hA => hAB q.1 ?_ hA)⟩
  have hm : q ∈ va_pl L f := List.mem_of_getElem? hk
  obtain ⟨b, hb, rfl⟩ := List.mem_map.mp hm
  simp [gv, hb]
theorem gP_in {D : va_G} {cl : List vw_C} {A : Nat → Prop} {G : gH} {H : Heap} (h : gP D cl A G H) {a : Nat} (ha : (G a).isSome = true) : A a := by
  obtain ⟨e, he⟩ := Option.isSome_iff_exists.mp ha
  obtain ⟨L, f, q, rfl, hP, hD, -, -, hq⟩ := gP_get h he
  exact hD.2 q _ hq
theorem gP_lt {D : va_G} {cl : List vw_C} {A : Nat → Prop} {G : gH} {H : Heap} (h : gP D cl A G H) {a : Nat} (ha : (G a).isSome = true) : a < H.size := by
  obtain ⟨e, he⟩ := Option.isSome_iff_exists.mp ha
  obtain ⟨L, f, q, rfl, hP, hD, -, -, hq⟩ := gP_get h he
  exact (hP q _ hq).lt
/-- which cells a method may change: those of its world, and those that it makes -/
def gA (G : gH) (sz : Nat) : Nat → Prop := fun q => (G q).isSome = true ∨ sz ≤ q
/-! locals, by their numbers -/
def lg : List (Nat × Value) → Nat → Option Value
  | [], _ => none
  | (j, w) :: r, i => if j = i then some w else lg r i
def ldel : List (Nat × Value) → Nat → List (Nat × Value)
  | [], _ => []
  | (j, w) :: r, i => if j = i then ldel r i else if j + 1 = i then (if w.category = 2 then ldel r i else (j, w) :: ldel r i) else (j, w) :: ldel r i
def lset (lv : List (Nat × Value)) (i : Nat) (v : Value) : List (Nat × Value) := (i, v) :: ldel lv i
def lset2 (lv : List (Nat × Value)) (i : Nat) (v : Value) : List (Nat × Value) := (i, v) :: ldel (ldel lv (i + 1)) i
def lgs (lv : List (Nat × Value)) : List Nat → Option (List Value)
  | [] => some []
  | i :: r => match lg lv i, lgs lv r with
    | some v, some vs => some (v :: vs)
    | _, _ => none
theorem lg_mem : ∀ {lv : List (Nat × Value)} {i : Nat} {v : Value}, lg lv i = some v → (i, v) ∈ lv
  | [], i, v, h => by cases h
  | (j, w) :: r, i, v, h => by
    unfold lg at h
    split at h
    · rename_i e
      cases h
      rw [e]
      exact List.mem_cons_self
    · exact List.mem_cons_of_mem _ (lg_mem h)
theorem ldel_mem : ∀ {lv : List (Nat × Value)} {i : Nat} {q : Nat × Value}, q ∈ ldel lv i → q ∈ lv ∧ ¬ q.1 = i ∧ ¬ (q.1 + 1 = i ∧ q.2.category = 2)
  | [], i, q, h => by cases h
  | (j, w) :: r, i, q, h => by
    unfold ldel at h
    split at h
    · have := ldel_mem h
      exact ⟨List.mem_cons_of_mem _ this.1, this.2⟩
    · rename_i n1
      split at h
      · split at h
        · have := ldel_mem h
          exact ⟨List.mem_cons_of_mem _ this.1, this.2⟩
        · rename_i n2 n3
          rcases List.mem_cons.mp h with rfl | h
          · exact ⟨List.mem_cons_self, n1, fun z => n3 z.2⟩
          · have := ldel_mem h
            exact ⟨List.mem_cons_of_mem _ this.1, this.2⟩
      · rename_i n2
        rcases List.mem_cons.mp h with rfl | h
        · exact ⟨List.mem_cons_self, n1, fun z => n2 z.1⟩
        · have := ldel_mem h
          exact ⟨List.mem_cons_of_mem _ this.1, this.2⟩
theorem lv_mono {ls : Array Slot} {nL : Nat} {l l' : List (Nat × Value)} (h : lv_has ls nL l) (hs : ∀ q ∈ l', q ∈ l) : lv_has ls nL l' := ⟨h.1, h.2.1, fun q hq => h.2.2 q (hs q hq)⟩
theorem lset_in {lv : List (Nat × Value)} {i : Nat} {v : Value} : ∀ q ∈ lset lv i v, q ∈ (i, v) :: lv.filter (fun q => !(q.1 == i) && !(q.1 + 1 == i && q.2.category == 2)) := by
  intro q hq
  rcases List.mem_cons.mp hq with rfl | hq
  · exact List.mem_cons_self
  · obtain ⟨h1, h2, h3⟩ := ldel_mem hq
    refine List.mem_cons_of_mem _ (List.mem_filter.mpr ⟨h1, ?_⟩)
    by_cases z : q.1 + 1 = i
    · have z2 : ¬ q.2.category = 2 := fun y => h3 ⟨z, y⟩
      simp [h2, z, z2]
    · simp [h2, z]
theorem lset2_in {lv : List (Nat × Value)} {i : Nat} {v : Value} : ∀ q ∈ lset2 lv i v, q ∈ (i, v) :: lv.filter (fun q => !(q.1 == i) && (!(q.1 == i + 1) && !(q.1 + 1 == i && q.2.category == 2))) := by
  intro q hq
  rcases List.mem_cons.mp hq with rfl | hq
  · exact List.mem_cons_self
  · obtain ⟨h1, h2, h3⟩ := ldel_mem hq
    obtain ⟨h4, h5, -⟩ := ldel_mem h1
    refine List.mem_cons_of_mem _ (List.mem_filter.mpr ⟨h4, ?_⟩)
    by_cases z : q.1 + 1 = i
    · have z2 : ¬ q.2.category = 2 := fun y => h3 ⟨z, y⟩
      simp [h2, h5, z, z2]
    · simp [h2, h5, z]
theorem lgs_mem : ∀ {lv : List (Nat × Value)} {ks : List Nat} {vs : List Value}, lgs lv ks = some vs → ∀ q ∈ ks.zip vs, q ∈ lv
  | lv, [], vs, h, q, hq => by simp at hq
  | lv, i :: r, vs, h, q, hq => by
    unfold lgs at h
    split at h
    · rename_i v vs' e1 e2
      cases h
      simp only [List.zip_cons_cons, List.mem_cons] at hq
      rcases hq with rfl | hq
      · exact lg_mem e1
      · exact lgs_mem e2 q hq
    · cases h
/-! contracts that may throw -/
def FrameX (first : State) (t : State) (L : List Loc) (k n : Nat) : Prop := first.WarmedH t.vm ∧ first.sameButNew ({ t with vm := first.vm } : State) L k n
def MetX (l : Launch) (y : MethodName) (ws : List Cond) (rm : Room) (Pc : Array Value → State → Prop) (Qc : Array Value → State → Outcome → State → Prop) (mc ms : Nat) (free : Addr → Prop) : Prop :=
  MetFree l y (headSpec ws rm) Pc (fun _ _ _ _ _ => True) (fun a st o t => Qc a st o t ∧ ∃ L, FrameX st t L mc ms ∧ ∀ q ∈ L, free q.base)
def MQX (below : List Frame) (Qc : Array Value → State → Outcome → State → Prop) (a : Array Value) (s : State) (mc ms : Nat) (free : Addr → Prop) : State → Prop := fun t =>
  ∃ o, t.status = .running ∧ Ended t below o ∧ Qc a s o t ∧ ∃ L, FrameX s t L mc ms ∧ ∀ q ∈ L, free q.base
theorem MetX.toMet {l : Launch} {y : MethodName} {ws : List Cond} {rm : Room} {Pc : Array Value → State → Prop} {Qc : Array Value → State → Outcome → State → Prop} {mc ms : Nat} {free : Addr → Prop} (h : MetX l y ws rm Pc Qc mc ms free) (hr : ∀ a st o t, Qc a st o t → ∃ v, o = .returned v) : Met l y ws rm Pc Qc mc ms free := by
  intro p e h1 h2 h3 s m args below h4 h5 h6 h7
  obtain ⟨n, o, a1, a2, a3, a4, L, a5, a6⟩ := h p e h1 h2 h3 s m args below h4 h5 h6 h7
  exact ⟨n, o, a1, a2, a3, a4, L, ⟨hr _ _ _ _ a4, a5.1, a5.2⟩, a6⟩
theorem MetX.ofW {l : Launch} {y : MethodName} {ws ws' : List Cond} {rm : Room} {Pc : Array Value → State → Prop} {Qc : Array Value → State → Outcome → State → Prop} {mc ms : Nat} {free : Addr → Prop} {cc : ByteArray} {maxL : Nat} {ret : Option FieldType}
    (hy : plainName y.cls = true) (hw : ws = Cond.code y cc maxL ret :: ws')
    (body : ∀ p e s m args below meth c s₁, BodyLoose p l y (headSpec ws rm) cc maxL ret e s m args below meth c s₁ → c.maxLocals = maxL → Pc args s →
      W p l e (headSpec ws rm).room s m args below meth c s.heap [] 0 0 (MQX below Qc args s mc ms free) (entryFrame m args maxL)) : MetX l y ws rm Pc Qc mc ms free := by
  refine MetFree.of_bodyS (code := cc) (maxLocals := maxL) (ret := ret) hy ?_ ?_
  · intro args s m h hn
    obtain ⟨meth, c, h1, h2, h3, h4, h5, h6, -, -⟩ := Cond.code_spec hn (atoms_spec (ws := ws) h _ (by rw [hw]; exact List.mem_cons_self))
    exact ⟨meth, c, h1, h2, h3, h4, h5, h6⟩
  · intro p e s m args below meth c s₁ B hml hP _
    have hh0 : s₁.heap = s.heap := by rw [B.state]; rfl
    obtain ⟨t, a1, o, b1, b2, b3⟩ := body p e s m args below meth c s₁ B hml hP s₁ hh0 (Stand.of_body B)
    exact ⟨t, o, a1, b1, b2, ⟨b3.1, b3.2⟩⟩
theorem W_mono {p : Program} {l : Launch} {e : Env} {R : Room} {s : State} {m : MethodId} {args : Array Value} {below : List Frame} {meth : Method} {c : Code} {H : Heap} {locs : List Loc} {k n : Nat} {Q Q' : State → Prop} {g : JFrame} (h : W p l e R s m args below meth c H locs k n Q g) (hq : ∀ t, Q t → Q' t) : W p l e R s m args below meth c H locs k n Q' g := by
  intro T hT X
  obtain ⟨t, a, b⟩ := h T hT X
  exact ⟨t, a, hq t b⟩
theorem MQX_of {below : List Frame} {Qc : Array Value → State → Outcome → State → Prop} {a : Array Value} {s : State} {mc ms : Nat} {free : Addr → Prop} : ∀ t, MQ below Qc a s mc ms free t → MQX below Qc a s mc ms free t := by
  rintro t ⟨o, h1, h2, h3, L, h4, h5⟩
  exact ⟨o, h1, h2, h3, L, ⟨h4.2.1, h4.2.2⟩, h5⟩
