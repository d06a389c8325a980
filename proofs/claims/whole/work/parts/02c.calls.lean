/-! contracts over the ghost heap -/
def rmL (lvl mc ms : Nat) : Room := { frames := lvl, cells := mc, slots := ms, locals := 30 * lvl + 20 }
def PG (E : wE) (av : List Value) (G : gH) (sz : Nat) : Array Value → State → Prop := va_Pc av (fun U => U.heap.size = sz ∧ gP (E.1, E.2.1) classes (fun _ => True) G U.heap ∧ va_K (E.1, E.2.1) classes (tysOf E) U ∧ (∀ w ∈ Nb, va_Nw w U) ∧ Ev (gA G sz) U)
def QG (E : wE) (A1 : Nat → Prop) (RP : Option Value → gH → Prop) (TP : Nat → gH → Prop) : Array Value → State → Outcome → State → Prop := fun _ st o t => va_F A1 st t ∧ ((∃ v G1, o = .returned v ∧ RP v G1 ∧ gP (E.1, E.2.1) classes A1 G1 t.heap) ∨ (∃ x kd G1, o = .threw x ∧ TP kd G1 ∧ gP (E.1, E.2.1) classes A1 G1 t.heap ∧ ExAt kd x t t.heap))
def Con (l : Launch) (y : MethodName) (bytes : ByteArray) (maxL : Nat) (ret : Option FieldType) (lvl mc ms : Nat) (ct : wE → CallT) : Prop :=
  ∀ (E : wE) (av : List Value) (G : gH) (sz : Nat) (RP : Option Value → gH → Prop) (TP : Nat → gH → Prop), ct E av G RP TP → MetX l y (Cond.code y bytes maxL ret :: Tb) (rmL lvl mc ms) (PG E av G sz) (QG E (gA G sz) RP TP) mc ms (gA G sz)
theorem Tb_good : ∀ w ∈ Tb, (w.onTables && w.keeps) = true ∨ ∃ ty, w = .arrayClass ty := fun w hw => good_of_word (List.mem_filter.mp hw).2
theorem Nb_warm {s U : State} (hW : s.WarmedH U.vm) (h : ∀ w ∈ Nb, va_Nw w s) : ∀ w ∈ Nb, va_Nw w U := by
  intro w hw
  have hk : isNote w = true := (List.mem_filter.mp hw).2
  have h0 := h w hw
  cases w with
  | fieldLinkNest a i b n d h => exact va_Nw.warmF hW h0
  | methodLinkNest a i x h => exact va_Nw.warmM hW h0
  | arrayOver ty =>
    cases ty with
    | object C => exact va_AO.moved (C := C) hW.alike h0
    | _ => simp [isNote] at hk
  | castable a b => exact va_Nw.warmC hW h0
  | declares x => exact va_Nw.warmD hW h0
  | _ => simp [isNote] at hk
section RUNX
variable {p : Program} {l : Launch} {e : Env} {R : Room} {s : State} {m : MethodId} {args : Array Value} {below : List Frame} {meth : Method} {c : Code} {T : State} {locs : List Loc} {cells slots : Nat}
theorem runX (X : Stand p l e R s m args below meth c T locs cells slots) {y : MethodName} {bytes : ByteArray} {maxL : Nat} {ret : Option FieldType} {rm : Room} {Pc : Array Value → State → Prop} {Qc : Array Value → State → Outcome → State → Prop} {mc ms : Nat} {free : Addr → Prop}
    (hM : MetX l y (Cond.code y bytes maxL ret :: Tb) rm Pc Qc mc ms free) {g : JFrame} (hg : g.method = m) (hsize : g.locals.size = c.maxLocals) {ig : Instr} (hdg : decode c.code g.pc = .ok (ig, 3)) {mk : MethodId} (hn : T.methodNamed? y = some mk) (a : Array Value)
    (hrc : rm.cells = mc) (hrs : rm.slots = ms) (hfr : rm.frames + 1 ≤ R.frames) (hlo : 2 * g.monitorRoom + (g.stack.map fun v => v.category).sum + (maxL + 11) + rm.locals ≤ R.locals) (hcells : cells + mc ≤ R.cells) (hslots : slots + ms ≤ R.slots)
    (hws : ∀ w ∈ Cond.code y bytes maxL ret :: Tb, w.before a T = true) (hini : (Cond.initialized y.cls).before a T = true) (hP : Pc a (T.calling g mk a)) :
    ∃ (o : Outcome) (t T' : State) (L : List Loc), Stand p l e R s m args below meth c T' (locs ++ L) (cells + mc) (slots + ms) ∧ (∀ q ∈ L, free q.base) ∧ T'.heap = t.heap ∧ T'.vm = t.vm ∧ Qc a (T.calling g mk a) o t ∧
      ((∃ v, o = .returned v ∧ Steps p.tables e below (doInvoke e (T.setTop g) [] mk a).1 (T'.setTop { g with pc := g.pc + 3, stack := v.toList ++ g.stack })) ∨
       (∃ x, o = .threw x ∧ Steps p.tables e below (doInvoke e (T.setTop g) [] mk a).1 ((T'.setTop g).pushFrame (.throwing x)))) := by
  obtain ⟨methY, cY, hmY, hcY, -, hlY, -, -, -, -⟩ := Cond.code_spec hn (hws _ List.mem_cons_self)
  obtain ⟨kY, hkY, -⟩ := className_of_methodNamed hn
  have hinitY : kY.init = .initialized := Cond.initialized_spec (findClass_of_methodNamed hn) hkY hini
  have h : At T g.method c below := by rw [hg]; exact X.here
  have happ : (headSpec (Cond.code y bytes maxL ret :: Tb) rm).appliesLoose y e.platform (T.calling g mk a) = true :=
    Spec.appliesLoose_calling (g := g) h hdg hn hkY hinitY
      (X.room_calling (g := g) (R' := rm) hsize hmY hcY hfr (by rw [hlY]; omega) (by rw [hrc]; exact hcells) (by rw [hrs]; exact hslots)) (atoms_intro hws)
  obtain ⟨mid, hmid⟩ := h.above
  have hfrm : (T.setTop g).frames = (.java g :: mid) ++ below := by rw [State.frames_setTop' g h.top, hmid]; rfl
  obtain ⟨o, s₂, hsteps, -, hend, hq, L, ⟨hW, hsame⟩, hL⟩ := Steps.callFree hM p X.admits X.cas X.clock (acts := []) hfrm happ hP trivial
  rw [State.frames_setTop' g h.top, X.tail] at hend
  cases o with
  | returned v =>
    obtain ⟨T', X', hW', hB, e1⟩ := X.outOf hg hdg hend hW hsame
    refine ⟨.returned v, s₂, T', L, X', hL, ?_, ?_, hq, Or.inl ⟨v, rfl, ?_⟩⟩
    · rw [e1]; rfl
    · rw [e1]; rfl
    · rw [← e1]; exact hsteps
  | threw x =>
    obtain ⟨T', X', hW', hB, e1⟩ := X.outOfThrown hg hend hW hsame
    refine ⟨.threw x, s₂, T', L, X', hL, ?_, ?_, hq, Or.inr ⟨x, rfl, ?_⟩⟩
    · rw [e1, Stand.throwing_heap]
    · rw [e1, Stand.throwing_vm]
    · rw [← e1]; exact hsteps
end RUNX
section CALLS
variable {p : Program} {l : Launch} {e : Env} {R : Room} {s : State} {m : MethodId} {args : Array Value} {below : List Frame} {meth : Method} {c : Code} {Q : State → Prop} {E : wE} {A : Nat → Prop} {own : String} {cc : ByteArray} {nL : Nat}
theorem callCore {y : MethodName} {bytes : ByteArray} {maxL : Nat} {ret : Option FieldType} {lvl mc1 ms1 : Nat} {ct : wE → CallT} (X : Cx E own cc nL A p s m args meth c) (hC : Con l y bytes maxL ret lvl mc1 ms1 ct)
    (hcode : Cond.code y bytes maxL ret ∈ Tb) (hini : Cond.initialized y.cls ∈ Tb) (hRf : lvl + 1 ≤ R.frames) (hRl : 39 + maxL + 30 * lvl ≤ R.locals)
    {pc : Nat} {lv : List (Nat × Value)} {As rest st : List Value} {G : gH} {k d : Nat} {i : Instr} (hd : decode cc pc = .ok (i, 3)) (hcs : csum rest ≤ 8) (hk : k + mc1 ≤ R.cells) (hdd : d + ms1 ≤ R.slots)
    {KR : Option Value → gH → Prop} {KT : Nat → gH → Prop} (hct : ct E As G KR KT) (hKR : ∀ v G1, KR v G1 → Vj E nL A Q p l e R s m args below meth c (pc + 3) lv (v.toList ++ rest) G1 (k + mc1) (d + ms1))
    (hKT : ∀ x G1, KT x G1 → Vt E nL A Q p l e R s m args below meth c x pc lv G1 (k + mc1) (d + ms1))
    {H : Heap} {locs : List Loc} {ls : Array Slot} (hP : gP (E.1, E.2.1) classes A G H) (hS : va_S A s.heap H locs) (hl : lv_has ls nL lv) {T : State} (hT : T.heap = H)
    {vm₁ : Vm} (X₁ : Stand p l e R s m args below meth c (T.setVm vm₁) locs k d) {mk : MethodId} (hnamed : s.methodNamed? y = some mk)
    (hstep : ∀ target, (∀ acts, Steps p.tables e below (doInvoke e ((T.setVm vm₁).setTop (F0 m pc ls rest)) acts mk As.toArray).1 target) → Steps p.tables e below (T.setTop (F0 m pc ls st)) target) :
    ∃ t, Steps p.tables e below (T.setTop (F0 m pc ls st)) t ∧ Q t := by
  have hW1 : s.WarmedH (T.setVm vm₁).vm := X₁.warmed
  have hgA : ∀ q, gA G H.size q → A q := by
    intro q hq
    rcases hq with hq | hq
    · exact gP_in hP hq
    · exact X.hA q (Nat.le_trans hS.1 hq)
  obtain ⟨o, t, T', L, X', hL, e1, e2, ⟨⟨f1, f2⟩, hq⟩, hst⟩ := runX X₁ (hC E As G H.size KR KT hct) (g := F0 m pc ls rest) rfl (by show ls.size = _; rw [hl.1, X.hml]) (by rw [X.hb]; exact hd) (X₁.named hnamed) As.toArray rfl rfl hRf
    (by show 2 * 0 + (rest.map fun v => v.category).sum + (maxL + 11) + (30 * lvl + 20) ≤ _; rw [← csum_eq]; omega) hk hdd
    (fun w hw => by
      have hw' : w ∈ Tb := by
        rcases List.mem_cons.mp hw with rfl | h
        · exact hcode
        · exact h
      exact word_at hW1 (Tb_good w hw') (X.hts w hw'))
    (word_at hW1 (Tb_good _ hini) (X.hts _ hini))
    ⟨rfl, by show T.heap.size = _; rw [hT], gP_weaken (A := A) (by show gP _ _ _ _ T.heap; rw [hT]; exact hP) (fun _ _ _ => trivial), va_K.moved hW1.alike X.hK, Nb_warm hW1 X.hnw,
      Ev_step X.hev hW1 (by show s.heap.size ≤ T.heap.size; rw [hT]; exact hS.1) (fun a h1 h2 => by show T.heap[a]? = _; rw [hT]; exact hS.2.1 a h1 h2) hgA⟩
  have f1' : H.size ≤ t.heap.size := by
    have : T.heap.size ≤ t.heap.size := f1
    rw [hT] at this
    exact this
  have f2' : ∀ q : Nat, q < H.size → ¬ gA G H.size q → t.heap[q]? = H[q]? := by
    intro q h1 h2
    have : t.heap[q]? = T.heap[q]? := f2 q (by show q < T.heap.size; rw [hT]; exact h1) h2
    rw [this, hT]
  have hS1 : va_S A s.heap t.heap (locs ++ L) := by
    refine ⟨Nat.le_trans hS.1 f1', fun q h1 h2 => ?_, fun q hq => ?_⟩
    · rw [f2' q (Nat.lt_of_lt_of_le h1 hS.1) (fun z => h2 (hgA q z))]
      exact hS.2.1 q h1 h2
    · rcases List.mem_append.mp hq with h | h
      · exact hS.2.2 q h
      · exact hgA _ (hL q h)
  rcases hq with ⟨v, G1, rfl, hr, hg⟩ | ⟨x, kd, G1, rfl, hr, hg, hex⟩
  · rcases hst with ⟨v', ev, hst⟩ | ⟨x', ev, hst⟩
    · cases ev
      obtain ⟨t2, a1, b1⟩ := hKR v G1 hr t.heap (locs ++ L) ls (gP_weaken hg (fun a _ z => hgA a z)) hS1 hl T' e1 X'
      exact ⟨t2, hstep t2 (fun acts => by rw [doInvoke_state]; exact hst.trans a1), b1⟩
    · cases ev
  · rcases hst with ⟨v', ev, hst⟩ | ⟨x', ev, hst⟩
    · cases ev
    · cases ev
      have hex' : ExAt kd x s t.heap := by
        obtain ⟨cell, h1, h2, h3⟩ := hex
        refine ⟨cell, h1, h2, ?_⟩
        have hal : s.vm.Alike t.vm := by rw [← e2]; exact X'.warmed.alike
        rw [← hal.findClass]
        exact h3
      obtain ⟨t2, a1, b1⟩ := hKT kd G1 hr t.heap (locs ++ L) ls x rest (gP_weaken hg (fun a _ z => hgA a z)) hS1 hl hex' T' e1 X'
      exact ⟨t2, hstep t2 (fun acts => by rw [doInvoke_state]; exact hst.trans a1), b1⟩
def descN (y : MethodName) (n : Nat) : Prop := y.cls ≠ "java/lang/invoke/MethodHandle" ∧ y.cls ≠ "java/lang/invoke/VarHandle" ∧ (parseMethodDescriptor y.desc).map (fun d => d.parameters.length) = some n
theorem descN.len {y : MethodName} {n : Nat} (h : descN y n) : ∀ sig, parseMethodDescriptor y.desc = some sig → n = sig.parameters.length := by
  intro sig hs
  have h2 := h.2.2
  rw [hs] at h2
  exact (Option.some.inj h2).symm
/-- a static method: of its own class, or a private one of a nest mate -/
theorem callS_ok {y : MethodName} {bytes : ByteArray} {maxL : Nat} {ret : Option FieldType} {lvl na mc1 ms1 ix : Nat} {ct : wE → CallT} (X : Cx E own cc nL A p s m args meth c) (hC : Con l y bytes maxL ret lvl mc1 ms1 ct)
    (hcode : Cond.code y bytes maxL ret ∈ Tb) (hini : Cond.initialized y.cls ∈ Tb) (hst : Cond.static y ∈ Tb) (hlk : Cond.methodLink own ix y ∈ Tb ∨ ∃ host, Cond.methodLinkNest own ix y host ∈ Nb) (hdn : descN y na) (hlen : ∀ E As G KR KT, ct E As G KR KT → As.length = na)
    (hRf : lvl + 1 ≤ R.frames) (hRl : 39 + maxL + 30 * lvl ≤ R.locals) : CallOK E nL A Q p l e R s m args below meth c cc ix 0 na mc1 ms1 (ct E) := by
  intro pc lv st G k d hd hcs hk hdd KR KT hct hKR hKT H locs ls hP hS hl T hT X0
  have hal : (st.take na).reverse.length = na := hlen _ _ _ _ _ hct
  have hst0 : (F0 m pc ls st).stack = (st.take na).reverse.reverse ++ st.drop na := by rw [List.reverse_reverse, List.take_append_drop]
  have hcode' := X.hts _ hcode
  obtain ⟨mk, hnamed⟩ := Cond.code_named hcode'
  obtain ⟨methM, cM, hmethM, -, -, -, -, -, -, hsigM⟩ := Cond.code_spec hnamed hcode'
  have hstatic : methM.isStatic = true := Cond.static_spec hnamed hmethM (X.hts _ hst)
  obtain ⟨kP, hkP, -⟩ := className_of_methodNamed hnamed
  have hinitP : kP.init = .initialized := Cond.initialized_spec (findClass_of_methodNamed hnamed) hkP (X.hts _ hini)
  rcases hlk with hlk | ⟨host, hlk⟩
  · obtain ⟨vm₁, X₁, hstep₁⟩ := X0.invokestatic X.hx X.hown (X.hts _ hlk) hnamed hmethM hstatic hkP hinitP ⟨hdn.1, hdn.2.1⟩ (g := F0 m pc ls st) rfl (argsL := (st.take na).reverse) (rest := st.drop na) (hal.trans (hdn.len _ hsigM)) hst0 (by rw [X.hb]; exact hd)
    exact callCore X hC hcode hini hRf hRl hd hcs hk hdd hct hKR hKT hP hS hl hT X₁ hnamed hstep₁
  · obtain ⟨vm₁, X₁, hstep₁⟩ := X0.invokestaticNest X.hx X.hown (va_Nw.use rfl (X.hnw _ hlk)) hnamed hmethM hstatic hkP hinitP ⟨hdn.1, hdn.2.1⟩ (g := F0 m pc ls st) rfl (argsL := (st.take na).reverse) (rest := st.drop na) (hal.trans (hdn.len _ hsigM)) hst0 (by rw [X.hb]; exact hd)
    exact callCore X hC hcode hini hRf hRl hd hcs hk hdd hct hKR hKT hP hS hl hT X₁ hnamed hstep₁
theorem st_split {st As : List Value} {na a : Nat} (h : (st.take na).reverse = .ref a :: As) : st = As.reverse ++ .ref a :: st.drop na := by
  have h1 : st.take na = As.reverse ++ [.ref a] := by
    have := congrArg List.reverse h
    simpa using this
  conv => lhs; rw [← List.take_append_drop na st, h1]
  simp
/-- a method of an object, of its own class or another -/
theorem callV_ok {y : MethodName} {bytes : ByteArray} {maxL : Nat} {ret : Option FieldType} {lvl na mc1 ms1 ix ci : Nat} {ct : wE → CallT} {T0 : u_T} {N0 : Nat} (X : Cx E own cc nL A p s m args meth c) (hC : Con l y bytes maxL ret lvl mc1 ms1 ct)
    (hcode : Cond.code y bytes maxL ret ∈ Tb) (hini : Cond.initialized y.cls ∈ Tb) (hin : Cond.instanceMethod y ∈ Tb) (hse : Cond.selects y.cls y y ∈ Tb) (hlk : Cond.methodLink own ix y ∈ Tb ∨ ∃ host, Cond.methodLinkNest own ix y host ∈ Nb) (hdn : descN y na)
    (hcl : classes[ci]? = some (y.cls, T0, N0)) (hpre : ∀ E As G KR KT, ct E As G KR KT → ∃ a As' fs, As = .ref a :: As' ∧ As'.length = na ∧ G a = some (.inr (ci, fs)))
    (hRf : lvl + 1 ≤ R.frames) (hRl : 39 + maxL + 30 * lvl ≤ R.locals) : CallOK E nL A Q p l e R s m args below meth c cc ix 2 (na + 1) mc1 ms1 (ct E) := by
  intro pc lv st G k d hd hcs hk hdd KR KT hct hKR hKT H locs ls hP hS hl T hT X0
  obtain ⟨a, As', fs, hAs, hal, hga⟩ := hpre _ _ _ _ _ hct
  have hst0 : (F0 m pc ls st).stack = As'.reverse ++ .ref a :: st.drop (na + 1) := st_split hAs
  have hcode' := X.hts _ hcode
  obtain ⟨mk, methM, hnamed, hmethM, hstM, habM⟩ := Cond.instanceMethod_spec (X.hts _ hin)
  obtain ⟨methM', cM, hmethM', -, -, -, -, -, -, hsigM⟩ := Cond.code_spec hnamed hcode'
  cases hmethM.symm.trans hmethM'
  obtain ⟨L, f, q, rfl, hP1, hD1, -, -, hq⟩ := gP_get hP hga
  obtain ⟨cellB, hcB, hoB, hclB⟩ := va_recv X.hK hP1 hcl hq
  obtain ⟨c2, r2, m2, q1, q2, q3, q4, kP, hkP, hkPi⟩ := Cond.selects_spec (X.hts _ hse)
  cases hclB.symm.trans q1
  cases (State.methodFound?_of_named hnamed ⟨hdn.1, hdn.2.1⟩).symm.trans q2
  cases hnamed.symm.trans q3
  have hselP : selectMethod e.platform s.vm cellB.cls mk = .method mk := by rw [Launch.admits_selectMethod X0.admits]; exact q4
  have hcB' : T.heap[a]? = some cellB := by rw [hT]; exact hcB
  rw [hAs] at hct
  rcases hlk with hlk | ⟨host, hlk⟩
  · obtain ⟨vm₁, X₁, hstep₁⟩ := X0.invokevirtual X.hx X.hown (X.hts _ hlk) hnamed hmethM hstM hkP hkPi ⟨hdn.1, hdn.2.1⟩ (a := a) (cell := cellB) hcB'
      (fun z h => by rw [h] at hoB; cases hoB) hselP hmethM habM hkP hkPi (g := F0 m pc ls st) rfl (argsL := As') (rest := st.drop (na + 1)) (hal.trans (hdn.len _ hsigM)) hst0 (by rw [X.hb]; exact hd)
    exact callCore X hC hcode hini hRf hRl hd hcs hk hdd hct hKR hKT hP hS hl hT X₁ hnamed hstep₁
  · obtain ⟨vm₁, X₁, hstep₁⟩ := X0.invokevirtualNest X.hx X.hown (va_Nw.use rfl (X.hnw _ hlk)) hnamed hmethM hstM hkP hkPi ⟨hdn.1, hdn.2.1⟩ (a := a) (cell := cellB) hcB'
      (fun z h => by rw [h] at hoB; cases hoB) hselP hmethM habM hkP hkPi (g := F0 m pc ls st) rfl (argsL := As') (rest := st.drop (na + 1)) (hal.trans (hdn.len _ hsigM)) hst0 (by rw [X.hb]; exact hd)
    exact callCore X hC hcode hini hRf hRl hd hcs hk hdd hct hKR hKT hP hS hl hT X₁ hnamed hstep₁
/-- a constructor -/
theorem callI_ok {y : MethodName} {bytes : ByteArray} {maxL : Nat} {lvl na mc1 ms1 ix : Nat} {ct : wE → CallT} (X : Cx E own cc nL A p s m args meth c) (hC : Con l y bytes maxL none lvl mc1 ms1 ct)
    (hcode : Cond.code y bytes maxL none ∈ Tb) (hini : Cond.initialized y.cls ∈ Tb) (hin : Cond.instanceMethod y ∈ Tb) (hy1 : y.name = "<init>") (hlk : Cond.methodLink own ix y ∈ Tb ∨ ∃ host, Cond.methodLinkNest own ix y host ∈ Nb) (hdn : descN y na)
    (hpre : ∀ E As G KR KT, ct E As G KR KT → ∃ a As', As = .ref a :: As' ∧ As'.length = na)
    (hRf : lvl + 1 ≤ R.frames) (hRl : 39 + maxL + 30 * lvl ≤ R.locals) : CallOK E nL A Q p l e R s m args below meth c cc ix 1 (na + 1) mc1 ms1 (ct E) := by
  intro pc lv st G k d hd hcs hk hdd KR KT hct hKR hKT H locs ls hP hS hl T hT X0
  obtain ⟨a, As', hAs, hal⟩ := hpre _ _ _ _ _ hct
  have hst0 : (F0 m pc ls st).stack = As'.reverse ++ .ref a :: st.drop (na + 1) := st_split hAs
  have hpl : e.platform.magicAccessors = ({} : Platform).magicAccessors := by rw [X0.admits.platform]
  rw [hAs] at hct
  rcases hlk with hlk | ⟨host, hlk⟩
  · obtain ⟨mk, methM, cM, kP, vm₁, hnamed, hmethM, hcodeM, -, hlocalsM, -, hkP, -, hW₁, hstep₁⟩ := Steps.initColdArgs (e := e) X0.here X.hx X0.warmed hpl X.hown hy1 ⟨hdn.1, hdn.2.1⟩ (X.hts _ hlk) (X.hts _ hin) (X.hts _ hcode) (f := F0 m pc ls st) rfl (fun sig h => hal.trans (hdn.len sig h)) hst0 (by rw [X.hb]; exact hd)
    exact callCore X hC hcode hini hRf hRl hd hcs hk hdd hct hKR hKT hP hS hl hT (X0.noted hW₁) hnamed hstep₁
  · obtain ⟨mk, methM, cM, kP, vm₁, hnamed, hmethM, hcodeM, -, hlocalsM, -, hkP, -, hW₁, hstep₁⟩ := Steps.initColdArgsNest (e := e) X0.here X.hx X0.warmed hpl X.hown hy1 ⟨hdn.1, hdn.2.1⟩ (va_Nw.use rfl (X.hnw _ hlk)) (X.hts _ hin) (X.hts _ hcode) (f := F0 m pc ls st) rfl (fun sig h => hal.trans (hdn.len sig h)) hst0 (by rw [X.hb]; exact hd)
    exact callCore X hC hcode hini hRf hRl hd hcs hk hdd hct hKR hKT hP hS hl hT (X0.noted hW₁) hnamed hstep₁
/-- Object() -/
def ctObj : CallT := fun As G KR _ => (∃ a, As = [.ref a]) ∧ KR none G
theorem callO_ok {ix : Nat} (X : Cx E own cc nL A p s m args meth c) (hlk : Cond.methodLink own ix objectInit ∈ Tb) (hin : Cond.instanceMethod objectInit ∈ Tb) (hcode : Cond.code objectInit ⟨#[0xb1]⟩ 1 none ∈ Tb) (hRf : 1 ≤ R.frames) (hRl : 20 ≤ R.locals) :
    CallOK E nL A Q p l e R s m args below meth c cc ix 1 1 0 0 ctObj := by
  intro pc lv st G k d hd hcs hk hdd KR KT hct hKR hKT H locs ls hP hS hl
  obtain ⟨⟨a, hAs⟩, hK⟩ := hct
  have hst0 : (F0 m pc ls st).stack = .ref a :: st.drop 1 := st_split (As := []) hAs
  refine W.objInit X.hx X.hb X.hown (X.hts _ hlk) (X.hts _ hin) (X.hts _ hcode) rfl (by show ls.size = _; rw [hl.1, X.hml]) hst0 hd hRf (by show 2 * 0 + _ + 12 ≤ _; rw [← csum_eq]; omega) ?_
  exact hKR none G hK H locs ls hP hS hl
end CALLS
/-! a method's contract out of the judgement -/
def RtH (l : Launch) (E : wE) (own : String) (cc : ByteArray) (nL : Nat) (A : Nat → Prop) (Q : State → Prop) (p : Program) (e : Env) (R : Room) (s : State) (m : MethodId) (args : Array Value) (below : List Frame) (meth : Method) (c : Code) (ret : Option FieldType) (mc ms : Nat) (RP : Option Value → gH → Prop) (TP : Nat → gH → Prop) : Prop :=
  Cx E own cc nL A p s m args meth c ∧
  (∀ pc x, ∀ lv G k d, k ≤ mc → d ≤ ms → TP x G → Vt E nL A Q p l e R s m args below meth c x pc lv G k d) ∧
  (∀ {pc lv v ty G k d}, ret = some ty → narrow ty (.int v) = .int v → decode cc pc = .ok (.ireturn, 1) → k ≤ mc → d ≤ ms → RP (some (.int v)) G → Vj E nL A Q p l e R s m args below meth c pc lv [.int v] G k d) ∧
  (∀ {pc lv G k d}, ret = none → decode cc pc = .ok (.return_, 1) → k ≤ mc → d ≤ ms → RP none G → Vj E nL A Q p l e R s m args below meth c pc lv [] G k d)
set_option maxHeartbeats 2000000 in
theorem Con_of {l : Launch} {y : MethodName} {bytes : ByteArray} {maxL : Nat} {ret : Option FieldType} {lvl mc ms : Nat} {ct : wE → CallT} (hy : plainName y.cls = true) (hargs : ∀ E av G RP TP, ct E av G RP TP → (lg_sl av).length ≤ maxL)
    (body : ∀ (E : wE) (av : List Value) (G : gH) (RP : Option Value → gH → Prop) (TP : Nat → gH → Prop), ct E av G RP TP → ∀ (A : Nat → Prop) (Q : State → Prop) (p : Program) (e : Env) (s : State) (m : MethodId) (args : Array Value) (below : List Frame) (meth : Method) (c : Code),
      RtH l E y.cls bytes maxL A Q p e (rmL lvl mc ms) s m args below meth c ret mc ms RP TP → meth.name = y.name → Vj E maxL A Q p l e (rmL lvl mc ms) s m args below meth c 0 (lv_args 0 av) [] G 0 0) : Con l y bytes maxL ret lvl mc ms ct := by
  intro E av G sz RP TP hct
  refine MetX.ofW (cc := bytes) (maxL := maxL) (ret := ret) hy rfl ?_
  intro p e s m args below meth c s₁ B hml hv
  obtain ⟨rfl, hsz, hP, hK, hNw, hEv⟩ := hv
  subst hsz
  have hts := atoms_spec (ws := Cond.code y bytes maxL ret :: Tb) B.pre
  have hown : s.vm.findClass y.cls = some m.cls := findClass_of_methodNamed B.named
  have hlocks := B.notSynchronized
  have hx := B.exec
  have hb := B.bytes
  have hr := B.returns
  have hempty : c.exceptionTable.isEmpty = true := B.noHandlers (hts _ List.mem_cons_self)
  have hname : meth.name = y.name := (name_of_methodNamed B.named B.method).1
  have hX : Cx E y.cls bytes maxL (gA G s.heap.size) p s m av.toArray meth c := ⟨hx, hb, hml, hown, fun w hw => hts w (List.mem_cons_of_mem _ hw), hNw, hK, fun q h => Or.inr h, hlocks, hEv⟩
  have hP0 : gP (E.1, E.2.1) classes (gA G s.heap.size) G s.heap := gP_weaken hP (fun a h _ => Or.inl h)
  have hl := lv_entry av (n := maxL) (hargs E av G RP TP hct)
  rw [lg_entry_eq]
  refine body E av G RP TP hct (gA G s.heap.size) _ p e s m av.toArray below meth c ⟨hX, ?_, ?_, ?_⟩ hname s.heap [] _ hP0 va_S.rf hl
  · intro pc x lv G1 k d hk hd hT H locs ls a rest hg hS hl hex T hT0 X0
    have X1 := stand_widen X0 hk hd
    obtain ⟨h1, h2, h3, h4, h5⟩ := X1.leaveThrown a (g := F0 m pc ls rest) rfl rfl rfl (fun z hz => by
      have : c.exceptionTable = #[] := by simpa [Array.isEmpty] using hempty
      rw [this] at hz
      simp at hz) hlocks
    refine ⟨_, h1, .threw a, h2, h3, ⟨hS.F (by show T.heap = H; exact hT0), Or.inr ⟨a, x, G1, rfl, hT, by show gP _ _ _ _ T.heap; rw [hT0]; exact hg, ?_⟩⟩, locs, ⟨h4, h5⟩, hS.2.2⟩
    obtain ⟨cell, c1, c2, c3⟩ := hex
    refine ⟨cell, by show T.heap[a]? = _; rw [hT0]; exact c1, c2, ?_⟩
    show T.vm.findClass _ = _
    rw [X0.warmed.alike.findClass]
    exact c3
  · intro pc lv v ty G1 k d hret hn hdg hk hd hR H locs ls hg hS hl
    refine W.widen hk hd ?_
    refine W_mono (W.zret (ty := ty) hx hb (by rw [hr]; exact hret) hn (fun t ht hW => ?_) hS.2.2 hdg hlocks) MQX_of
    exact ⟨hS.F ht, Or.inl ⟨_, G1, rfl, hR, by rw [ht]; exact hg⟩⟩
  · intro pc lv G1 k d hret hdg hk hd hR H locs ls hg hS hl
    refine W.widen hk hd ?_
    refine W_mono (W.vret hx hb (by rw [hr]; exact hret) (fun t ht hW => ?_) hS.2.2 hdg hlocks) MQX_of
    exact ⟨hS.F ht, Or.inl ⟨_, G1, rfl, hR, by rw [ht]; exact hg⟩⟩
