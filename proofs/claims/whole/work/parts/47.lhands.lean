/-! methods with handlers -/
theorem mi_L_sign : Cond.codeWith y_L_sign b_L_sign 6 (some .int) [(0, 11, 14, 13), (0, 11, 18, 15)] ∈ Tb := Tb_of 174 (by decide +kernel) rfl
theorem ce_L_13 : Cond.classLink "StandardRulesLaw" 13 (exn 2) ∈ Tb := Tb_of 175 (by decide +kernel) rfl
theorem ce_L_15 : Cond.classLink "StandardRulesLaw" 15 (exn 3) ∈ Tb := Tb_of 176 (by decide +kernel) rfl
theorem ca_2 : Cond.castable (exn 2) (exn 2) ∈ Nb := Nb_of 189 (by decide +kernel) rfl
theorem ca_3 : Cond.castable (exn 3) (exn 3) ∈ Nb := Nb_of 261 (by decide +kernel) rfl
theorem mi_L_edition : Cond.codeWith y_L_edition b_L_edition 4 (some .int) [(0, 9, 12, 21), (0, 9, 15, 13), (0, 9, 18, 15)] ∈ Tb := Tb_of 281 (by decide +kernel) rfl
theorem ce_L_21 : Cond.classLink "StandardRulesLaw" 21 (exn 1) ∈ Tb := Tb_of 282 (by decide +kernel) rfl
theorem ca_1 : Cond.castable (exn 1) (exn 1) ∈ Nb := Nb_of 292 (by decide +kernel) rfl
theorem mi_L_change : Cond.codeWith y_L_change b_L_change 7 (some .int) [(0, 14, 17, 27), (0, 14, 21, 21), (0, 14, 25, 13)] ∈ Tb := Tb_of 397 (by decide +kernel) rfl
theorem ce_L_27 : Cond.classLink "StandardRulesLaw" 27 (exn 0) ∈ Tb := Tb_of 398 (by decide +kernel) rfl
theorem ca_0 : Cond.castable (exn 0) (exn 0) ∈ Nb := Nb_of 412 (by decide +kernel) rfl
theorem mi_L_order : Cond.codeWith y_L_order b_L_order 4 (some .int) [(0, 6, 9, 27), (0, 6, 12, 13)] ∈ Tb := Tb_of 436 (by decide +kernel) rfl
theorem mi_L_value : Cond.codeWith y_L_value b_L_value 8 (some .int) [(0, 16, 19, 27), (0, 16, 23, 21), (0, 16, 27, 13), (0, 16, 31, 15)] ∈ Tb := Tb_of 443 (by decide +kernel) rfl
theorem mi_L_open : Cond.codeWith y_L_open b_L_open 4 (some .int) [(0, 9, 12, 27), (0, 9, 15, 21)] ∈ Tb := Tb_of 487 (by decide +kernel) rfl
theorem mi_L_example : Cond.codeWith y_L_example b_L_example 5 (some .int) [(0, 10, 13, 27), (0, 10, 17, 21), (0, 10, 21, 13)] ∈ Tb := Tb_of 494 (by decide +kernel) rfl
theorem mi_L_told : Cond.codeWith y_L_told b_L_told 4 (some .int) [(0, 9, 12, 27)] ∈ Tb := Tb_of 505 (by decide +kernel) rfl
theorem mi_L_agreed : Cond.codeWith y_L_agreed b_L_agreed 4 (some .int) [(0, 9, 12, 27)] ∈ Tb := Tb_of 516 (by decide +kernel) rfl
theorem mi_L_table : Cond.codeWith y_L_table b_L_table 5 (some .int) [(0, 10, 13, 27)] ∈ Tb := Tb_of 523 (by decide +kernel) rfl
theorem nc_1_0 : (exn 1, exn 0) ∈ ncs := by decide
theorem nc_2_0 : (exn 2, exn 0) ∈ ncs := by decide
theorem nc_2_1 : (exn 2, exn 1) ∈ ncs := by decide
theorem nc_3_0 : (exn 3, exn 0) ∈ ncs := by decide
theorem nc_3_1 : (exn 3, exn 1) ∈ ncs := by decide
theorem nc_3_2 : (exn 3, exn 2) ∈ ncs := by decide
theorem MetX.ofWW {l : Launch} {y : MethodName} {ws ws' : List Cond} {rm : Room} {Pc : Array Value → State → Prop} {Qc : Array Value → State → Outcome → State → Prop} {mc ms : Nat} {free : Addr → Prop} {cc : ByteArray} {maxL : Nat} {ret : Option FieldType} {hs : List (Nat × Nat × Nat × Nat)}
    (hy : plainName y.cls = true) (hw : ws = Cond.codeWith y cc maxL ret hs :: ws')
    (body : ∀ p e s m args below meth c s₁, BodyLoose p l y (headSpec ws rm) cc maxL ret e s m args below meth c s₁ → c.maxLocals = maxL → Pc args s →
      W p l e (headSpec ws rm).room s m args below meth c s.heap [] 0 0 (MQX below Qc args s mc ms free) (entryFrame m args maxL)) : MetX l y ws rm Pc Qc mc ms free := by
  refine MetFree.of_bodyS (code := cc) (maxLocals := maxL) (ret := ret) hy ?_ ?_
  · intro args s m h hn
    obtain ⟨m9, meth, c, hn9, h1, h2, h3, h4, -, h5, h6, -⟩ := Cond.codeWith_spec (atoms_spec (ws := ws) h _ (by rw [hw]; exact List.mem_cons_self))
    cases hn.symm.trans hn9
    exact ⟨meth, c, h1, h2, h3, h4, h5, h6⟩
  · intro p e s m args below meth c s₁ B hml hP _
    have hh0 : s₁.heap = s.heap := by rw [B.state]; rfl
    obtain ⟨t, a1, o, b1, b2, b3⟩ := body p e s m args below meth c s₁ B hml hP s₁ hh0 (Stand.of_body B)
    exact ⟨t, o, a1, b1, b2, ⟨b3.1, b3.2⟩⟩
def ConW (l : Launch) (y : MethodName) (bytes : ByteArray) (maxL : Nat) (ret : Option FieldType) (hs : List (Nat × Nat × Nat × Nat)) (lvl mc ms : Nat) (ct : wE → CallT) : Prop :=
  ∀ (E : wE) (av : List Value) (G : gH) (sz : Nat) (RP : Option Value → gH → Prop) (TP : Nat → gH → Prop), ct E av G RP TP → MetX l y (Cond.codeWith y bytes maxL ret hs :: Tb) (rmL lvl mc ms) (PG E av G sz) (QG E (gA G sz) RP TP) mc ms (gA G sz)
section RUNXW
variable {p : Program} {l : Launch} {e : Env} {R : Room} {s : State} {m : MethodId} {args : Array Value} {below : List Frame} {meth : Method} {c : Code} {T : State} {locs : List Loc} {cells slots : Nat}
theorem runXW (X : Stand p l e R s m args below meth c T locs cells slots) {y : MethodName} {bytes : ByteArray} {maxL : Nat} {ret : Option FieldType} {hs : List (Nat × Nat × Nat × Nat)} {rm : Room} {Pc : Array Value → State → Prop} {Qc : Array Value → State → Outcome → State → Prop} {mc ms : Nat} {free : Addr → Prop}
    (hM : MetX l y (Cond.codeWith y bytes maxL ret hs :: Tb) rm Pc Qc mc ms free) {g : JFrame} (hg : g.method = m) (hsize : g.locals.size = c.maxLocals) {ig : Instr} (hdg : decode c.code g.pc = .ok (ig, 3)) {mk : MethodId} (hn : T.methodNamed? y = some mk) (a : Array Value)
    (hrc : rm.cells = mc) (hrs : rm.slots = ms) (hfr : rm.frames + 1 ≤ R.frames) (hlo : 2 * g.monitorRoom + (g.stack.map fun v => v.category).sum + (maxL + 11) + rm.locals ≤ R.locals) (hcells : cells + mc ≤ R.cells) (hslots : slots + ms ≤ R.slots)
    (hws : ∀ w ∈ Cond.codeWith y bytes maxL ret hs :: Tb, w.before a T = true) (hini : (Cond.initialized y.cls).before a T = true) (hP : Pc a (T.calling g mk a)) :
    ∃ (o : Outcome) (t T' : State) (L : List Loc), Stand p l e R s m args below meth c T' (locs ++ L) (cells + mc) (slots + ms) ∧ (∀ q ∈ L, free q.base) ∧ T'.heap = t.heap ∧ T'.vm = t.vm ∧ Qc a (T.calling g mk a) o t ∧
      ((∃ v, o = .returned v ∧ Steps p.tables e below (doInvoke e (T.setTop g) [] mk a).1 (T'.setTop { g with pc := g.pc + 3, stack := v.toList ++ g.stack })) ∨
       (∃ x, o = .threw x ∧ Steps p.tables e below (doInvoke e (T.setTop g) [] mk a).1 ((T'.setTop g).pushFrame (.throwing x)))) := by
  obtain ⟨m9, methY, cY, hn9, hmY, hcY, -, hlY, -⟩ := Cond.codeWith_spec (hws _ List.mem_cons_self)
  cases hn.symm.trans hn9
  obtain ⟨kY, hkY, -⟩ := className_of_methodNamed hn
  have hinitY : kY.init = .initialized := Cond.initialized_spec (findClass_of_methodNamed hn) hkY hini
  have h : At T g.method c below := by rw [hg]; exact X.here
  have happ : (headSpec (Cond.codeWith y bytes maxL ret hs :: Tb) rm).appliesLoose y e.platform (T.calling g mk a) = true :=
    Spec.appliesLoose_calling (g := g) h hdg hn hkY hinitY
      (X.room_calling (g := g) (R' := rm) hsize hmY hcY hfr (by rw [hlY]; omega) (by rw [hrc]; exact hcells) (by rw [hrs]; exact hslots)) (atoms_intro hws)
  obtain ⟨mid, hmid⟩ := h.above
  have hfrm : (T.setTop g).frames = (.java g :: mid) ++ below := by rw [State.frames_setTop' g h.top, hmid]; rfl
  obtain ⟨o, s₂, hsteps, -, hend, hq, L, ⟨hW, hsame⟩, hL⟩ := Steps.callFree hM p X.admits X.cas X.clock (acts := []) hfrm happ hP trivial
  rw [State.frames_setTop' g h.top, X.tail] at hend
  cases o with
  | returned v =>
    obtain ⟨T', X', hW', hB, e1⟩ := X.outOf hg hdg hend hW hsame
    refine ⟨.returned v, s₂, T', L, X', hL, ?_, ?_, hq, Or.inl ⟨v, rfl, ?_⟩⟩
    · rw [e1]; rfl
    · rw [e1]; rfl
    · rw [← e1]; exact hsteps
  | threw x =>
    obtain ⟨T', X', hW', hB, e1⟩ := X.outOfThrown hg hend hW hsame
    refine ⟨.threw x, s₂, T', L, X', hL, ?_, ?_, hq, Or.inr ⟨x, rfl, ?_⟩⟩
    · rw [e1, Stand.throwing_heap]
    · rw [e1, Stand.throwing_vm]
    · rw [← e1]; exact hsteps
end RUNXW
section CALLSW
variable {p : Program} {l : Launch} {e : Env} {R : Room} {s : State} {m : MethodId} {args : Array Value} {below : List Frame} {meth : Method} {c : Code} {Q : State → Prop} {E : wE} {A : Nat → Prop} {own : String} {cc : ByteArray} {nL : Nat}
theorem callCoreW {y : MethodName} {bytes : ByteArray} {maxL : Nat} {ret : Option FieldType} {hs : List (Nat × Nat × Nat × Nat)} {lvl mc1 ms1 : Nat} {ct : wE → CallT} (X : Cx E own cc nL A p s m args meth c) (hC : ConW l y bytes maxL ret hs lvl mc1 ms1 ct)
    (hcode : Cond.codeWith y bytes maxL ret hs ∈ Tb) (hini : Cond.initialized y.cls ∈ Tb) (hRf : lvl + 1 ≤ R.frames) (hRl : 39 + maxL + 30 * lvl ≤ R.locals)
    {pc : Nat} {lv : List (Nat × Value)} {As rest st : List Value} {G : gH} {k d : Nat} {i : Instr} (hd : decode cc pc = .ok (i, 3)) (hcs : csum rest ≤ 8) (hk : k + mc1 ≤ R.cells) (hdd : d + ms1 ≤ R.slots)
    {KR : Option Value → gH → Prop} {KT : Nat → gH → Prop} (hct : ct E As G KR KT) (hKR : ∀ v G1, KR v G1 → Vj E nL A Q p l e R s m args below meth c (pc + 3) lv (v.toList ++ rest) G1 (k + mc1) (d + ms1))
    (hKT : ∀ x G1, KT x G1 → Vt E nL A Q p l e R s m args below meth c x pc lv G1 (k + mc1) (d + ms1))
    {H : Heap} {locs : List Loc} {ls : Array Slot} (hP : gP (E.1, E.2.1) classes A G H) (hS : va_S A s.heap H locs) (hl : lv_has ls nL lv) {T : State} (hT : T.heap = H)
    {vm₁ : Vm} (X₁ : Stand p l e R s m args below meth c (T.setVm vm₁) locs k d) {mk : MethodId} (hnamed : s.methodNamed? y = some mk)
    (hstep : ∀ target, (∀ acts, Steps p.tables e below (doInvoke e ((T.setVm vm₁).setTop (F0 m pc ls rest)) acts mk As.toArray).1 target) → Steps p.tables e below (T.setTop (F0 m pc ls st)) target) :
    ∃ t, Steps p.tables e below (T.setTop (F0 m pc ls st)) t ∧ Q t := by
  have hW1 : s.WarmedH (T.setVm vm₁).vm := X₁.warmed
  have hgA : ∀ q, gA G H.size q → A q := by
    intro q hq
    rcases hq with hq | hq
    · exact gP_in hP hq
    · exact X.hA q (Nat.le_trans hS.1 hq)
  obtain ⟨o, t, T', L, X', hL, e1, e2, ⟨⟨f1, f2⟩, hq⟩, hst⟩ := runXW X₁ (hC E As G H.size KR KT hct) (g := F0 m pc ls rest) rfl (by show ls.size = _; rw [hl.1, X.hml]) (by rw [X.hb]; exact hd) (X₁.named hnamed) As.toArray rfl rfl hRf
    (by show 2 * 0 + (rest.map fun v => v.category).sum + (maxL + 11) + (30 * lvl + 20) ≤ _; rw [← csum_eq]; omega) hk hdd
    (fun w hw => by
      have hw' : w ∈ Tb := by
        rcases List.mem_cons.mp hw with rfl | h
        · exact hcode
        · exact h
      exact word_at hW1 (Tb_good w hw') (X.hts w hw'))
    (word_at hW1 (Tb_good _ hini) (X.hts _ hini))
    ⟨rfl, by show T.heap.size = _; rw [hT], gP_weaken (A := A) (by show gP _ _ _ _ T.heap; rw [hT]; exact hP) (fun _ _ _ => trivial), va_K.moved hW1.alike X.hK, Nb_warm hW1 X.hnw,
      Ev_step X.hev hW1 (by show s.heap.size ≤ T.heap.size; rw [hT]; exact hS.1) (fun a h1 h2 => by show T.heap[a]? = _; rw [hT]; exact hS.2.1 a h1 h2) hgA⟩
  have f1' : H.size ≤ t.heap.size := by
    have : T.heap.size ≤ t.heap.size := f1
    rw [hT] at this
    exact this
  have f2' : ∀ q : Nat, q < H.size → ¬ gA G H.size q → t.heap[q]? = H[q]? := by
    intro q h1 h2
    have : t.heap[q]? = T.heap[q]? := f2 q (by show q < T.heap.size; rw [hT]; exact h1) h2
    rw [this, hT]
  have hS1 : va_S A s.heap t.heap (locs ++ L) := by
    refine ⟨Nat.le_trans hS.1 f1', fun q h1 h2 => ?_, fun q hq => ?_⟩
    · rw [f2' q (Nat.lt_of_lt_of_le h1 hS.1) (fun z => h2 (hgA q z))]
      exact hS.2.1 q h1 h2
    · rcases List.mem_append.mp hq with h | h
      · exact hS.2.2 q h
      · exact hgA _ (hL q h)
  rcases hq with ⟨v, G1, rfl, hr, hg⟩ | ⟨x, kd, G1, rfl, hr, hg, hex⟩
  · rcases hst with ⟨v', ev, hst⟩ | ⟨x', ev, hst⟩
    · cases ev
      obtain ⟨t2, a1, b1⟩ := hKR v G1 hr t.heap (locs ++ L) ls (gP_weaken hg (fun a _ z => hgA a z)) hS1 hl T' e1 X'
      exact ⟨t2, hstep t2 (fun acts => by rw [doInvoke_state]; exact hst.trans a1), b1⟩
    · cases ev
  · rcases hst with ⟨v', ev, hst⟩ | ⟨x', ev, hst⟩
    · cases ev
    · cases ev
      have hex' : ExAt kd x s t.heap := by
        obtain ⟨cell, h1, h2, h3⟩ := hex
        refine ⟨cell, h1, h2, ?_⟩
        have hal : s.vm.Alike t.vm := by rw [← e2]; exact X'.warmed.alike
        rw [← hal.findClass]
        exact h3
      obtain ⟨t2, a1, b1⟩ := hKT kd G1 hr t.heap (locs ++ L) ls x rest (gP_weaken hg (fun a _ z => hgA a z)) hS1 hl hex' T' e1 X'
      exact ⟨t2, hstep t2 (fun acts => by rw [doInvoke_state]; exact hst.trans a1), b1⟩
theorem callSW_ok {y : MethodName} {bytes : ByteArray} {maxL : Nat} {ret : Option FieldType} {hs : List (Nat × Nat × Nat × Nat)} {lvl na mc1 ms1 ix : Nat} {ct : wE → CallT} (X : Cx E own cc nL A p s m args meth c) (hC : ConW l y bytes maxL ret hs lvl mc1 ms1 ct)
    (hcode : Cond.codeWith y bytes maxL ret hs ∈ Tb) (hini : Cond.initialized y.cls ∈ Tb) (hst : Cond.static y ∈ Tb) (hlk : Cond.methodLink own ix y ∈ Tb ∨ ∃ host, Cond.methodLinkNest own ix y host ∈ Nb) (hdn : descN y na) (hlen : ∀ E As G KR KT, ct E As G KR KT → As.length = na)
    (hRf : lvl + 1 ≤ R.frames) (hRl : 39 + maxL + 30 * lvl ≤ R.locals) : CallOK E nL A Q p l e R s m args below meth c cc ix 0 na mc1 ms1 (ct E) := by
  intro pc lv st G k d hd hcs hk hdd KR KT hct hKR hKT H locs ls hP hS hl T hT X0
  have hal : (st.take na).reverse.length = na := hlen _ _ _ _ _ hct
  have hst0 : (F0 m pc ls st).stack = (st.take na).reverse.reverse ++ st.drop na := by rw [List.reverse_reverse, List.take_append_drop]
  have hcode' := X.hts _ hcode
  obtain ⟨mk, methM, cM, hnamed, hmethM, -, -, -, -, -, -, hsigM⟩ := Cond.codeWith_spec hcode'
  have hstatic : methM.isStatic = true := Cond.static_spec hnamed hmethM (X.hts _ hst)
  obtain ⟨kP, hkP, -⟩ := className_of_methodNamed hnamed
  have hinitP : kP.init = .initialized := Cond.initialized_spec (findClass_of_methodNamed hnamed) hkP (X.hts _ hini)
  rcases hlk with hlk | ⟨host, hlk⟩
  · obtain ⟨vm₁, X₁, hstep₁⟩ := X0.invokestatic X.hx X.hown (X.hts _ hlk) hnamed hmethM hstatic hkP hinitP ⟨hdn.1, hdn.2.1⟩ (g := F0 m pc ls st) rfl (argsL := (st.take na).reverse) (rest := st.drop na) (hal.trans (hdn.len _ hsigM)) hst0 (by rw [X.hb]; exact hd)
    exact callCoreW X hC hcode hini hRf hRl hd hcs hk hdd hct hKR hKT hP hS hl hT X₁ hnamed hstep₁
  · obtain ⟨vm₁, X₁, hstep₁⟩ := X0.invokestaticNest X.hx X.hown (va_Nw.use rfl (X.hnw _ hlk)) hnamed hmethM hstatic hkP hinitP ⟨hdn.1, hdn.2.1⟩ (g := F0 m pc ls st) rfl (argsL := (st.take na).reverse) (rest := st.drop na) (hal.trans (hdn.len _ hsigM)) hst0 (by rw [X.hb]; exact hd)
    exact callCoreW X hC hcode hini hRf hRl hd hcs hk hdd hct hKR hKT hP hS hl hT X₁ hnamed hstep₁
end CALLSW
def rowOf (h : ExceptionTableEntry) : Nat × Nat × Nat × Nat := (h.startPc, h.endPc, h.handlerPc, h.catchType)
def rowsOK (own : String) (pc kd h : Nat) : List (Nat × Nat × Nat × Nat) → Prop
  | [] => False
  | (a, b, hp, ct) :: r => (a ≤ pc ∧ pc < b) ∧ ct ≠ 0 ∧ ((hp = h ∧ Cond.classLink own ct (exn kd) ∈ Tb ∧ Cond.castable (exn kd) (exn kd) ∈ Nb) ∨ (∃ kd', Cond.classLink own ct (exn kd') ∈ Tb ∧ (exn kd, exn kd') ∈ ncs ∧ rowsOK own pc kd h r))
section ROWS
variable {p : Program} {l : Launch} {e : Env} {R : Room} {s : State} {m : MethodId} {args : Array Value} {below : List Frame} {meth : Method} {c : Code} {Q : State → Prop} {E : wE} {A : Nat → Prop} {own : String} {cc : ByteArray} {nL : Nat}
theorem rows_split (X : Cx E own cc nL A p s m args meth c) {T : State} {locs : List Loc} {k d : Nat} (X0 : Stand p l e R s m args below meth c T locs k d) {kd pc h : Nat} {cx : ClassId} (hcx : s.vm.findClass (exn kd) = some cx) :
    ∀ (hs : List (Nat × Nat × Nat × Nat)) (L : List ExceptionTableEntry), L.map rowOf = hs → rowsOK own pc kd h hs → ∃ pre x rest, L = pre ++ x :: rest ∧ (∀ y ∈ pre, RowPassed e.platform s m.cls pc cx y) ∧ covers x pc = true ∧ RowCatches e.platform s m.cls cx x ∧ (∃ k, s.vm.classes[cx]? = some k) ∧ x.handlerPc = h
  | [], L, hL, hr => hr.elim
  | (a, b, hp, ct) :: r, [], hL, hr => by cases hL
  | (a, b, hp, ct) :: r, z :: L, hL, hr => by
    rw [List.map_cons] at hL
    injection hL with h1 h2
    unfold rowOf at h1
    injection h1 with e1 h1
    injection h1 with e2 h1
    injection h1 with e3 e4
    subst e1
    subst e2
    subst e3
    subst e4
    obtain ⟨⟨c1, c2⟩, h0, hr⟩ := hr
    have hcov : covers z pc = true := by simp [covers, c1, c2]
    have hpl : e.platform.magicAccessors = ({} : Platform).magicAccessors := by rw [X0.admits.platform]
    rcases hr with ⟨e5, hl, hca⟩ | ⟨kd', hl, hnc, hr⟩
    · obtain ⟨q1, q2, f1, f2, f3⟩ := Cond.castable_spec (va_Nw.use (A := args) rfl (X.hnw _ hca))
      cases hcx.symm.trans f1
      cases hcx.symm.trans f2
      obtain ⟨g1, g2⟩ := X0.catches_of_link X.hown h0 (X.hts _ hl) hcx f3
      exact ⟨[], z, L, rfl, fun y hy => (by cases hy), hcov, g1, g2, e5⟩
    · obtain ⟨pre, x, rest, i1, i2, i3, i4, i5, i6⟩ := rows_split X X0 hcx r L h2 hr
      refine ⟨z :: pre, x, rest, by rw [i1]; rfl, ?_, i3, i4, i5, i6⟩
      intro y hy
      rcases List.mem_cons.mp hy with rfl | hy
      · obtain ⟨c', hc', hcl⟩ := Cond.classLink_spec X.hown (X.hts _ hl) e.platform hpl
        obtain ⟨q1, q2, f1, f2, f3⟩ := X.hev.2.2.2.2.2 _ hnc
        cases hcx.symm.trans f1
        cases hc'.symm.trans f2
        exact Or.inr ⟨h0, c', hcl, f3⟩
      · exact i2 y hy
theorem Vt_catch (X : Cx E own cc nL A p s m args meth c) {hs : List (Nat × Nat × Nat × Nat)} (htab : c.exceptionTable.toList.map rowOf = hs) {kd pc h : Nat} (hr : rowsOK own pc kd h hs) {lv : List (Nat × Value)} {G : gH} {k d : Nat} (hv : ∀ a : Nat, Vj E nL A Q p l e R s m args below meth c h lv [.ref a] G k d) : Vt E nL A Q p l e R s m args below meth c kd pc lv G k d := by
  intro H locs ls a rest hP hS hl hex T hT X0
  obtain ⟨cell, c1, c2, c3⟩ := hex
  obtain ⟨pre, x, rest', i1, i2, i3, i4, i5, i6⟩ := rows_split X X0 c3 hs _ htab hr
  have hobj : cell.vm.isStatics = false := by
    cases hz : cell.vm with
    | statics k => exact absurd hz (c2 k)
    | _ => rfl
  obtain ⟨vm', X1, st1⟩ := X0.caughtThrough a (g := F0 m pc ls rest) rfl (cell := cell) (by rw [hT]; exact c1) hobj i5 pre x rest' i1 i2 i3 i4
  obtain ⟨t, a1, b1⟩ := hv a H locs ls hP hS hl (T.setVm vm') hT X1
  refine ⟨t, ?_, b1⟩
  rw [X0.pushThrowing_eq]
  refine st1 t ?_
  rw [i6]
  exact a1
end ROWS
def RtHW (l : Launch) (E : wE) (own : String) (cc : ByteArray) (nL : Nat) (hs : List (Nat × Nat × Nat × Nat)) (A : Nat → Prop) (Q : State → Prop) (p : Program) (e : Env) (R : Room) (s : State) (m : MethodId) (args : Array Value) (below : List Frame) (meth : Method) (c : Code) (ret : Option FieldType) (mc ms : Nat) (RP : Option Value → gH → Prop) : Prop :=
  Cx E own cc nL A p s m args meth c ∧ c.exceptionTable.toList.map rowOf = hs ∧
  (∀ {pc lv v ty G k d}, ret = some ty → narrow ty (.int v) = .int v → decode cc pc = .ok (.ireturn, 1) → k ≤ mc → d ≤ ms → RP (some (.int v)) G → Vj E nL A Q p l e R s m args below meth c pc lv [.int v] G k d)
theorem ConW_of {l : Launch} {y : MethodName} {bytes : ByteArray} {maxL : Nat} {ret : Option FieldType} {hs : List (Nat × Nat × Nat × Nat)} {lvl mc ms : Nat} {ct : wE → CallT} (hy : plainName y.cls = true) (hargs : ∀ E av G RP TP, ct E av G RP TP → (lg_sl av).length ≤ maxL)
    (body : ∀ (E : wE) (av : List Value) (G : gH) (RP : Option Value → gH → Prop) (TP : Nat → gH → Prop), ct E av G RP TP → ∀ (A : Nat → Prop) (Q : State → Prop) (p : Program) (e : Env) (s : State) (m : MethodId) (args : Array Value) (below : List Frame) (meth : Method) (c : Code),
      RtHW l E y.cls bytes maxL hs A Q p e (rmL lvl mc ms) s m args below meth c ret mc ms RP → Vj E maxL A Q p l e (rmL lvl mc ms) s m args below meth c 0 (lv_args 0 av) [] G 0 0) : ConW l y bytes maxL ret hs lvl mc ms ct := by
  intro E av G sz RP TP hct
  refine MetX.ofWW (cc := bytes) (maxL := maxL) (ret := ret) (hs := hs) hy rfl ?_
  intro p e s m args below meth c s₁ B hml hv
  obtain ⟨rfl, hsz, hP, hK, hNw, hEv⟩ := hv
  subst hsz
  have hts := atoms_spec (ws := Cond.codeWith y bytes maxL ret hs :: Tb) B.pre
  have hown : s.vm.findClass y.cls = some m.cls := findClass_of_methodNamed B.named
  have hlocks := B.notSynchronized
  have hx := B.exec
  have hb := B.bytes
  have hr := B.returns
  obtain ⟨m9, meth9, c9, hn9, hm9, hc9, -, -, htab, -⟩ := Cond.codeWith_spec (hts _ List.mem_cons_self)
  cases B.named.symm.trans hn9
  cases B.method.symm.trans hm9
  cases (Stand.of_body B).code.symm.trans hc9
  have hX : Cx E y.cls bytes maxL (gA G s.heap.size) p s m av.toArray meth c := ⟨hx, hb, hml, hown, fun w hw => hts w (List.mem_cons_of_mem _ hw), hNw, hK, fun q h => Or.inr h, hlocks, hEv⟩
  have hP0 : gP (E.1, E.2.1) classes (gA G s.heap.size) G s.heap := gP_weaken hP (fun a h _ => Or.inl h)
  have hl := lv_entry av (n := maxL) (hargs E av G RP TP hct)
  rw [lg_entry_eq]
  refine body E av G RP TP hct (gA G s.heap.size) _ p e s m av.toArray below meth c ⟨hX, htab, ?_⟩ s.heap [] _ hP0 va_S.rf hl
  intro pc lv v ty G1 k d hret hn hdg hk hd hR H locs ls hg hS hl
  refine W.widen hk hd ?_
  refine W_mono (W.zret (ty := ty) hx hb (by rw [hr]; exact hret) hn (fun t ht hW => ?_) hS.2.2 hdg hlocks) MQX_of
  exact ⟨hS.F ht, Or.inl ⟨_, G1, rfl, hR, by rw [ht]; exact hg⟩⟩
theorem wpH_ofW {p : Program} {l : Launch} {e : Env} {R : Room} {s : State} {m : MethodId} {args : Array Value} {below : List Frame} {meth : Method} {c : Code} {Q : State → Prop} {E : wE} {A : Nat → Prop} {own : String} {cc : ByteArray} {nL : Nat} {hs : List (Nat × Nat × Nat × Nat)} {ret : FieldType} {mc ms : Nat} {RP : Option Value → gH → Prop}
    (hR : RtHW l E own cc nL hs A Q p e R s m args below meth c (some ret) mc ms RP) (hRc : R.cells = mc) (hRs : R.slots = ms)
    (nqL : List (Nat × ClassId)) (hnq : AllL (fun q : Nat × ClassId => aOK E own q.1 q.2) nqL)
    (h1 : Cond.arrayClass .int ∈ Tb) (h2 : Cond.arrayClass .long ∈ Tb)
    (csL : List (Nat × (Nat × Nat × Nat × Nat × CallT))) (hcs : AllL (fun q : Nat × (Nat × Nat × Nat × Nat × CallT) => CallOK E nL A Q p l e R s m args below meth c cc q.1 q.2.1 q.2.2.1 q.2.2.2.1 q.2.2.2.2.1 q.2.2.2.2.2) csL)
    (hh : Nat → Nat → Option Nat) (hhok : ∀ pc x h, hh pc x = some h → rowsOK own pc x h hs) :
    WpH E own cc nL A Q p l e R s m args below meth c (lk []) (lk []) (lk nqL) none (lk csL) hh (some ret) mc ms RP (fun _ _ => False) := by
  obtain ⟨X, htab, r2⟩ := hR
  refine ⟨X, hRc, hRs, ?_, ?_, ?_, ?_, h1, h2, ?_, ?_, ?_, ?_, ?_⟩
  · intro ix ci kf ty fin h
    cases h
  · intro ix ci kf ty h0 h
    cases h0
  · intro ix ci N dfl h
    cases h
  · intro ix cA h
    exact hnq.mem _ (lk_mem h)
  · intro ix kd na mc1 ms1 ct h
    exact hcs.mem _ (lk_mem h)
  · intro pc x h h0 lv G k d hv
    exact Vt_catch X htab (hhok pc x h h0) hv
  · intro pc x _ lv G k d a1 a2 a3
    exact a3.elim
  · intro pc lv v ty G k d a1 a2 a3 a4 a5 a6
    exact r2 a1 a2 a3 a4 a5 a6
  · intro pc lv G k d a1
    cases a1
