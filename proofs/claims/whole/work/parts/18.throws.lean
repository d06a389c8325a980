/-! the throwing of an exception -/
theorem isRefZ {C n d : String} {A : Nat → Prop} {s : State} {args : Array Value} (h : va_Zq C n d A s s.heap) : (Cond.isRef (.static C n d)).before args s = true := by
  have key : ∀ v : Value, v.isRef = true → va_Z C n d v A s s.heap → (Cond.isRef (.static C n d)).before args s = true := by
    intro v hv h
    obtain ⟨cf, kf, fi, f, a, cell, h1, h2, h3, h4, h5, h6, h7, -⟩ := h
    have he : (Term.static C n d).eval args s none [] s = some v := by
      simp [Term.eval, State.fieldNamed?, h1, h2, h4, h5, h6, h7]
    simp only [Cond.before, Cond.holds, Cond.value, he]
    cases v <;> simp_all [Value.isRef]
  rcases h with h | ⟨t, h⟩
  · exact key _ rfl h
  · exact key _ rfl h
theorem heap_of_same {s U : State} {k n : Nat} (h : s.sameButNew ({ U with vm := s.vm } : State) [] k n) : s.heap.size ≤ U.heap.size ∧ ∀ q : Nat, q < s.heap.size → U.heap[q]? = s.heap[q]? := by
  obtain ⟨-, h2, -, -, -, h6⟩ := h
  refine ⟨h2, fun q hq => ?_⟩
  obtain ⟨c9, e1, e2, e3, e4⟩ := h6 q _ (Array.getElem?_eq_getElem hq)
  have hs : c9.slots = (s.heap[q]).slots := Array.ext_getElem? fun i => e4 i fun hm => nomatch hm
  have h9 : c9 = s.heap[q] := by
    rw [hs] at e2
    exact e2
  have e5 : U.heap[q]? = some c9 := e1
  rw [e5, h9, Array.getElem?_eq_getElem hq]
theorem gP_keep {D : va_G} {cl : List vw_C} {A : Nat → Prop} {G : gH} {H H1 : Heap} (h : gP D cl A G H) (hq : ∀ q : Nat, q < H.size → H1[q]? = H[q]?) : gP D cl A G H1 := by
  obtain ⟨L, f, rfl, hP, hD⟩ := h
  exact ⟨L, f, rfl, hP.kept (fun k q hk => hq _ (hP k q hk).lt), hD⟩
/-- the four words of a throw that speak of the heap, and those of the tables that are no good words -/
theorem own_words {args : Array Value} {s : State} {A : Nat → Prop} {L : List Cond} (hts : ∀ w ∈ Tb, w.before args s = true) (hnw : ∀ w ∈ Nb, va_Nw w s) (hev : Ev A s)
    (hL : ∀ w ∈ L, w ∈ Tb ∨ w ∈ Nb ∨ w ∈ [Cond.isRef (.static Bundle.tN "UNASSIGNED_STACK" Bundle.steD), Cond.isRef (.static Bundle.tN "SUPPRESSED_SENTINEL" Bundle.listD), Cond.laysStatic Bundle.tN "UNASSIGNED_STACK" Bundle.steD, Cond.laysStatic Bundle.tN "SUPPRESSED_SENTINEL" Bundle.listD]) (hon : ∀ w ∈ L, w ∈ Nb → w.onTables = true) : ∀ w ∈ L, w.before args s = true := by
  intro w hw
  rcases hL w hw with h | h | h
  · exact hts w h
  · exact va_Nw.use (hon w hw h) (hnw w h)
  · simp only [List.mem_cons, List.not_mem_nil, or_false] at h
    rcases h with rfl | rfl | rfl | rfl
    · exact isRefZ hev.1
    · exact isRefZ hev.2.1
    · exact zL_word hev.2.2.2.1
    · exact zL_word hev.2.2.2.2.1
def exU : List String := ["java/lang/RuntimeException", "java/lang/Exception"]
set_option maxHeartbeats 4000000 in
theorem need_con {l : Launch} (hl : l.flags = pinnedFlags ++ [noTraceFlag]) {y : MethodName} {bytes : ByteArray} {ik is ic kd : Nat} {text : String} (hy : y.cls = "StandardRules")
    (d0 : decode bytes 0 = .ok (.iload_n 0, 1)) (d1 : decode bytes 1 = .ok (.ifCond .ne 13, 3)) (d4 : decode bytes 4 = .ok (.new ik, 3)) (d7 : decode bytes 7 = .ok (.dup, 1)) (d8 : decode bytes 8 = .ok (.ldc is, 2)) (d10 : decode bytes 10 = .ok (.invokespecial ic, 3)) (d13 : decode bytes 13 = .ok (.athrow, 1)) (d14 : decode bytes 14 = .ok (.return_, 1))
    (hfit : Bundle.fit (exn kd) = true) (hk : Cond.classLink "StandardRules" ik (exn kd) ∈ Tb) (hini : Cond.initialized (exn kd) ∈ Tb) (hstr : ("StandardRules", is, text) ∈ strs)
    (hL : ∀ w ∈ Bundle.ownAtoms "StandardRules" ic (exn kd) exU, w ∈ Tb ∨ w ∈ Nb ∨ w ∈ [Cond.isRef (.static Bundle.tN "UNASSIGNED_STACK" Bundle.steD), Cond.isRef (.static Bundle.tN "SUPPRESSED_SENTINEL" Bundle.listD), Cond.laysStatic Bundle.tN "UNASSIGNED_STACK" Bundle.steD, Cond.laysStatic Bundle.tN "SUPPRESSED_SENTINEL" Bundle.listD]) (hon : ∀ w ∈ Bundle.ownAtoms "StandardRules" ic (exn kd) exU, w ∈ Nb → w.onTables = true) :
    Con l y bytes 1 none 6 1 6 (fun _ As G KR KT => ∃ b : Int32, As = [.int b] ∧ (¬ b = 0 → KR none G) ∧ (b = 0 → KT kd G)) := by
  intro E av G sz RP TP hct
  obtain ⟨b, rfl, h1, h2⟩ := hct
  refine MetX.ofW (cc := bytes) (maxL := 1) (ret := none) (by rw [hy]; decide) rfl ?_
  intro p e s m args below meth c s₁ B hml hv
  obtain ⟨rfl, hsz, hP, hK, hNw, hEv⟩ := hv
  subst hsz
  have hts := atoms_spec (ws := Cond.code y bytes 1 none :: Tb) B.pre
  have hown : s.vm.findClass "StandardRules" = some m.cls := by rw [← hy]; exact findClass_of_methodNamed B.named
  have hlocks := B.notSynchronized
  have hx := B.exec
  have hb := B.bytes
  have hr := B.returns
  have hempty : c.exceptionTable.isEmpty = true := B.noHandlers (hts _ List.mem_cons_self)
  have hP0 : gP (E.1, E.2.1) classes (gA G s.heap.size) G s.heap := gP_weaken hP (fun a h _ => Or.inl h)
  have hl0 := lv_entry [.int b] (n := 1) (by simp [lg_sl, Value.category])
  rw [lg_entry_eq]
  refine lv_iload_n hx hb d0 rfl (hl0.2.2 (0, .int b) (by simp [lv_args])) ?_
  refine lv_if_ne hx hb d1 (tg_eq (pc := 1) (off := 13) (by decide)) (fun q => ?_) (fun q => ?_)
  · refine W.widen (k := 1) (n := 6) (by decide) (by decide) ?_
    refine W_mono (W.vret hx hb (by rw [hr]) (fun t ht hW => ?_) (fun q hq => nomatch hq) d14 hlocks) MQX_of
    exact ⟨va_S.rf.F ht, Or.inl ⟨_, G, rfl, h1 q, by rw [ht]; exact hP0⟩⟩
  · intro T hT X
    have htr : e.platform.stackTraces = false := Launch.traces_off hl X.admits
    have hw : ∀ w ∈ Bundle.ownAtoms "StandardRules" ic (exn kd) exU, w.before #[.int b] s = true := own_words (fun w hw => hts w (List.mem_cons_of_mem _ hw)) hNw hEv hL hon
    have hins : (Cond.instantiable (exn kd) 6).before #[.int b] s = true := hw _ (by simp [Bundle.ownAtoms])
    obtain ⟨sa, hsa⟩ := hEv.2.2.1 _ hstr
    obtain ⟨vm₁, cX, kX, hfX, hkX, -, -, X₁, st1⟩ := X.newCold hx (own := "StandardRules") (C := exn kd) (index := ik) (n := 6) hown (hts _ (List.mem_cons_of_mem _ hk)) hins (hts _ (List.mem_cons_of_mem _ hini))
      (g := F0 m (1 + 3) ((lg_sl [.int b] ++ List.replicate (1 - (lg_sl [.int b]).length) Slot.unset).toArray) []) rfl (by rw [hb]; exact d4) (Nat.le_refl _) (Nat.le_refl _)
    generalize hT1 : (T.setVm vm₁).pushCell { cls := cX, slots := kX.instanceTypes.map defaultValue, vm := .none } = T1 at X₁ st1
    have hcellA : T1.heap[T.heap.size]? = some (freshCell cX kX) := by rw [← hT1]; exact State.heap_pushCell_size _ _
    have d7' : decode c.code 7 = .ok (.dup, 1) := by rw [hb]; exact d7
    have d8' : decode c.code 8 = .ok (.ldc is, 2) := by rw [hb]; exact d8
    have hout : ∀ x ∈ c.exceptionTable.toList, covers x (10 + 3) = false := by
      intro z hz
      have : c.exceptionTable = #[] := by simpa [Array.isEmpty] using hempty
      rw [this] at hz
      simp at hz
    obtain ⟨U, hsteps, hrun, hend, hW, hsame, ce, hce, hO⟩ := X₁.ctorThrowS hx htr (own := "StandardRules") (cls := exn kd) (names := exU) (ic := ic) hown hfit (by decide) hw (fun x hx => nomatch hx) hfX hkX hcellA (by rw [hT]; exact Nat.le_refl _) (msg := .ref sa) rfl
      (g := { method := m, pc := 10, locals := (lg_sl [.int b] ++ List.replicate (1 - (lg_sl [.int b]).length) Slot.unset).toArray, stack := .ref sa :: .ref T.heap.size :: .ref T.heap.size :: [], locked := none }) rfl (by rw [hml]; rfl) rfl rfl (rest := []) rfl
      (by rw [hb]; exact d10) (by rw [hb]; exact d13) hout (by show 2 + 3 < 6; decide) (by show 2 * 0 + 1 + (13 * 3 + 42) ≤ 200; decide) hlocks
    obtain ⟨f1, f2⟩ := heap_of_same hsame
    refine ⟨U, st1 _ ?_, .threw T.heap.size, hrun, hend, ⟨⟨f1, fun q h _ => f2 q h⟩, Or.inr ⟨T.heap.size, kd, G, rfl, h2 q, gP_keep hP0 f2, ce, hce, fun k z => (by rw [hO.vm] at z; cases z), (by rw [hW.alike.findClass]; exact hO.cls)⟩⟩, [], ⟨hW, hsame⟩, fun q hq => nomatch hq⟩
    show Steps p.tables e below (T1.setTop { method := m, pc := 7, locals := (lg_sl [.int b] ++ List.replicate (1 - (lg_sl [.int b]).length) Slot.unset).toArray, stack := .ref T.heap.size :: [], locked := none }) _
    jvm_step X₁.here [X₁.here.top, hx, d7', Value.category]
    exact X₁.ldcString hx (own := "StandardRules") (text := text) (index := is) (a := sa) hown hsa.1 hsa.2
      (g := { method := m, pc := 8, locals := (lg_sl [.int b] ++ List.replicate (1 - (lg_sl [.int b]).length) Slot.unset).toArray, stack := .ref T.heap.size :: .ref T.heap.size :: [], locked := none }) rfl d8' _ hsteps
def ct_S_needRange : wE → CallT := fun _ As G KR KT => ∃ b : Int32, As = [.int b] ∧ (¬ b = 0 → KR none G) ∧ (b = 0 → KT 2 G)
theorem ow_S_needRange : ∀ w ∈ Bundle.ownAtoms "StandardRules" 172 (exn 2) exU, w ∈ Tb ∨ w ∈ Nb ∨ w ∈ [Cond.isRef (.static Bundle.tN "UNASSIGNED_STACK" Bundle.steD), Cond.isRef (.static Bundle.tN "SUPPRESSED_SENTINEL" Bundle.listD), Cond.laysStatic Bundle.tN "UNASSIGNED_STACK" Bundle.steD, Cond.laysStatic Bundle.tN "SUPPRESSED_SENTINEL" Bundle.listD] := by decide +kernel
theorem ot_S_needRange : ∀ w ∈ Bundle.ownAtoms "StandardRules" 172 (exn 2) exU, w ∈ Nb → w.onTables = true := by decide +kernel
theorem ck_S_needRange : Cond.classLink "StandardRules" 168 (exn 2) ∈ Tb := by decide +kernel
theorem ci_S_needRange : Cond.initialized (exn 2) ∈ Tb := by decide +kernel
theorem c_S_needRange (l : Launch) (hl : l.flags = pinnedFlags ++ [noTraceFlag]) : Con l y_S_needRange b_S_needRange 1 none 6 1 6 ct_S_needRange := need_con hl rfl d_S_needRange_0 d_S_needRange_1 d_S_needRange_4 d_S_needRange_7 d_S_needRange_8 d_S_needRange_10 d_S_needRange_13 d_S_needRange_14 (by decide) ck_S_needRange ci_S_needRange (text := "out of range") (by decide) ow_S_needRange ot_S_needRange
theorem pre_S_needRange : ∀ (E : wE) As G KR KT, ct_S_needRange E As G KR KT → As.length = 1 := by
  rintro E As G KR KT ⟨_, rfl, -⟩
  rfl
def ct_S_needTurn : wE → CallT := fun _ As G KR KT => ∃ b : Int32, As = [.int b] ∧ (¬ b = 0 → KR none G) ∧ (b = 0 → KT 1 G)
theorem ow_S_needTurn : ∀ w ∈ Bundle.ownAtoms "StandardRules" 167 (exn 1) exU, w ∈ Tb ∨ w ∈ Nb ∨ w ∈ [Cond.isRef (.static Bundle.tN "UNASSIGNED_STACK" Bundle.steD), Cond.isRef (.static Bundle.tN "SUPPRESSED_SENTINEL" Bundle.listD), Cond.laysStatic Bundle.tN "UNASSIGNED_STACK" Bundle.steD, Cond.laysStatic Bundle.tN "SUPPRESSED_SENTINEL" Bundle.listD] := by decide +kernel
theorem ot_S_needTurn : ∀ w ∈ Bundle.ownAtoms "StandardRules" 167 (exn 1) exU, w ∈ Nb → w.onTables = true := by decide +kernel
theorem ck_S_needTurn : Cond.classLink "StandardRules" 163 (exn 1) ∈ Tb := by decide +kernel
theorem ci_S_needTurn : Cond.initialized (exn 1) ∈ Tb := by decide +kernel
theorem c_S_needTurn (l : Launch) (hl : l.flags = pinnedFlags ++ [noTraceFlag]) : Con l y_S_needTurn b_S_needTurn 1 none 6 1 6 ct_S_needTurn := need_con hl rfl d_S_needTurn_0 d_S_needTurn_1 d_S_needTurn_4 d_S_needTurn_7 d_S_needTurn_8 d_S_needTurn_10 d_S_needTurn_13 d_S_needTurn_14 (by decide) ck_S_needTurn ci_S_needTurn (text := "out of turn") (by decide) ow_S_needTurn ot_S_needTurn
theorem pre_S_needTurn : ∀ (E : wE) As G KR KT, ct_S_needTurn E As G KR KT → As.length = 1 := by
  rintro E As G KR KT ⟨_, rfl, -⟩
  rfl
def ct_S_needIndex : wE → CallT := fun _ As G KR KT => ∃ b : Int32, As = [.int b] ∧ (¬ b = 0 → KR none G) ∧ (b = 0 → KT 0 G)
theorem ow_S_needIndex : ∀ w ∈ Bundle.ownAtoms "StandardRules" 160 (exn 0) exU, w ∈ Tb ∨ w ∈ Nb ∨ w ∈ [Cond.isRef (.static Bundle.tN "UNASSIGNED_STACK" Bundle.steD), Cond.isRef (.static Bundle.tN "SUPPRESSED_SENTINEL" Bundle.listD), Cond.laysStatic Bundle.tN "UNASSIGNED_STACK" Bundle.steD, Cond.laysStatic Bundle.tN "SUPPRESSED_SENTINEL" Bundle.listD] := by decide +kernel
theorem ot_S_needIndex : ∀ w ∈ Bundle.ownAtoms "StandardRules" 160 (exn 0) exU, w ∈ Nb → w.onTables = true := by decide +kernel
theorem ck_S_needIndex : Cond.classLink "StandardRules" 156 (exn 0) ∈ Tb := by decide +kernel
theorem ci_S_needIndex : Cond.initialized (exn 0) ∈ Tb := by decide +kernel
theorem c_S_needIndex (l : Launch) (hl : l.flags = pinnedFlags ++ [noTraceFlag]) : Con l y_S_needIndex b_S_needIndex 1 none 6 1 6 ct_S_needIndex := need_con hl rfl d_S_needIndex_0 d_S_needIndex_1 d_S_needIndex_4 d_S_needIndex_7 d_S_needIndex_8 d_S_needIndex_10 d_S_needIndex_13 d_S_needIndex_14 (by decide) ck_S_needIndex ci_S_needIndex (text := "no such index") (by decide) ow_S_needIndex ot_S_needIndex
theorem pre_S_needIndex : ∀ (E : wE) As G KR KT, ct_S_needIndex E As G KR KT → As.length = 1 := by
  rintro E As G KR KT ⟨_, rfl, -⟩
  rfl
def ct_S_needMeaning : wE → CallT := fun _ As G KR KT => ∃ b : Int32, As = [.int b] ∧ (¬ b = 0 → KR none G) ∧ (b = 0 → KT 3 G)
theorem ow_S_needMeaning : ∀ w ∈ Bundle.ownAtoms "StandardRules" 177 (exn 3) exU, w ∈ Tb ∨ w ∈ Nb ∨ w ∈ [Cond.isRef (.static Bundle.tN "UNASSIGNED_STACK" Bundle.steD), Cond.isRef (.static Bundle.tN "SUPPRESSED_SENTINEL" Bundle.listD), Cond.laysStatic Bundle.tN "UNASSIGNED_STACK" Bundle.steD, Cond.laysStatic Bundle.tN "SUPPRESSED_SENTINEL" Bundle.listD] := by decide +kernel
theorem ot_S_needMeaning : ∀ w ∈ Bundle.ownAtoms "StandardRules" 177 (exn 3) exU, w ∈ Nb → w.onTables = true := by decide +kernel
theorem ck_S_needMeaning : Cond.classLink "StandardRules" 173 (exn 3) ∈ Tb := by decide +kernel
theorem ci_S_needMeaning : Cond.initialized (exn 3) ∈ Tb := by decide +kernel
theorem c_S_needMeaning (l : Launch) (hl : l.flags = pinnedFlags ++ [noTraceFlag]) : Con l y_S_needMeaning b_S_needMeaning 1 none 6 1 6 ct_S_needMeaning := need_con hl rfl d_S_needMeaning_0 d_S_needMeaning_1 d_S_needMeaning_4 d_S_needMeaning_7 d_S_needMeaning_8 d_S_needMeaning_10 d_S_needMeaning_13 d_S_needMeaning_14 (by decide) ck_S_needMeaning ci_S_needMeaning (text := "without meaning") (by decide) ow_S_needMeaning ot_S_needMeaning
theorem pre_S_needMeaning : ∀ (E : wE) As G KR KT, ct_S_needMeaning E As G KR KT → As.length = 1 := by
  rintro E As G KR KT ⟨_, rfl, -⟩
  rfl
