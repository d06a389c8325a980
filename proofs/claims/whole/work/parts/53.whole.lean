/-! THE CLAIM OUT OF ONE WALK OF THE LAW'S BODY. Your part is whole_start (and what it stands on); all else here is the same for every law, but numbers. -/
def R_law : String := "StandardRulesLaw"
def lw_P (b : Addr) (xs : List Int32) (args : Array Value) (s : State) : Prop := args = #[.ref b] ∧ s.IntsAt b xs ∧ xs.length ≤ 3072 ∧ (Jvm.Cond.and given_1 narrow_1).before args s = true
def lw_Q (_ : Array Value) (s : State) (o : Outcome) (t : State) : Prop := o = .returned (some (.int 1)) ∧ Framed s o t [] 601024 7293034
def lw_Z (below : List Frame) (a : Array Value) (s : State) : State → Prop := fun t => ∃ o, t.status = .running ∧ Ended t below o ∧ lw_Q a s o t
/-- the law's own end, with 1 on the stack, nothing written that was there before, its room as the claim has it -/
theorem lw_ret {p : Program} {l : Launch} {e : Env} {s : State} {m : MethodId} {below : List Frame} {meth : Method} {c : Code} {b : Nat} (hx : p.tables.exec = Jvm.exec) (hb : c.code = code) (hr : meth.sig.returnType = ret) (hlocks : meth.locks = false) {pc : Nat} {H : Heap} {ls : Array Slot} (hdg : decode code pc = .ok (.ireturn, 1)) : W p l e room_1 s m #[Value.ref b] below meth c H [] 601024 7293034 (lw_Z below #[Value.ref b] s) (F0 m pc ls [.int 1]) := by
  intro T hT X
  obtain ⟨fs, hret, hrun, hended, hW, hframe⟩ := X.leave (v := some (.int 1)) (hlocks := hlocks) (fun h => by rw [hr] at h; cases h)
  have hmeth' : T.vm.method? m = some meth := X.method'
  refine ⟨T.setFrames fs, ?_, .returned (some (.int 1)), hrun, hended, rfl, ⟨_, rfl⟩, hW, hframe⟩
  jvm_step X.here [X.here.top, hx, hb, hdg, hmeth', hr, ret, narrow_b1]
  (try refine ⟨rfl, ?_⟩); (try refine ⟨rfl, ?_⟩)
  first | (intro acts; rw [hret _ acts rfl rfl rfl]) | rw [hret _ _ rfl rfl rfl]
  exact Steps.refl _
/-- what holds at the law's entry: the machine, the code, the tables' words (any of lw_tbl by 'hts w (by decide +kernel)'), the script of L ints xs at the cell b, what the Statement gives of the start (any of its parts by flat_of_before) -/
def lw_At (p : Program) (s : State) (m : MethodId) (meth : Method) (c : Code) (b L : Nat) (xs : Nat → Int32) : Prop :=
  p.tables.exec = Jvm.exec ∧ c.code = code ∧ meth.sig.returnType = ret ∧ c.maxLocals = 7 ∧ s.vm.findClass R_law = some m.cls ∧ (∀ w ∈ lw_tbl, w.before #[Value.ref b] s = true) ∧ va_X b L xs s s.heap ∧ b < s.heap.size ∧ meth.locks = false ∧ (Jvm.Cond.and given_1 narrow_1).before #[Value.ref b] s = true
theorem sr_170 : Cond.stringRef "StandardRules" 170 "out of range" ∈ lw_tbl := List.mem_append_right _ (List.mem_of_getElem? (i := 229) (by decide +kernel))
theorem sr_175 : Cond.stringRef "StandardRules" 175 "without meaning" ∈ lw_tbl := List.mem_append_right _ (List.mem_of_getElem? (i := 268) (by decide +kernel))
theorem sr_165 : Cond.stringRef "StandardRules" 165 "out of turn" ∈ lw_tbl := List.mem_append_right _ (List.mem_of_getElem? (i := 299) (by decide +kernel))
theorem sr_158 : Cond.stringRef "StandardRules" 158 "no such index" ∈ lw_tbl := List.mem_append_right _ (List.mem_of_getElem? (i := 419) (by decide +kernel))
theorem in_S : Cond.instantiable "StandardRules" 10 ∈ lw_tbl := List.mem_append_right _ (List.mem_of_getElem? (i := 17) (by decide +kernel))
theorem in_R : Cond.instantiable "StandardRules$Reader" 6 ∈ lw_tbl := List.mem_append_right _ (List.mem_of_getElem? (i := 25) (by decide +kernel))
theorem in_C : Cond.instantiable "StandardRules$Changes" 4 ∈ lw_tbl := List.mem_append_right _ (List.mem_of_getElem? (i := 54) (by decide +kernel))
theorem in_K : Cond.instantiable "StandardRules$Reckoner" 4 ∈ lw_tbl := List.mem_append_right _ (List.mem_of_getElem? (i := 79) (by decide +kernel))
theorem in_E : Cond.instantiable "StandardRules$Edition" 6 ∈ lw_tbl := List.mem_append_right _ (List.mem_of_getElem? (i := 100) (by decide +kernel))
theorem in_P : Cond.instantiable "StandardRules$Part" 5 ∈ lw_tbl := List.mem_append_right _ (List.mem_of_getElem? (i := 357) (by decide +kernel))
theorem in_M : Cond.instantiable "StandardRulesModel" 31 ∈ lw_tbl := List.mem_append_right _ (List.mem_of_getElem? (i := 529) (by decide +kernel))
theorem al_E : Cond.arrayOver (.object "StandardRules$Edition") ∈ lw_tbl := List.mem_append_right _ (List.mem_of_getElem? (i := 52) (by decide +kernel))
theorem al_P : Cond.arrayOver (.object "StandardRules$Part") ∈ lw_tbl := List.mem_append_right _ (List.mem_of_getElem? (i := 106) (by decide +kernel))
theorem ls_u : Cond.laysStatic "java/lang/Throwable" "UNASSIGNED_STACK" "[Ljava/lang/StackTraceElement;" ∈ lw_tbl := List.mem_append_right _ (List.mem_of_getElem? (i := 214) (by decide +kernel))
theorem ls_s : Cond.laysStatic "java/lang/Throwable" "SUPPRESSED_SENTINEL" "Ljava/util/List;" ∈ lw_tbl := List.mem_append_right _ (List.mem_of_getElem? (i := 216) (by decide +kernel))
theorem in_T : Cond.initialized "java/lang/Throwable" ∈ lw_tbl := List.mem_append_right _ (List.mem_of_getElem? (i := 8) (by decide +kernel))
theorem lw_ret2 {p : Program} {l : Launch} {e : Env} {s : State} {m : MethodId} {below : List Frame} {meth : Method} {c : Code} {b : Nat} (hx : p.tables.exec = Jvm.exec) (hb : c.code = code) (hr : meth.sig.returnType = ret) (hlocks : meth.locks = false) {pc : Nat} {H : Heap} {ls : Array Slot} {locs : List Loc} {k d : Nat} (hloc : ∀ q ∈ locs, s.heap.size ≤ q.base) (hk : k ≤ 601024) (hd : d ≤ 7293034) (hdg : decode code pc = .ok (.ireturn, 1)) : W p l e room_1 s m #[Value.ref b] below meth c H locs k d (lw_Z below #[Value.ref b] s) (F0 m pc ls [.int 1]) := by
  intro T hT X
  obtain ⟨fs, hret, hrun, hended, hW, hframe⟩ := X.leave (v := some (.int 1)) (hlocks := hlocks) (fun h => by rw [hr] at h; cases h)
  have hmeth' : T.vm.method? m = some meth := X.method'
  refine ⟨T.setFrames fs, ?_, .returned (some (.int 1)), hrun, hended, rfl, ⟨_, rfl⟩, hW, hframe.weaken (fun q hq hlt => absurd (hloc q hq) (Nat.not_le.mpr hlt)) hk hd⟩
  jvm_step X.here [X.here.top, hx, hb, hdg, hmeth', hr, ret, narrow_b1]
  (try refine ⟨rfl, ?_⟩); (try refine ⟨rfl, ?_⟩)
  first | (intro acts; rw [hret _ acts rfl rfl rfl]) | rw [hret _ _ rfl rfl rfl]
  exact Steps.refl _
theorem Nb_of_tbl {s : State} {args : Array Value} (h : ∀ w ∈ lw_tbl, w.before args s = true) : ∀ w ∈ Nb, va_Nw w s := by
  intro w hw
  have hk : isNote w = true := (List.mem_filter.mp hw).2
  have h0 := h w (List.mem_filter.mp hw).1
  cases w with
  | fieldLinkNest a i b n d h => exact va_Nw.of rfl h0
  | methodLinkNest a i x h => exact va_Nw.of rfl h0
  | arrayOver ty =>
    cases ty with
    | object C => exact h0
    | _ => simp [isNote] at hk
  | castable a b => exact va_Nw.of rfl h0
  | declares x => exact va_Nw.of rfl h0
  | _ => simp [isNote] at hk
theorem K_ex {s : State} {args : Array Value} (h : ∀ w ∈ lw_tbl, w.before args s = true) : ∃ E : wE, va_K (E.1, E.2.1) classes (tysOf E) s := by
  have ht : ∀ w ∈ Tb, w.before args s = true := fun w hw => h w (List.mem_filter.mp hw).1
  obtain ⟨c0, i0, k0⟩ := u_known (C := "StandardRules") (T := F_S) (N := 10) ht cls_S.2.1 (h _ in_S)
  obtain ⟨c1, i1, k1⟩ := u_known (C := "StandardRules$Reader") (T := F_R) (N := 6) ht cls_R.2.1 (h _ in_R)
  obtain ⟨c2, i2, k2⟩ := u_known (C := "StandardRules$Changes") (T := F_C) (N := 4) ht cls_C.2.1 (h _ in_C)
  obtain ⟨c3, i3, k3⟩ := u_known (C := "StandardRules$Reckoner") (T := F_K) (N := 4) ht cls_K.2.1 (h _ in_K)
  obtain ⟨c4, i4, k4⟩ := u_known (C := "StandardRules$Edition") (T := F_E) (N := 6) ht cls_E.2.1 (h _ in_E)
  obtain ⟨c5, i5, k5⟩ := u_known (C := "StandardRules$Part") (T := F_P) (N := 5) ht cls_P.2.1 (h _ in_P)
  obtain ⟨c6, i6, k6⟩ := u_known (C := "StandardRulesModel") (T := F_M) (N := 31) ht cls_M.2.1 (h _ in_M)
  obtain ⟨a0, q0, m0, f0, g0, e0⟩ := Cond.arrayClass_spec (ht _ ac_int)
  obtain ⟨a1, q1, m1, f1, g1, e1⟩ := Cond.arrayClass_spec (ht _ ac_long)
  obtain ⟨m2, a2, q2, f2, -, g2, e2, n2⟩ := Cond.arrayOver_spec (h _ al_E)
  obtain ⟨m3, a3, q3, f3, -, g3, e3, n3⟩ := Cond.arrayOver_spec (h _ al_P)
  refine ⟨(fun c => if c = 0 then c0 else if c = 1 then c1 else if c = 2 then c2 else if c = 3 then c3 else if c = 4 then c4 else if c = 5 then c5 else c6, fun c => if c = 0 then i0 else if c = 1 then i1 else if c = 2 then i2 else if c = 3 then i3 else if c = 4 then i4 else if c = 5 then i5 else i6, fun t => if t = 0 then a0 else if t = 1 then a1 else if t = 2 then a2 else a3), fun c q hq => ?_, fun k q hq => ?_⟩
  · have hc : c < 7 := getlt hq
    have hc2 : c = 0 ∨ c = 1 ∨ c = 2 ∨ c = 3 ∨ c = 4 ∨ c = 5 ∨ c = 6 := by omega
    rcases hc2 with rfl | rfl | rfl | rfl | rfl | rfl | rfl
    · cases hq
      exact k0
    · cases hq
      exact k1
    · cases hq
      exact k2
    · cases hq
      exact k3
    · cases hq
      exact k4
    · cases hq
      exact k5
    · cases hq
      exact k6
  · have hc : k < 4 := getlt hq
    have hc2 : k = 0 ∨ k = 1 ∨ k = 2 ∨ k = 3 := by omega
    rcases hc2 with rfl | rfl | rfl | rfl
    · cases hq
      exact ⟨fun N z => ⟨fun k h => (by cases h), q0, g0, m0, e0⟩, f0⟩
    · cases hq
      exact ⟨fun N z => ⟨fun k h => (by cases h), q1, g1, m1, e1⟩, f1⟩
    · cases hq
      exact ⟨fun N z => ⟨fun k h => (by cases h), q2, g2, m2, e2⟩, q2, m2, g2, e2, f2, n2⟩
    · cases hq
      exact ⟨fun N z => ⟨fun k h => (by cases h), q3, g3, m3, e3⟩, q3, m3, g3, e3, f3, n3⟩
theorem Ev_ex {s : State} {b : Nat} (h : ∀ w ∈ lw_tbl, w.before #[Value.ref b] s = true) (hg : (Jvm.Cond.and given_1 narrow_1).before #[Value.ref b] s = true) : Ev (fun q => s.heap.size ≤ q) s := by
  have hs := flat_of_before _ hg
  have hA : ∀ a : Nat, a < s.heap.size → ¬ (fun q => s.heap.size ≤ q) a := fun a ha => Nat.not_le.mpr ha
  refine ⟨va_Zqof (h _ ls_u) (h _ in_T) (hs _ (by decide +kernel)) hA, va_Zqof (h _ ls_s) (h _ in_T) (hs _ (by decide +kernel)) hA, ?_, zL_of (h _ ls_u) hA, zL_of (h _ ls_s) hA, ?_⟩
  · intro q hq
    simp only [strs, List.mem_cons, List.not_mem_nil, or_false] at hq
    rcases hq with rfl | rfl | rfl | rfl
    · obtain ⟨a, -, -, -, ha, -⟩ := Cond.exactly_spec (hs (Cond.exactly (.string "StandardRules" 170) "java/lang/String") (by decide +kernel))
      exact ⟨a, vk_R.of (h _ sr_170) ha⟩
    · obtain ⟨a, -, -, -, ha, -⟩ := Cond.exactly_spec (hs (Cond.exactly (.string "StandardRules" 175) "java/lang/String") (by decide +kernel))
      exact ⟨a, vk_R.of (h _ sr_175) ha⟩
    · obtain ⟨a, -, -, -, ha, -⟩ := Cond.exactly_spec (hs (Cond.exactly (.string "StandardRules" 165) "java/lang/String") (by decide +kernel))
      exact ⟨a, vk_R.of (h _ sr_165) ha⟩
    · obtain ⟨a, -, -, -, ha, -⟩ := Cond.exactly_spec (hs (Cond.exactly (.string "StandardRules" 158) "java/lang/String") (by decide +kernel))
      exact ⟨a, vk_R.of (h _ sr_158) ha⟩
  · intro q hq
    simp only [ncs, List.mem_cons, List.not_mem_nil, or_false] at hq
    rcases hq with rfl | rfl | rfl | rfl | rfl | rfl
    · exact va_Nc.of (hs _ (by decide +kernel))
    · exact va_Nc.of (hs _ (by decide +kernel))
    · exact va_Nc.of (hs _ (by decide +kernel))
    · exact va_Nc.of (hs _ (by decide +kernel))
    · exact va_Nc.of (hs _ (by decide +kernel))
    · exact va_Nc.of (hs _ (by decide +kernel))
theorem gP_0 {D : va_G} {cl : List vw_C} {A : Nat → Prop} {H : Heap} : gP D cl A (fun _ => none) H := by
  refine ⟨[], fun _ => .inr (0, []), ?_, fun k q h => (by cases h), fun i j p q h => (by cases h), fun k q h => (by cases h)⟩
  funext a
  simp [gv]
set_option maxRecDepth 100000 in
set_option maxHeartbeats 8000000 in
theorem whole_start {p : Program} {e : Env} {s : State} {m : MethodId} {below : List Frame} {meth : Method} {c : Code} (l : Launch) (hl : l.flags = flags0) {b L : Nat} {xs : Nat → Int32} (hL : L ≤ 3072) (C0 : lw_At p s m meth c b L xs) : W p l e room_1 s m #[Value.ref b] below meth c s.heap [] 0 0 (lw_Z below #[Value.ref b] s) (entryFrame m ([Value.ref b] : List Value).toArray 7) := by
  obtain ⟨hx, hb, hr, hml, hown, hts, hSc, hbl, hlocks, hgv⟩ := C0
  obtain ⟨E, hK⟩ := K_ex hts
  have hX : Cx E "StandardRulesLaw" code 7 (fun q => s.heap.size ≤ q) p s m #[Value.ref b] meth c := ⟨hx, hb, hml, hown, fun w hw => hts w (List.mem_filter.mp hw).1, Nb_of_tbl hts, hK, fun q h => h, hlocks, Ev_ex hts hgv⟩
  have hR : RtH l E "StandardRulesLaw" code 7 (fun q => s.heap.size ≤ q) (lw_Z below #[Value.ref b] s) p e room_1 s m #[Value.ref b] below meth c (some .boolean) 601024 7293034 (fun v _ => v = some (.int 1)) (fun _ _ => False) := by
    refine ⟨hX, fun pc x lv G k d _ _ h => h.elim, ?_, fun h => by cases h⟩
    intro pc lv v ty G k d hret hn hdg hk hd hR H locs ls hg hS hl
    cases hR
    exact lw_ret2 hx hb hr hlocks hS.2.2 hk hd hdg
  have hH : WpH E "StandardRulesLaw" code 7 (fun q => s.heap.size ≤ q) (lw_Z below #[Value.ref b] s) p l e room_1 s m #[Value.ref b] below meth c (lk []) (lk nw_L) (lk (nq_L E)) none (lk (cs_L_law E)) (fun _ _ => none) (some .boolean) 601024 7293034 (fun v _ => v = some (.int 1)) (fun _ _ => False) := wpH_of hR rfl rfl [] trivial none (fun ci h => by cases h) nw_L nw_L_ok (nq_L E) (nq_L_ok E) ac_int ac_long (cs_L_law E) ⟨callI_ok (ct := ct_S_init) hX (c_S_init l) mi_S_init ini_S im_S_init rfl lk_L_53 dn_S_init pre_S_init (by decide) (by decide), callI_ok (ct := ct_M_init) hX (c_M_init l) mi_M_init ini_M im_M_init rfl lk_L_56 dn_M_init pre_M_init (by decide) (by decide), callSW_ok (ct := ct_L_sign) hX (c_L_sign l hl) mi_L_sign ini_L st_L_sign lk_L_59 dn_L_sign pre_L_sign (by decide) (by decide), callV_ok (ct := ct_M_sign) (ci := 6) hX (c_M_sign l) mi_M_sign ini_M im_M_sign se_M_sign lk_L_64 dn_M_sign rfl pre_M_sign (by decide) (by decide), callV_ok (ct := ct_M_thrown) (ci := 6) hX (c_M_thrown l) mi_M_thrown ini_M im_M_thrown se_M_thrown lk_L_65 dn_M_thrown rfl pre_M_thrown (by decide) (by decide), callSW_ok (ct := ct_L_edition) hX (c_L_edition l hl) mi_L_edition ini_L st_L_edition lk_L_69 dn_L_edition pre_L_edition (by decide) (by decide), callV_ok (ct := ct_M_edition) (ci := 6) hX (c_M_edition l) mi_M_edition ini_M im_M_edition se_M_edition lk_L_72 dn_M_edition rfl pre_M_edition (by decide) (by decide), callV_ok (ct := ct_S_place) (ci := 0) hX (c_S_place l) mi_S_place ini_S im_S_place se_S_place lk_L_73 dn_S_place rfl pre_S_place (by decide) (by decide), callV_ok (ct := ct_M_place) (ci := 6) hX (c_M_place l) mi_M_place ini_M im_M_place se_M_place lk_L_76 dn_M_place rfl pre_M_place (by decide) (by decide), callSW_ok (ct := ct_L_change) hX (c_L_change l hl) mi_L_change ini_L st_L_change lk_L_77 dn_L_change pre_L_change (by decide) (by decide), callV_ok (ct := ct_M_change) (ci := 6) hX (c_M_change l) mi_M_change ini_M im_M_change se_M_change lk_L_80 dn_M_change rfl pre_M_change (by decide) (by decide), callSW_ok (ct := ct_L_order) hX (c_L_order l hl) mi_L_order ini_L st_L_order lk_L_81 dn_L_order pre_L_order (by decide) (by decide), callV_ok (ct := ct_M_order) (ci := 6) hX (c_M_order l) mi_M_order ini_M im_M_order se_M_order lk_L_84 dn_M_order rfl pre_M_order (by decide) (by decide), callSW_ok (ct := ct_L_value) hX (c_L_value l hl) mi_L_value ini_L st_L_value lk_L_85 dn_L_value pre_L_value (by decide) (by decide), callV_ok (ct := ct_M_value) (ci := 6) hX (c_M_value l) mi_M_value ini_M im_M_value se_M_value lk_L_88 dn_M_value rfl pre_M_value (by decide) (by decide), callSW_ok (ct := ct_L_open) hX (c_L_open l hl) mi_L_open ini_L st_L_open lk_L_89 dn_L_open pre_L_open (by decide) (by decide), callV_ok (ct := ct_M_open) (ci := 6) hX (c_M_open l) mi_M_open ini_M im_M_open se_M_open lk_L_91 dn_M_open rfl pre_M_open (by decide) (by decide), callSW_ok (ct := ct_L_example) hX (c_L_example l hl) mi_L_example ini_L st_L_example lk_L_92 dn_L_example pre_L_example (by decide) (by decide), callV_ok (ct := ct_M_example) (ci := 6) hX (c_M_example l) mi_M_example ini_M im_M_example se_M_example lk_L_95 dn_M_example rfl pre_M_example (by decide) (by decide), callSW_ok (ct := ct_L_told) hX (c_L_told l hl) mi_L_told ini_L st_L_told lk_L_96 dn_L_told pre_L_told (by decide) (by decide), callV_ok (ct := ct_M_told) (ci := 6) hX (c_M_told l) mi_M_told ini_M im_M_told se_M_told lk_L_98 dn_M_told rfl pre_M_told (by decide) (by decide), callSW_ok (ct := ct_L_agreed) hX (c_L_agreed l hl) mi_L_agreed ini_L st_L_agreed lk_L_99 dn_L_agreed pre_L_agreed (by decide) (by decide), callV_ok (ct := ct_M_agreed) (ci := 6) hX (c_M_agreed l) mi_M_agreed ini_M im_M_agreed se_M_agreed lk_L_101 dn_M_agreed rfl pre_M_agreed (by decide) (by decide), callSW_ok (ct := ct_L_table) hX (c_L_table l hl) mi_L_table ini_L st_L_table lk_L_102 dn_L_table pre_L_table (by decide) (by decide), callV_ok (ct := ct_M_table) (ci := 6) hX (c_M_table l) mi_M_table ini_M im_M_table se_M_table lk_L_104 dn_M_table rfl pre_M_table (by decide) (by decide), trivial⟩
  have hl0 := lv_entry [Value.ref b] (n := 7) (by simp [lg_sl, Value.category])
  rw [lg_entry_eq]
  exact law_start hH hSc hbl (Nat.not_le.mpr hbl) hL s.heap [] _ gP_0 va_S.rf hl0
set_option maxHeartbeats 4000000 in
theorem lw_walk (l : Launch) (hlf : l.flags = flags0) (b : Addr) (xs : List Int32) : MetFree l x (headSpec (Jvm.Cond.code x code maxLocals ret :: tables_1) room_1) (lw_P b xs) (fun _ _ _ _ _ => True) lw_Q := by
  refine MetFree.of_bodyS (code := code) (maxLocals := maxLocals) (ret := ret) (by decide) ?_ ?_
  · intro args s m h hn
    obtain ⟨meth, c, h1, h2, h3, h4, h5, h6, -, -⟩ := Cond.code_spec hn (atoms_spec (ws := Jvm.Cond.code x code maxLocals ret :: tables_1) h _ List.mem_cons_self)
    exact ⟨meth, c, h1, h2, h3, h4, h5, h6⟩
  · intro p e s m args below meth c s₁ B hml0 hP _
    obtain ⟨rfl, hx, hbd, hgv⟩ := hP
    obtain ⟨scr, harrAt, hlist, hof, hsmall⟩ := hx
    obtain ⟨hcb, hkn, -, -⟩ := State.arrayAt?_spec harrAt
    have hown : s.vm.findClass R_law = some m.cls := findClass_of_methodNamed B.named
    have hts0 : ∀ c ∈ (Jvm.Cond.code x code maxLocals ret :: tables_1), c.before #[Value.ref b] s = true := atoms_spec (ws := Jvm.Cond.code x code maxLocals ret :: tables_1) B.pre
    have hts : ∀ w ∈ lw_tbl, w.before #[Value.ref b] s = true := k2_hts_sels lw_privs (fun w hw => hts0 w (List.mem_cons_of_mem _ hw)) lw_privs_ok
    have hml : c.maxLocals = 7 := B.maxLocals_eq (hts0 _ List.mem_cons_self)
    have X₀ : Stand p l e room_1 s m #[Value.ref b] below meth c s₁ [] 0 0 := Stand.of_body B
    have hh0 : s₁.heap = s.heap := by rw [B.state]; rfl
    have hsz : scr.slots.size = xs.length := by rw [← Array.length_toList, hlist, List.length_map]
    have hval : ∀ j : Nat, j < xs.length → scr.slots[j]? = some (.int (xs.getD j 0)) := fun j hj => by
      rw [← Array.getElem?_toList, hlist]
      simp [hj]
    have hbl : b < s.heap.size := (Array.getElem?_eq_some_iff.mp hcb).1
    have hX : va_X b xs.length (fun j => xs.getD j 0) s s.heap := ⟨scr, hcb, hof, hkn, hsz, hval⟩
    have K : W p l e room_1 s m #[Value.ref b] below meth c s₁.heap [] 0 0 (lw_Z below #[Value.ref b] s) (entryFrame m ([Value.ref b] : List Value).toArray 7) := by
      rw [hh0]
      exact whole_start l hlf hbd ⟨B.exec, B.bytes, B.returns, hml, hown, hts, hX, hbl, B.notSynchronized, hgv⟩
    obtain ⟨t, a1, o, b1, b2, b3⟩ := K s₁ rfl X₀
    exact ⟨t, o, a1, b1, b2, b3⟩
theorem lw_pre_spec {args : Array Value} {s : State} (h : (Jvm.Cond.and given_1 narrow_1).before args s = true) (hr : rest_1_c.before args s = true) : ∃ (b : Addr) (xs : List Int32), lw_P b xs args s := by
  have hs := flat_of_before _ h
  have hq := flat_of_before _ hr
  have hc : (Cond.count 1).before args s = true := hs _ (by decide +kernel)
  have harr : (Cond.arrayOf (.arg 0) .int).before args s = true := hs _ (by decide +kernel)
  have hle : (Cond.le (.length (.arg 0)) (.int 3072)).before args s = true := hs _ (by decide +kernel)
  have hlen : (Cond.isInt (.length (.arg 0))).before args s = true := hq _ (by decide +kernel)
  have hall : (Cond.all (.arg 0) (.isInt (.elem (.arg 0) (.index 0)))).before args s = true := hq _ (by decide +kernel)
  obtain ⟨b, xs, hb, hx⟩ := State.ints_of_pre rfl harr hlen hall
  have hsm : xs.length < 2 ^ 31 := hx.choose_spec.2.2.2
  have hev : (Term.length (.arg 0)).eval args s none [] s = some (.int xs.length.toInt32) := hx.length_eval hb
  have hv := Cond.le_ints hev (show (Term.int 3072).eval args s none [] s = some (.int 3072) from rfl)
  have hd : xs.length.toInt32 ≤ 3072 := by
    simpa [Cond.before, Cond.holds, hv] using hle
  have hN : xs.length ≤ 3072 := (Int32.ofNat_le_ofNat hsm (by decide)).mp (show Int32.ofNat xs.length ≤ Int32.ofNat 3072 from hd)
  exact ⟨b, xs, Cond.one_arg hc (show args[0]? = some (.ref b) from hb), hx, hN, h⟩
theorem lw_comes (l : Launch) (hlf : l.flags = flags0) : Comes l x (Jvm.Cond.code x code maxLocals ret :: tables_1) room_1 (fun tb e args s => Calls_1 tb e args s ∧ rest_1 tb e args s ∧ Pre_1 tb e args s)
    (fun _ _ args s o t => lw_Q args s o t) := by
  intro p e ha hc hk s m args below hf hfit hheap happ hpre
  obtain ⟨b, xs, hP⟩ := lw_pre_spec hpre.2.2 hpre.2.1
  obtain ⟨k, o, h1, h2, h3, hQ⟩ := lw_walk l hlf b xs p e ha hc hk s m args below hf ((Spec.applies_iff_loose hf).mp happ).1 hP trivial
  exact ⟨k, o, h1, h2, h3, hQ⟩
theorem lw_frame {s t : State} {o : Outcome} {args : Array Value} (h : Framed s o t [] 601024 7293034) :
    Framed s o t (fieldLocs frame_1_writes args s ++ arrayLocs frame_1_arrays args s ++ staticLocs frame_1_statics s) 601024 7293034 := h
theorem lw_limb (L : Cond) (hL : ∀ (args : Array Value) (s t : State), L.after args s (.returned (some (.int 1))) t = true) :
    ArmFor flags0 classFile x code maxLocals ret World_1 tables_1 room_1 Calls_1 rest_1 Pre_1
      (fun tb e a s o t => postC L tb e a s o t ∧ Framed s o t (fieldLocs frame_1_writes a s ++ arrayLocs frame_1_arrays a s ++ staticLocs frame_1_statics s) 601024 7293034) := by
  intro l hlf _ _ p e ha hc hk s m args below hf hfit hheap happ hpre
  obtain ⟨k, o, h1, h2, h3, rfl, hF⟩ := lw_comes l hlf p e ha hc hk s m args below hf hfit hheap happ hpre
  exact ⟨k, _, h1, h2, h3, hL args s _, lw_frame hF⟩
theorem i_vc : Claimed_1_1 ∧ Claimed_1_2 := ⟨lw_limb limb_1_1 (fun args s t => by simp [limb_1_1, Cond.after, Cond.holds, Cond.value]), lw_limb limb_1_2 (fun args s t => Cond.after_iff.mpr (by
  first | (rw [show limb_1_2 = Cond.eq .result (.int 1) from rfl, Cond.eq_ints (x := 1) (y := 1) rfl rfl]; simp; done) | (simp [limb_1_2, Cond.value, Term.eval]; done)))⟩
