/-! the reference reads a whole text -/
def offs : List (Int32 × List pt) → Nat → Nat
  | [], _ => 0
  | _ :: _, 0 => 0
  | c :: r, i + 1 => c.2.length + offs r i
theorem offs_0 (rs : List (Int32 × List pt)) : offs rs 0 = 0 := by cases rs <;> rfl
theorem offs_s : ∀ {rs : List (Int32 × List pt)} {i : Nat} {c : Int32} {ps : List pt}, rs[i]? = some (c, ps) → offs rs (i + 1) = offs rs i + ps.length
  | [], i, c, ps, h => by cases h
  | x :: r, 0, c, ps, h => by
    simp at h
    subst h
    show ps.length + offs r 0 = offs ((c, ps) :: r) 0 + ps.length
    rw [offs_0, offs_0]
    omega
  | x :: r, i + 1, c, ps, h => by
    have := offs_s (rs := r) (i := i) (c := c) (ps := ps) (by simpa using h)
    show x.2.length + offs r (i + 1) = x.2.length + offs r i + ps.length
    omega
theorem offs_le1 : ∀ (rs : List (Int32 × List pt)) (i : Nat), offs rs i ≤ offs rs (i + 1)
  | [], i => Nat.le_refl _
  | x :: r, 0 => Nat.zero_le _
  | x :: r, i + 1 => Nat.add_le_add_left (offs_le1 r i) _
theorem offs_mono (rs : List (Int32 × List pt)) {i j : Nat} (h : i ≤ j) : offs rs i ≤ offs rs j := by
  induction h with
  | refl => exact Nat.le_refl _
  | step _ ih => exact Nat.le_trans ih (offs_le1 rs _)
theorem offs_snoc (x : Int32 × List pt) : ∀ (rs : List (Int32 × List pt)) (i : Nat), i ≤ rs.length → offs (rs ++ [x]) i = offs rs i
  | [], i, h => by
    have : i = 0 := by simpa using h
    subst this
    rfl
  | y :: r, 0, h => rfl
  | y :: r, i + 1, h => by
    show y.2.length + offs (r ++ [x]) i = y.2.length + offs r i
    rw [offs_snoc x r i (by simpa using h)]
theorem offs_end (x : Int32 × List pt) : ∀ (rs : List (Int32 × List pt)), offs (rs ++ [x]) (rs.length + 1) = offs rs rs.length + x.2.length
  | [] => by
    show x.2.length + 0 = 0 + x.2.length
    omega
  | y :: r => by
    show y.2.length + offs (r ++ [x]) (r.length + 1) = y.2.length + offs r r.length + x.2.length
    rw [offs_end x r]
    omega
def nbH (has : Nat → Bool) : Nat := (has 0).toNat + (has 1).toNat + (has 2).toNat + (has 3).toNat + (has 4).toNat + (has 5).toNat + (has 6).toNat + (has 7).toNat
theorem nbH_all {has : Nat → Bool} (h : nbH has = 8) : ∀ j, j < 8 → has j = true := by
  have key : ∀ b : Bool, b.toNat ≤ 1 := fun b => by cases b <;> decide
  have key2 : ∀ b : Bool, b.toNat = 1 → b = true := fun b hb => by cases b; cases hb; rfl
  have k0 := key (has 0)
  have k1 := key (has 1)
  have k2 := key (has 2)
  have k3 := key (has 3)
  have k4 := key (has 4)
  have k5 := key (has 5)
  have k6 := key (has 6)
  have k7 := key (has 7)
  unfold nbH at h
  intro j hj
  apply key2
  rcases (by omega : j = 0 ∨ j = 1 ∨ j = 2 ∨ j = 3 ∨ j = 4 ∨ j = 5 ∨ j = 6 ∨ j = 7) with rfl | rfl | rfl | rfl | rfl | rfl | rfl | rfl <;> omega
theorem nbH_up {has : Nat → Bool} {q : Nat} (hq : q < 8) (hf : has q = false) : nbH (fun j => if j = q then true else has j) = nbH has + 1 := by
  unfold nbH
  rcases (by omega : q = 0 ∨ q = 1 ∨ q = 2 ∨ q = 3 ∨ q = 4 ∨ q = 5 ∨ q = 6 ∨ q = 7) with rfl | rfl | rfl | rfl | rfl | rfl | rfl | rfl <;> simp [hf] <;> omega
def keepZ (B B1 : Nat → Nat → Int32) : Prop := (∀ k, k < 3 ∨ 11 < k → B1 k = B k) ∧ (∀ i, i ≠ 6 → B1 3 i = B 3 i ∧ B1 5 i = B 5 i ∧ B1 8 i = B 8 i) ∧ (∀ i, i < 48 → B1 4 i = B 4 i ∧ B1 6 i = B 6 i ∧ B1 7 i = B 7 i) ∧ ∀ i, i < 768 → B1 9 i = B 9 i ∧ B1 10 i = B 10 i ∧ B1 11 i = B 11 i
theorem keepZ.r {B B1 B2 : Nat → Nat → Int32} {n o : Nat} (h : keepZ B B1) (h2 : keepR B1 B2 n o) : keepZ B B2 := by
  refine ⟨fun k hk => (h2.1 k (by omega)).trans (h.1 k hk), fun i hi => ⟨?_, ?_, ?_⟩, fun i hi => ⟨?_, ?_, ?_⟩, fun i hi => ⟨?_, ?_, ?_⟩⟩
  · rw [h2.1 3 (by omega)]; exact (h.2.1 i hi).1
  · exact (h2.2.1 i hi).1.trans (h.2.1 i hi).2.1
  · exact (h2.2.1 i hi).2.trans (h.2.1 i hi).2.2
  · rw [h2.1 4 (by omega)]; exact (h.2.2.1 i hi).1
  · exact (h2.2.2.1 i (by omega)).1.trans (h.2.2.1 i hi).2.1
  · exact (h2.2.2.1 i (by omega)).2.trans (h.2.2.1 i hi).2.2
  · exact (h2.2.2.2 i (by omega)).1.trans (h.2.2.2 i hi).1
  · exact (h2.2.2.2 i (by omega)).2.1.trans (h.2.2.2 i hi).2.1
  · exact (h2.2.2.2 i (by omega)).2.2.trans (h.2.2.2 i hi).2.2
def tableQ (B : Nat → Nat → Int32) (xs : List Int32) : Prop := B 3 6 = nI xs.length ∧ ∀ i x, xs[i]? = some x → B 4 (48 + i) = x
def rulesQ (B : Nat → Nat → Int32) (rs : List (Int32 × List pt)) : Prop := B 5 6 = nI rs.length ∧ B 8 6 = nI (offs rs rs.length) ∧ ∀ i c ps, rs[i]? = some (c, ps) → B 6 (48 + i) = c ∧ B 7 (48 + i) = nI (offs rs (i + 1)) ∧ partsQ B (offs rs i) ps
def rdI (B1 : Nat → Nat → Int32) (xs : List Int32) (rs : List (Int32 × List pt)) : Prop := tableQ B1 xs ∧ rulesQ B1 rs ∧ nbH (hasL rs) = rs.length ∧ (∀ (i : Nat) c ps, rs[i]? = some (c, ps) → vp_in c 8) ∧ offs rs rs.length ≤ 15 * rs.length ∧ rs.length ≤ 8
theorem getlt {α : Type} {l : List α} {i : Nat} {x : α} (h : l[i]? = some x) : i < l.length := by
  by_cases hi : i < l.length
  · exact hi
  · rw [List.getElem?_eq_none (by omega)] at h
    cases h
theorem vp_inj {a b : Int32} (ha : vp_in a 8) (hb : vp_in b 8) (h : a.toNatClampNeg = b.toNatClampNeg) : a = b := by
  obtain ⟨i, hi, rfl⟩ := vp_in_of ha (by omega)
  obtain ⟨j, hj, rfl⟩ := vp_in_of hb (by omega)
  rw [nI_clamp (by omega), nI_clamp (by omega)] at h
  rw [h]
theorem rdI.told {B1 : Nat → Nat → Int32} {xs : List Int32} {rs : List (Int32 × List pt)} (h : rdI B1 xs rs) : toldQ B1 rs.length (hasL rs) := by
  refine ⟨h.2.2.2.2.2, h.2.1.1, fun c h1 h2 => ⟨fun hh => ?_, ?_⟩⟩
  · unfold hasL at hh
    rw [List.any_eq_true] at hh
    obtain ⟨⟨c', ps⟩, hx, he⟩ := hh
    obtain ⟨i, hi⟩ := List.mem_iff_getElem?.mp hx
    refine ⟨i, getlt hi, ?_⟩
    rw [(h.2.1.2.2 i c' ps hi).1]
    exact vp_inj (h.2.2.2.1 i c' ps hi) (vin_rule ⟨h1, h2⟩) (by simpa using he)
  · rintro ⟨i, hi, he⟩
    obtain ⟨⟨c', ps⟩, hx⟩ : ∃ x, rs[i]? = some x := ⟨rs[i], List.getElem?_eq_getElem hi⟩
    have := (h.2.1.2.2 i c' ps hx).1
    rw [he] at this
    subst this
    exact hasL_get hx
theorem rdI.room {B1 : Nat → Nat → Int32} {xs : List Int32} {rs : List (Int32 × List pt)} (h : rdI B1 xs rs) : (rs.length < 8 ∧ offs rs rs.length ≤ 112) ∨ ∀ c : Int32, 0 ≤ c → c ≤ 7 → hasL rs c.toNatClampNeg = true := by
  obtain ⟨-, -, hn, -, ho, h8⟩ := h
  by_cases hl : rs.length < 8
  · exact Or.inl ⟨hl, by omega⟩
  · refine Or.inr (fun c h1 h2 => ?_)
    obtain ⟨j, hj, rfl⟩ := vp_in_of (vin_rule ⟨h1, h2⟩) (by omega)
    rw [nI_clamp (by omega)]
    exact nbH_all (by omega) j hj
theorem partsQ_keep {B B2 : Nat → Nat → Int32} {q o : Nat} {ps : List pt} (h : partsQ B q ps) (hq : q + ps.length ≤ o) (hk : ∀ i, i < 768 + o → B2 9 i = B 9 i ∧ B2 10 i = B 10 i ∧ B2 11 i = B 11 i) : partsQ B2 q ps := by
  intro i p hp
  have := getlt hp
  obtain ⟨k1, k2, k3⟩ := hk (768 + (q + i)) (by omega)
  rw [k1, k2, k3]
  exact h i p hp
theorem rdI.snoc {B1 B2 : Nat → Nat → Int32} {xs : List Int32} {rs : List (Int32 × List pt)} {c : Int32} {ps : List pt} (h : rdI B1 xs rs) (hk : keepR B1 B2 rs.length (offs rs rs.length)) (hc : vp_in c 8) (hh : hasL rs c.toNatClampNeg = false) (hn : rs.length < 8) (h5 : B2 5 6 = nI (rs.length + 1)) (h6 : B2 6 (48 + rs.length) = c) (h7 : B2 7 (48 + rs.length) = nI (offs rs rs.length + ps.length)) (h8 : B2 8 6 = nI (offs rs rs.length + ps.length)) (hl : ps.length ≤ 15) (hp : partsQ B2 (offs rs rs.length) ps) : rdI B2 xs (rs ++ [(c, ps)]) := by
  obtain ⟨hT, hR, hN, hV, hO, -⟩ := h
  have el : (rs ++ [(c, ps)]).length = rs.length + 1 := by simp
  obtain ⟨jc, hjc, ejc⟩ := vp_in_of hc (by omega)
  refine ⟨⟨?_, ?_⟩, ⟨?_, ?_, ?_⟩, ?_, ?_, ?_, ?_⟩
  · rw [hk.1 3 (by omega)]; exact hT.1
  · rw [hk.1 4 (by omega)]; exact hT.2
  · rw [el]; exact h5
  · rw [el, offs_end]; exact h8
  · intro i c' ps' hi
    rcases snoc_get hi with ⟨rfl, e⟩ | ⟨h1, h2⟩
    · cases e
      rw [offs_end, offs_snoc _ _ _ (Nat.le_refl _)]
      exact ⟨h6, h7, hp⟩
    · obtain ⟨y1, y2, y3⟩ := hR.2.2 i c' ps' h2
      rw [offs_snoc _ _ _ (by omega), offs_snoc _ _ _ (by omega), (hk.2.2.1 (48 + i) (by omega)).1, (hk.2.2.1 (48 + i) (by omega)).2]
      refine ⟨y1, y2, partsQ_keep y3 ?_ hk.2.2.2⟩
      rw [← offs_s h2]
      exact offs_mono rs (by omega)
  · rw [hasL_snoc, el, nbH_up (by rw [ejc, nI_clamp (by omega)]; exact hjc) hh, hN]
  · intro i c' ps' hi
    rcases snoc_get hi with ⟨rfl, e⟩ | ⟨h1, h2⟩
    · cases e
      exact hc
    · exact hV i c' ps' h2
  · rw [el, offs_end]
    show offs rs rs.length + ps.length ≤ _
    omega
  · rw [el]
    omega
noncomputable def ct_M_readAll : wE → CallT := fun E As G KR _ => ∃ (M : Nat → Nat) (S : Nat → Int32) (B : Nat → Nat → Int32), As = [.ref (M 0)] ∧ G (M 0) = some (mC M S) ∧ RepQ M E S B G ∧ okP (S 2) 0 ∧
  ∀ (S' : Nat → Int32) (B' : Nat → Nat → Int32) (G1 : gH), RepQ M E S' B' G1 → FrM M G G1 → keepS S S' → keepZ B B' → (∀ xs rs, (rd (B 1) (S 2)).2 = some (xs, rs) → S' 4 = 0 ∧ S' 5 = -1 ∧ rdI B' xs rs) → ((rd (B 1) (S 2)).2 = none → S' 4 = 1 ∧ S' 5 = (rd (B 1) (S 2)).1) → KR none G1
def ra46 (G : gH) (M : Nat → Nat) (E : wE) (S : Nat → Int32) (B : Nat → Nat → Int32) (n : Nat) (vs st : List Value) (G1 : gH) (k d : Nat) : Prop :=
  ∃ (S1 : Nat → Int32) (B1 : Nat → Nat → Int32), vs = [.ref (M 0)] ∧ st = [] ∧ k = 0 ∧ d = 0 ∧ RepQ M E S1 B1 G1 ∧ FrM M G G1 ∧ keepS S S1 ∧ keepZ B B1 ∧ ((∃ (xs : List Int32) (rs : List (Int32 × List pt)), S1 4 = 0 ∧ S1 5 = -1 ∧ okP (S 2) (S1 3) ∧ rd (B 1) (S 2) = rdL (B 1) (S 2) xs (8 - rs.length) (S1 3) rs ∧ rdI B1 xs rs ∧ n = 9 - rs.length) ∨ (S1 4 = 1 ∧ rd (B 1) (S 2) = (S1 5, none) ∧ n = 0))
theorem rd_tn {t : Nat → Int32} {L a1 : Int32} (h : rtb t L 0 = (a1, none)) : rd t L = (a1, none) := by
  unfold rd
  simp only [h]
theorem rd_tr {t : Nat → Int32} {L a1 a2 : Int32} {xs : List Int32} (h : rtb t L 0 = (a1, some xs)) (h2 : rr t L (hasL []) a1 = (a2, none)) : rd t L = (a2, none) := by
  unfold rd
  simp only [h, h2]
theorem rd_ts {t : Nat → Int32} {L a1 a2 : Int32} {xs : List Int32} {c : Int32 × List pt} (h : rtb t L 0 = (a1, some xs)) (h2 : rr t L (hasL []) a1 = (a2, some c)) : rd t L = rdL t L xs 7 a2 [c] := by
  unfold rd
  simp only [h, h2]
theorem rdL_n {t : Nat → Int32} {L a a2 : Int32} {xs : List Int32} {rs : List (Int32 × List pt)} {n : Nat} (hc : ¬ chI t L (skI t L a) = -1) (h : rr t L (hasL rs) (skI t L a) = (a2, none)) : rdL t L xs (n + 1) a rs = (a2, none) := by
  rw [rdL_s, if_neg hc]
  simp only [h]
theorem rdL_m {t : Nat → Int32} {L a a2 : Int32} {xs : List Int32} {rs : List (Int32 × List pt)} {n : Nat} {c : Int32 × List pt} (hc : ¬ chI t L (skI t L a) = -1) (h : rr t L (hasL rs) (skI t L a) = (a2, some c)) : rdL t L xs (n + 1) a rs = rdL t L xs n a2 (rs ++ [c]) := by
  rw [rdL_s, if_neg hc]
  simp only [h]
theorem rdL_e {t : Nat → Int32} {L a : Int32} {xs : List Int32} {rs : List (Int32 × List pt)} (ho : okP L a) (hc : chI t L (skI t L a) = -1) : ∀ n, (rdL t L xs n a rs).2 = some (xs, rs)
  | 0 => by
    show (rdF t L a xs rs).2 = _
    rw [rdF, if_pos hc]
  | n + 1 => by
    rw [rdL_s, if_pos hc, rdF, sk2 ho, if_pos hc]
def cs_M_readAll (E : wE) : List (Nat × (Nat × Nat × Nat × Nat × CallT)) := [(130, (2, 1, 0, 0, ct_M_readTable E)), (133, (2, 1, 0, 0, ct_M_readRule E)), (98, (2, 1, 0, 0, ct_M_see E))]
theorem csx_M_readAll_130 (E : wE) : lk (cs_M_readAll E) 130 = some (2, 1, 0, 0, ct_M_readTable E) := rfl
theorem csx_M_readAll_133 (E : wE) : lk (cs_M_readAll E) 133 = some (2, 1, 0, 0, ct_M_readRule E) := rfl
theorem csx_M_readAll_98 (E : wE) : lk (cs_M_readAll E) 98 = some (2, 1, 0, 0, ct_M_see E) := rfl
set_option maxRecDepth 100000 in
set_option maxHeartbeats 8000000 in
theorem c_M_readAll (l : Launch) : Con l y_M_readAll b_M_readAll 1 none 6 0 0 ct_M_readAll := by
  refine Con_of (by decide) (fun E av G RP TP h => ?_) (fun E av G RP TP h A Q p e s m args below meth c hR hn => ?_)
  · obtain ⟨M, S, B0, rfl, hm, hq, hok, h⟩ := h
    simp [lg_sl, Value.category]
  · obtain ⟨M, S, B0, rfl, hm, hq, hok, h⟩ := h
    have hX := hR.1
    have hH := wpH_of hR rfl rfl fl_M fl_M_ok none (fun ci h => by cases h) nw_M nw_M_ok (nq_M E) (nq_M_ok E) ac_int ac_long (cs_M_readAll E) ⟨callV_ok (ct := ct_M_readTable) (ci := 6) hX (c_M_readTable l) mi_M_readTable ini_M im_M_readTable se_M_readTable lk_M_130 dn_M_readTable rfl pre_M_readTable (by decide) (by decide), callV_ok (ct := ct_M_readRule) (ci := 6) hX (c_M_readRule l) mi_M_readRule ini_M im_M_readRule se_M_readRule lk_M_133 dn_M_readRule rfl pre_M_readRule (by decide) (by decide), callV_ok (ct := ct_M_see) (ci := 6) hX (c_M_see l) mi_M_see ini_M im_M_see se_M_see lk_M_98 dn_M_see rfl pre_M_see (by decide) (by decide), trivial⟩
    have n_0_5 : M 0 ≠ M 5 := hq.ne 0 5
    have n_0_8 : M 0 ≠ M 8 := hq.ne 0 8
    have n_5_0 : M 5 ≠ M 0 := hq.ne 5 0
    have n_5_8 : M 5 ≠ M 8 := hq.ne 5 8
    have n_8_0 : M 8 ≠ M 0 := hq.ne 8 0
    have n_8_5 : M 8 ≠ M 5 := hq.ne 8 5
    have a5 : G (M 5) = some (.inl (E.2.2 0, 7, .inl (B0 5))) := hq.ar 5
    have a8 : G (M 8) = some (.inl (E.2.2 0, 7, .inl (B0 8))) := hq.ar 8
    refine startV hH [(46, ([0], fun vs st G1 k d => ∃ n, ra46 G M E S B0 n vs st G1 k d))] ⟨fun vs st G1 k d hi => ?_, trivial⟩ 60 ?_
    · obtain ⟨n, hi⟩ := hi
      refine loopV hH 46 [0] (ra46 G M E S B0) [] trivial 40 ?_ n vs st G1 k d hi
      rintro n vs st G1 k d ⟨S1, B1, rfl, rfl, rfl, rfl, hq1, hf1, hk1, hz1, hi⟩
      have m1 := hq1.hm
      have e2 : S1 2 = S 2 := hk1.n2
      have eB : B1 1 = B0 1 := hz1.1 1 (by omega)
      rcases hi with ⟨xs, rs, hw1, h51, hok1, hrd, hI, hn⟩ | ⟨hw1, hrd, hn⟩
      · have hl8 : rs.length ≤ 8 := hI.2.2.2.2.2
        have hw3 : (S1 4 = 0) = True := eq_true hw1
        simp only [wp_s, wp1_s, wpX_i, wpX_c, toOpt_ok, wI_iconst, wI_bipush, wI_sipush, wI_lconst, wI_aconst_null, wI_iadd, wI_isub, wI_imul, wI_iand, wI_ior, wI_ixor, wI_ishl, wI_ishr, wI_iushr, wI_idiv, wI_irem, wI_ineg, wI_ladd, wI_lsub, wI_lmul, wI_land, wI_lor, wI_lxor, wI_lshl, wI_lushr, wI_lshr, wI_lcmp, wI_i2l, wI_l2i, wI_i2b, wI_i2c, wI_dup, wI_pop, wI_dup_x1, wI_dup_x2, wI_dup2, wI_iload_n, wI_iload, wI_lload_n, wI_lload, wI_aload_n, wI_aload, wI_istore_n, wI_istore, wI_lstore_n, wI_lstore, wI_astore_n, wI_astore_nN, wI_astore, wI_astoreN, wI_iinc, wI_if_eq, wI_icmp_eq, wI_if_ne, wI_icmp_ne, wI_if_lt, wI_icmp_lt, wI_if_ge, wI_icmp_ge, wI_if_gt, wI_icmp_gt, wI_if_le, wI_icmp_le, wI_goto, wI_ifnullN, wI_ifnullR, wI_ifnonnullN, wI_ifnonnullR, wI_tableswitch, wI_lookupswitch, wI_getfield, wI_putfield, wI_iaload, wI_laload, wI_aaload, wI_iastore, wI_lastore, wI_aastore, wI_arraylength, wI_new, wI_newarray_int, wI_newarray_long, wI_anewarray, wI_invokestatic, wI_invokespecial, wI_invokevirtual, wI_ireturn, wI_return_, lg, ldel, lset, lset2, lgs, lk_nil, lk_cons, lv_args, csum, tg, swT, swL, Value.category, fv0, fv1, fv2, fv3, kc_b_6, kc_b_7, kc_b_8, kc_b_9, kc_b_10, kc_b_15, kc_b_20, kc_b_32, kc_b_42, kc_b_43, kc_b_44, kc_b_45, kc_b_47, kc_b_48, kc_b_56, kc_b_57, kc_b_59, kc_b_61, kc_b_80, kc_b_91, kc_b_93, kc_b_97, kc_b_100, kc_b_104, kc_b_107, kc_b_108, kc_b_110, kc_b_116, kc_b_119, kc_i_m1, kc_i_0, kc_i_1, kc_i_2, kc_i_3, kc_i_4, kc_i_5, kc_i_6, kc_s_m9999, kc_s_128, kc_s_200, kc_s_255, kc_s_768, kc_s_896, kc_s_1000, kc_s_9999, List.take_succ_cons, List.take_zero, List.drop_succ_cons, List.drop_zero, List.reverse_cons, List.reverse_nil, List.nil_append, List.cons_append, List.append_nil, List.singleton_append, Option.toList_some, Option.toList_none, List.getElem?_cons_zero, List.getElem?_cons_succ, List.set_cons_zero, List.set_cons_succ, List.length_cons, List.length_nil, ↓reduceIte, reduceCtorEq, and_true, true_and, and_self, implies_true, forall_const, Nat.zero_add, Nat.add_zero, Nat.le_refl, Nat.zero_le, Int.cast_ofNat_Int, cast0, cast1, false_and, and_false, false_implies, true_implies, not_true_eq_false, not_false_eq_true, Nat.reduceAdd, Nat.reduceEqDiff, Nat.reduceLeDiff, Nat.reduceSub, Nat.reduceMul, Int.reduceAdd, Int.reduceNeg, Int.reduceLE, Int.reduceSub, Int.reduceToNat, Int.reduceEq, Nat.reduceBEq, Nat.reduceLT, bI_0, Classical.not_not, exists_eq', exists_eq, i10, i01, im10, na_i, fi_i, na_l, na_o, fi_o, na_on, fi_on, na_a, fi_a, na_b0, na_b1, isA_2, isA_3, isAof_2, isAof_3, vrf_s, vrf_n, eq_self, true_or, or_true, or_false, false_or, ne_eq, Option.some.injEq, Sum.inr.injEq, Sum.inl.injEq, Prod.mk.injEq, List.cons.injEq, Value.ref.injEq, Value.int.injEq, Value.long.injEq, exists_and_left, exists_and_right, exists_eq_left, exists_eq_left', exists_eq_right, exists_eq_right', exists_const, and_assoc, gset_at, gset_gset, List.zip_cons_cons, List.zip_nil_right, List.zip_nil_left, List.zipWith_cons_cons, List.zipWith_nil_right, List.zip, List.zipWith, d_M_readAll_0, d_M_readAll_1, d_M_readAll_2, d_M_readAll_5, d_M_readAll_6, d_M_readAll_7, d_M_readAll_10, d_M_readAll_11, d_M_readAll_12, d_M_readAll_15, d_M_readAll_16, d_M_readAll_19, d_M_readAll_21, d_M_readAll_22, d_M_readAll_23, d_M_readAll_24, d_M_readAll_27, d_M_readAll_29, d_M_readAll_30, d_M_readAll_31, d_M_readAll_32, d_M_readAll_35, d_M_readAll_36, d_M_readAll_39, d_M_readAll_42, d_M_readAll_43, d_M_readAll_46, d_M_readAll_47, d_M_readAll_50, d_M_readAll_53, d_M_readAll_54, d_M_readAll_57, d_M_readAll_58, d_M_readAll_61, d_M_readAll_62, d_M_readAll_65, d_M_readAll_68, flx_M_92, flx_M_88, flx_M_13, flx_M_26, flx_M_35, csx_M_readAll_130, csx_M_readAll_133, csx_M_readAll_98, m1, hw3, mC, sup_at, v7_6, i6c, n_0_5, n_0_8, n_5_0, n_5_8, n_8_0, n_8_5]
        refine ⟨M, S1, B0 1, rfl, hq1.hm, by rw [← eB]; exact hq1.ar 1, okP_Q (by rw [e2]; exact hok1), ?_⟩
        rw [e2]
        obtain ⟨b, hb⟩ : ∃ b, b = skI (B0 1) (S 2) (S1 3) := ⟨_, rfl⟩
        have hokb : okP (S 2) b := by rw [hb]; exact okP_sk hok1
        rw [← hb]
        have hq2 := hq1.setS (sup S1 3 b)
        have hf2 : FrM M G (gset G1 (M 0) (mC M (sup S1 3 b))) := hf1.set 0
        generalize gset G1 (M 0) (mC M (sup S1 3 b)) = G2 at hq2 hf2 ⊢
        by_cases hc : chI (B0 1) (S 2) b = -1
        · have hc2 : (chI (B0 1) (S 2) b = -1) = True := eq_true hc
          simp only [wp_s, wp1_s, wpX_i, wpX_c, toOpt_ok, wI_iconst, wI_bipush, wI_sipush, wI_lconst, wI_aconst_null, wI_iadd, wI_isub, wI_imul, wI_iand, wI_ior, wI_ixor, wI_ishl, wI_ishr, wI_iushr, wI_idiv, wI_irem, wI_ineg, wI_ladd, wI_lsub, wI_lmul, wI_land, wI_lor, wI_lxor, wI_lshl, wI_lushr, wI_lshr, wI_lcmp, wI_i2l, wI_l2i, wI_i2b, wI_i2c, wI_dup, wI_pop, wI_dup_x1, wI_dup_x2, wI_dup2, wI_iload_n, wI_iload, wI_lload_n, wI_lload, wI_aload_n, wI_aload, wI_istore_n, wI_istore, wI_lstore_n, wI_lstore, wI_astore_n, wI_astore_nN, wI_astore, wI_astoreN, wI_iinc, wI_if_eq, wI_icmp_eq, wI_if_ne, wI_icmp_ne, wI_if_lt, wI_icmp_lt, wI_if_ge, wI_icmp_ge, wI_if_gt, wI_icmp_gt, wI_if_le, wI_icmp_le, wI_goto, wI_ifnullN, wI_ifnullR, wI_ifnonnullN, wI_ifnonnullR, wI_tableswitch, wI_lookupswitch, wI_getfield, wI_putfield, wI_iaload, wI_laload, wI_aaload, wI_iastore, wI_lastore, wI_aastore, wI_arraylength, wI_new, wI_newarray_int, wI_newarray_long, wI_anewarray, wI_invokestatic, wI_invokespecial, wI_invokevirtual, wI_ireturn, wI_return_, lg, ldel, lset, lset2, lgs, lk_nil, lk_cons, lv_args, csum, tg, swT, swL, Value.category, fv0, fv1, fv2, fv3, kc_b_6, kc_b_7, kc_b_8, kc_b_9, kc_b_10, kc_b_15, kc_b_20, kc_b_32, kc_b_42, kc_b_43, kc_b_44, kc_b_45, kc_b_47, kc_b_48, kc_b_56, kc_b_57, kc_b_59, kc_b_61, kc_b_80, kc_b_91, kc_b_93, kc_b_97, kc_b_100, kc_b_104, kc_b_107, kc_b_108, kc_b_110, kc_b_116, kc_b_119, kc_i_m1, kc_i_0, kc_i_1, kc_i_2, kc_i_3, kc_i_4, kc_i_5, kc_i_6, kc_s_m9999, kc_s_128, kc_s_200, kc_s_255, kc_s_768, kc_s_896, kc_s_1000, kc_s_9999, List.take_succ_cons, List.take_zero, List.drop_succ_cons, List.drop_zero, List.reverse_cons, List.reverse_nil, List.nil_append, List.cons_append, List.append_nil, List.singleton_append, Option.toList_some, Option.toList_none, List.getElem?_cons_zero, List.getElem?_cons_succ, List.set_cons_zero, List.set_cons_succ, List.length_cons, List.length_nil, ↓reduceIte, reduceCtorEq, and_true, true_and, and_self, implies_true, forall_const, Nat.zero_add, Nat.add_zero, Nat.le_refl, Nat.zero_le, Int.cast_ofNat_Int, cast0, cast1, false_and, and_false, false_implies, true_implies, not_true_eq_false, not_false_eq_true, Nat.reduceAdd, Nat.reduceEqDiff, Nat.reduceLeDiff, Nat.reduceSub, Nat.reduceMul, Int.reduceAdd, Int.reduceNeg, Int.reduceLE, Int.reduceSub, Int.reduceToNat, Int.reduceEq, Nat.reduceBEq, Nat.reduceLT, bI_0, Classical.not_not, exists_eq', exists_eq, i10, i01, im10, na_i, fi_i, na_l, na_o, fi_o, na_on, fi_on, na_a, fi_a, na_b0, na_b1, isA_2, isA_3, isAof_2, isAof_3, vrf_s, vrf_n, eq_self, true_or, or_true, or_false, false_or, ne_eq, Option.some.injEq, Sum.inr.injEq, Sum.inl.injEq, Prod.mk.injEq, List.cons.injEq, Value.ref.injEq, Value.int.injEq, Value.long.injEq, exists_and_left, exists_and_right, exists_eq_left, exists_eq_left', exists_eq_right, exists_eq_right', exists_const, and_assoc, gset_at, gset_gset, List.zip_cons_cons, List.zip_nil_right, List.zip_nil_left, List.zipWith_cons_cons, List.zipWith_nil_right, List.zip, List.zipWith, d_M_readAll_0, d_M_readAll_1, d_M_readAll_2, d_M_readAll_5, d_M_readAll_6, d_M_readAll_7, d_M_readAll_10, d_M_readAll_11, d_M_readAll_12, d_M_readAll_15, d_M_readAll_16, d_M_readAll_19, d_M_readAll_21, d_M_readAll_22, d_M_readAll_23, d_M_readAll_24, d_M_readAll_27, d_M_readAll_29, d_M_readAll_30, d_M_readAll_31, d_M_readAll_32, d_M_readAll_35, d_M_readAll_36, d_M_readAll_39, d_M_readAll_42, d_M_readAll_43, d_M_readAll_46, d_M_readAll_47, d_M_readAll_50, d_M_readAll_53, d_M_readAll_54, d_M_readAll_57, d_M_readAll_58, d_M_readAll_61, d_M_readAll_62, d_M_readAll_65, d_M_readAll_68, flx_M_92, flx_M_88, flx_M_13, flx_M_26, flx_M_35, csx_M_readAll_130, csx_M_readAll_133, csx_M_readAll_98, hc2, mC, sup_at, v7_6, i6c, n_0_5, n_0_8, n_5_0, n_5_8, n_8_0, n_8_5]
          have er : (rd (B0 1) (S 2)).2 = some (xs, rs) := by
            rw [hrd]
            exact rdL_e hok1 (by rw [← hb]; exact hc) _
          refine h (sup S1 3 b) B1 G2 hq2 hf2 (hk1.s3 _) hz1 ?_ ?_
          · intro ys qs hy
            rw [er] at hy
            cases hy
            exact ⟨hw1, h51, hI⟩
          · intro hy
            rw [er] at hy
            cases hy
        · have hc2 : (chI (B0 1) (S 2) b = -1) = False := eq_false hc
          simp only [wp_s, wp1_s, wpX_i, wpX_c, toOpt_ok, wI_iconst, wI_bipush, wI_sipush, wI_lconst, wI_aconst_null, wI_iadd, wI_isub, wI_imul, wI_iand, wI_ior, wI_ixor, wI_ishl, wI_ishr, wI_iushr, wI_idiv, wI_irem, wI_ineg, wI_ladd, wI_lsub, wI_lmul, wI_land, wI_lor, wI_lxor, wI_lshl, wI_lushr, wI_lshr, wI_lcmp, wI_i2l, wI_l2i, wI_i2b, wI_i2c, wI_dup, wI_pop, wI_dup_x1, wI_dup_x2, wI_dup2, wI_iload_n, wI_iload, wI_lload_n, wI_lload, wI_aload_n, wI_aload, wI_istore_n, wI_istore, wI_lstore_n, wI_lstore, wI_astore_n, wI_astore_nN, wI_astore, wI_astoreN, wI_iinc, wI_if_eq, wI_icmp_eq, wI_if_ne, wI_icmp_ne, wI_if_lt, wI_icmp_lt, wI_if_ge, wI_icmp_ge, wI_if_gt, wI_icmp_gt, wI_if_le, wI_icmp_le, wI_goto, wI_ifnullN, wI_ifnullR, wI_ifnonnullN, wI_ifnonnullR, wI_tableswitch, wI_lookupswitch, wI_getfield, wI_putfield, wI_iaload, wI_laload, wI_aaload, wI_iastore, wI_lastore, wI_aastore, wI_arraylength, wI_new, wI_newarray_int, wI_newarray_long, wI_anewarray, wI_invokestatic, wI_invokespecial, wI_invokevirtual, wI_ireturn, wI_return_, lg, ldel, lset, lset2, lgs, lk_nil, lk_cons, lv_args, csum, tg, swT, swL, Value.category, fv0, fv1, fv2, fv3, kc_b_6, kc_b_7, kc_b_8, kc_b_9, kc_b_10, kc_b_15, kc_b_20, kc_b_32, kc_b_42, kc_b_43, kc_b_44, kc_b_45, kc_b_47, kc_b_48, kc_b_56, kc_b_57, kc_b_59, kc_b_61, kc_b_80, kc_b_91, kc_b_93, kc_b_97, kc_b_100, kc_b_104, kc_b_107, kc_b_108, kc_b_110, kc_b_116, kc_b_119, kc_i_m1, kc_i_0, kc_i_1, kc_i_2, kc_i_3, kc_i_4, kc_i_5, kc_i_6, kc_s_m9999, kc_s_128, kc_s_200, kc_s_255, kc_s_768, kc_s_896, kc_s_1000, kc_s_9999, List.take_succ_cons, List.take_zero, List.drop_succ_cons, List.drop_zero, List.reverse_cons, List.reverse_nil, List.nil_append, List.cons_append, List.append_nil, List.singleton_append, Option.toList_some, Option.toList_none, List.getElem?_cons_zero, List.getElem?_cons_succ, List.set_cons_zero, List.set_cons_succ, List.length_cons, List.length_nil, ↓reduceIte, reduceCtorEq, and_true, true_and, and_self, implies_true, forall_const, Nat.zero_add, Nat.add_zero, Nat.le_refl, Nat.zero_le, Int.cast_ofNat_Int, cast0, cast1, false_and, and_false, false_implies, true_implies, not_true_eq_false, not_false_eq_true, Nat.reduceAdd, Nat.reduceEqDiff, Nat.reduceLeDiff, Nat.reduceSub, Nat.reduceMul, Int.reduceAdd, Int.reduceNeg, Int.reduceLE, Int.reduceSub, Int.reduceToNat, Int.reduceEq, Nat.reduceBEq, Nat.reduceLT, bI_0, Classical.not_not, exists_eq', exists_eq, i10, i01, im10, na_i, fi_i, na_l, na_o, fi_o, na_on, fi_on, na_a, fi_a, na_b0, na_b1, isA_2, isA_3, isAof_2, isAof_3, vrf_s, vrf_n, eq_self, true_or, or_true, or_false, false_or, ne_eq, Option.some.injEq, Sum.inr.injEq, Sum.inl.injEq, Prod.mk.injEq, List.cons.injEq, Value.ref.injEq, Value.int.injEq, Value.long.injEq, exists_and_left, exists_and_right, exists_eq_left, exists_eq_left', exists_eq_right, exists_eq_right', exists_const, and_assoc, gset_at, gset_gset, List.zip_cons_cons, List.zip_nil_right, List.zip_nil_left, List.zipWith_cons_cons, List.zipWith_nil_right, List.zip, List.zipWith, d_M_readAll_0, d_M_readAll_1, d_M_readAll_2, d_M_readAll_5, d_M_readAll_6, d_M_readAll_7, d_M_readAll_10, d_M_readAll_11, d_M_readAll_12, d_M_readAll_15, d_M_readAll_16, d_M_readAll_19, d_M_readAll_21, d_M_readAll_22, d_M_readAll_23, d_M_readAll_24, d_M_readAll_27, d_M_readAll_29, d_M_readAll_30, d_M_readAll_31, d_M_readAll_32, d_M_readAll_35, d_M_readAll_36, d_M_readAll_39, d_M_readAll_42, d_M_readAll_43, d_M_readAll_46, d_M_readAll_47, d_M_readAll_50, d_M_readAll_53, d_M_readAll_54, d_M_readAll_57, d_M_readAll_58, d_M_readAll_61, d_M_readAll_62, d_M_readAll_65, d_M_readAll_68, flx_M_92, flx_M_88, flx_M_13, flx_M_26, flx_M_35, csx_M_readAll_130, csx_M_readAll_133, csx_M_readAll_98, hc2, mC, sup_at, v7_6, i6c, n_0_5, n_0_8, n_5_0, n_5_8, n_8_0, n_8_5]
          refine ⟨M, sup S1 3 b, B1, hasL rs, rs.length, offs rs rs.length, rfl, hq2.hm, hq2, hw1, by rw [show sup S1 3 b 2 = S 2 from e2]; exact hokb, hI.told, hI.2.1.2.1, hI.room, ?_⟩
          rw [eB, show sup S1 3 b 2 = S 2 from e2, show sup S1 3 b 3 = b from rfl, show sup S1 3 b 5 = -1 from h51]
          intro S3 B3 G3 hq3 hf3 hk3 hkr hs3 hn3
          have hk4 : keepS S S3 := (hk1.s3 _).trans hk3
          have hz3 := hz1.r hkr
          simp only [wp_s, wp1_s, wpX_i, wpX_c, toOpt_ok, wI_iconst, wI_bipush, wI_sipush, wI_lconst, wI_aconst_null, wI_iadd, wI_isub, wI_imul, wI_iand, wI_ior, wI_ixor, wI_ishl, wI_ishr, wI_iushr, wI_idiv, wI_irem, wI_ineg, wI_ladd, wI_lsub, wI_lmul, wI_land, wI_lor, wI_lxor, wI_lshl, wI_lushr, wI_lshr, wI_lcmp, wI_i2l, wI_l2i, wI_i2b, wI_i2c, wI_dup, wI_pop, wI_dup_x1, wI_dup_x2, wI_dup2, wI_iload_n, wI_iload, wI_lload_n, wI_lload, wI_aload_n, wI_aload, wI_istore_n, wI_istore, wI_lstore_n, wI_lstore, wI_astore_n, wI_astore_nN, wI_astore, wI_astoreN, wI_iinc, wI_if_eq, wI_icmp_eq, wI_if_ne, wI_icmp_ne, wI_if_lt, wI_icmp_lt, wI_if_ge, wI_icmp_ge, wI_if_gt, wI_icmp_gt, wI_if_le, wI_icmp_le, wI_goto, wI_ifnullN, wI_ifnullR, wI_ifnonnullN, wI_ifnonnullR, wI_tableswitch, wI_lookupswitch, wI_getfield, wI_putfield, wI_iaload, wI_laload, wI_aaload, wI_iastore, wI_lastore, wI_aastore, wI_arraylength, wI_new, wI_newarray_int, wI_newarray_long, wI_anewarray, wI_invokestatic, wI_invokespecial, wI_invokevirtual, wI_ireturn, wI_return_, lg, ldel, lset, lset2, lgs, lk_nil, lk_cons, lv_args, csum, tg, swT, swL, Value.category, fv0, fv1, fv2, fv3, kc_b_6, kc_b_7, kc_b_8, kc_b_9, kc_b_10, kc_b_15, kc_b_20, kc_b_32, kc_b_42, kc_b_43, kc_b_44, kc_b_45, kc_b_47, kc_b_48, kc_b_56, kc_b_57, kc_b_59, kc_b_61, kc_b_80, kc_b_91, kc_b_93, kc_b_97, kc_b_100, kc_b_104, kc_b_107, kc_b_108, kc_b_110, kc_b_116, kc_b_119, kc_i_m1, kc_i_0, kc_i_1, kc_i_2, kc_i_3, kc_i_4, kc_i_5, kc_i_6, kc_s_m9999, kc_s_128, kc_s_200, kc_s_255, kc_s_768, kc_s_896, kc_s_1000, kc_s_9999, List.take_succ_cons, List.take_zero, List.drop_succ_cons, List.drop_zero, List.reverse_cons, List.reverse_nil, List.nil_append, List.cons_append, List.append_nil, List.singleton_append, Option.toList_some, Option.toList_none, List.getElem?_cons_zero, List.getElem?_cons_succ, List.set_cons_zero, List.set_cons_succ, List.length_cons, List.length_nil, ↓reduceIte, reduceCtorEq, and_true, true_and, and_self, implies_true, forall_const, Nat.zero_add, Nat.add_zero, Nat.le_refl, Nat.zero_le, Int.cast_ofNat_Int, cast0, cast1, false_and, and_false, false_implies, true_implies, not_true_eq_false, not_false_eq_true, Nat.reduceAdd, Nat.reduceEqDiff, Nat.reduceLeDiff, Nat.reduceSub, Nat.reduceMul, Int.reduceAdd, Int.reduceNeg, Int.reduceLE, Int.reduceSub, Int.reduceToNat, Int.reduceEq, Nat.reduceBEq, Nat.reduceLT, bI_0, Classical.not_not, exists_eq', exists_eq, i10, i01, im10, na_i, fi_i, na_l, na_o, fi_o, na_on, fi_on, na_a, fi_a, na_b0, na_b1, isA_2, isA_3, isAof_2, isAof_3, vrf_s, vrf_n, eq_self, true_or, or_true, or_false, false_or, ne_eq, Option.some.injEq, Sum.inr.injEq, Sum.inl.injEq, Prod.mk.injEq, List.cons.injEq, Value.ref.injEq, Value.int.injEq, Value.long.injEq, exists_and_left, exists_and_right, exists_eq_left, exists_eq_left', exists_eq_right, exists_eq_right', exists_const, and_assoc, gset_at, gset_gset, List.zip_cons_cons, List.zip_nil_right, List.zip_nil_left, List.zipWith_cons_cons, List.zipWith_nil_right, List.zip, List.zipWith, d_M_readAll_0, d_M_readAll_1, d_M_readAll_2, d_M_readAll_5, d_M_readAll_6, d_M_readAll_7, d_M_readAll_10, d_M_readAll_11, d_M_readAll_12, d_M_readAll_15, d_M_readAll_16, d_M_readAll_19, d_M_readAll_21, d_M_readAll_22, d_M_readAll_23, d_M_readAll_24, d_M_readAll_27, d_M_readAll_29, d_M_readAll_30, d_M_readAll_31, d_M_readAll_32, d_M_readAll_35, d_M_readAll_36, d_M_readAll_39, d_M_readAll_42, d_M_readAll_43, d_M_readAll_46, d_M_readAll_47, d_M_readAll_50, d_M_readAll_53, d_M_readAll_54, d_M_readAll_57, d_M_readAll_58, d_M_readAll_61, d_M_readAll_62, d_M_readAll_65, d_M_readAll_68, flx_M_92, flx_M_88, flx_M_13, flx_M_26, flx_M_35, csx_M_readAll_130, csx_M_readAll_133, csx_M_readAll_98]
          cases hr : rr (B0 1) (S 2) (hasL rs) b with
          | mk a2 r2 =>
            rw [hr] at hs3 hn3
            cases r2 with
            | none =>
              obtain ⟨x1, x2⟩ := hn3 rfl
              refine ⟨0, by omega, S3, B3, rfl, rfl, rfl, rfl, hq3, hf2.trans hf3, hk4, hz3, Or.inr ⟨x1, ?_, rfl⟩⟩
              rw [hrd, x2]
              by_cases h8 : rs.length < 8
              · rw [show 8 - rs.length = (7 - rs.length) + 1 by omega]
                exact rdL_n (by rw [← hb]; exact hc) (by rw [← hb]; exact hr)
              · have hall : ∀ c : Int32, 0 ≤ c → c ≤ 7 → hasL rs c.toNatClampNeg = true := by
                  rcases hI.room with z | z
                  · exact absurd z.1 h8
                  · exact z
                have e9 := rr_no (t := B0 1) (L := S 2) (has := hasL rs) (a := b) rfl rfl (fun z => z.2 (hall _ (lt_iff.mpr z.1).1 (lt_iff.mpr z.1).2))
                have e8 : skI (B0 1) (S 2) b = b := by rw [hb, sk2 hok1]
                rw [e8, hr] at e9
                cases e9
                rw [show 8 - rs.length = 0 by omega]
                show rdF (B0 1) (S 2) (S1 3) xs rs = _
                rw [rdF, ← hb, if_neg hc]
            | some cp =>
              obtain ⟨c9, ps9⟩ := cp
              obtain ⟨x1, x2, x3, x4, x5, x6, x7, x8, x9, x10⟩ := hs3 c9 ps9 rfl
              have hv := rr_some hr
              have hok3 : okP (S 2) (S3 3) := by
                have z := rr_ok (t := B0 1) (has := hasL rs) hokb
                rw [hr] at z
                rw [x3]
                exact z
              refine ⟨9 - (rs ++ [(c9, ps9)]).length, by rw [List.length_append, hn]; simp; omega, S3, B3, rfl, rfl, rfl, rfl, hq3, hf2.trans hf3, hk4, hz3, Or.inl ⟨xs, rs ++ [(c9, ps9)], x1, x2, hok3, ?_, hI.snoc hkr hv.1 hv.2 x4 x5 x6 x7 x8 x9 x10, rfl⟩⟩
              rw [hrd, show 8 - rs.length = (8 - (rs ++ [(c9, ps9)]).length) + 1 by rw [List.length_append]; simp; omega, x3]
              exact rdL_m (by rw [← hb]; exact hc) (by rw [← hb]; exact hr)
      · have hw3 : (S1 4 = 0) = False := eq_false (by rw [hw1]; decide)
        simp only [wp_s, wp1_s, wpX_i, wpX_c, toOpt_ok, wI_iconst, wI_bipush, wI_sipush, wI_lconst, wI_aconst_null, wI_iadd, wI_isub, wI_imul, wI_iand, wI_ior, wI_ixor, wI_ishl, wI_ishr, wI_iushr, wI_idiv, wI_irem, wI_ineg, wI_ladd, wI_lsub, wI_lmul, wI_land, wI_lor, wI_lxor, wI_lshl, wI_lushr, wI_lshr, wI_lcmp, wI_i2l, wI_l2i, wI_i2b, wI_i2c, wI_dup, wI_pop, wI_dup_x1, wI_dup_x2, wI_dup2, wI_iload_n, wI_iload, wI_lload_n, wI_lload, wI_aload_n, wI_aload, wI_istore_n, wI_istore, wI_lstore_n, wI_lstore, wI_astore_n, wI_astore_nN, wI_astore, wI_astoreN, wI_iinc, wI_if_eq, wI_icmp_eq, wI_if_ne, wI_icmp_ne, wI_if_lt, wI_icmp_lt, wI_if_ge, wI_icmp_ge, wI_if_gt, wI_icmp_gt, wI_if_le, wI_icmp_le, wI_goto, wI_ifnullN, wI_ifnullR, wI_ifnonnullN, wI_ifnonnullR, wI_tableswitch, wI_lookupswitch, wI_getfield, wI_putfield, wI_iaload, wI_laload, wI_aaload, wI_iastore, wI_lastore, wI_aastore, wI_arraylength, wI_new, wI_newarray_int, wI_newarray_long, wI_anewarray, wI_invokestatic, wI_invokespecial, wI_invokevirtual, wI_ireturn, wI_return_, lg, ldel, lset, lset2, lgs, lk_nil, lk_cons, lv_args, csum, tg, swT, swL, Value.category, fv0, fv1, fv2, fv3, kc_b_6, kc_b_7, kc_b_8, kc_b_9, kc_b_10, kc_b_15, kc_b_20, kc_b_32, kc_b_42, kc_b_43, kc_b_44, kc_b_45, kc_b_47, kc_b_48, kc_b_56, kc_b_57, kc_b_59, kc_b_61, kc_b_80, kc_b_91, kc_b_93, kc_b_97, kc_b_100, kc_b_104, kc_b_107, kc_b_108, kc_b_110, kc_b_116, kc_b_119, kc_i_m1, kc_i_0, kc_i_1, kc_i_2, kc_i_3, kc_i_4, kc_i_5, kc_i_6, kc_s_m9999, kc_s_128, kc_s_200, kc_s_255, kc_s_768, kc_s_896, kc_s_1000, kc_s_9999, List.take_succ_cons, List.take_zero, List.drop_succ_cons, List.drop_zero, List.reverse_cons, List.reverse_nil, List.nil_append, List.cons_append, List.append_nil, List.singleton_append, Option.toList_some, Option.toList_none, List.getElem?_cons_zero, List.getElem?_cons_succ, List.set_cons_zero, List.set_cons_succ, List.length_cons, List.length_nil, ↓reduceIte, reduceCtorEq, and_true, true_and, and_self, implies_true, forall_const, Nat.zero_add, Nat.add_zero, Nat.le_refl, Nat.zero_le, Int.cast_ofNat_Int, cast0, cast1, false_and, and_false, false_implies, true_implies, not_true_eq_false, not_false_eq_true, Nat.reduceAdd, Nat.reduceEqDiff, Nat.reduceLeDiff, Nat.reduceSub, Nat.reduceMul, Int.reduceAdd, Int.reduceNeg, Int.reduceLE, Int.reduceSub, Int.reduceToNat, Int.reduceEq, Nat.reduceBEq, Nat.reduceLT, bI_0, Classical.not_not, exists_eq', exists_eq, i10, i01, im10, na_i, fi_i, na_l, na_o, fi_o, na_on, fi_on, na_a, fi_a, na_b0, na_b1, isA_2, isA_3, isAof_2, isAof_3, vrf_s, vrf_n, eq_self, true_or, or_true, or_false, false_or, ne_eq, Option.some.injEq, Sum.inr.injEq, Sum.inl.injEq, Prod.mk.injEq, List.cons.injEq, Value.ref.injEq, Value.int.injEq, Value.long.injEq, exists_and_left, exists_and_right, exists_eq_left, exists_eq_left', exists_eq_right, exists_eq_right', exists_const, and_assoc, gset_at, gset_gset, List.zip_cons_cons, List.zip_nil_right, List.zip_nil_left, List.zipWith_cons_cons, List.zipWith_nil_right, List.zip, List.zipWith, d_M_readAll_0, d_M_readAll_1, d_M_readAll_2, d_M_readAll_5, d_M_readAll_6, d_M_readAll_7, d_M_readAll_10, d_M_readAll_11, d_M_readAll_12, d_M_readAll_15, d_M_readAll_16, d_M_readAll_19, d_M_readAll_21, d_M_readAll_22, d_M_readAll_23, d_M_readAll_24, d_M_readAll_27, d_M_readAll_29, d_M_readAll_30, d_M_readAll_31, d_M_readAll_32, d_M_readAll_35, d_M_readAll_36, d_M_readAll_39, d_M_readAll_42, d_M_readAll_43, d_M_readAll_46, d_M_readAll_47, d_M_readAll_50, d_M_readAll_53, d_M_readAll_54, d_M_readAll_57, d_M_readAll_58, d_M_readAll_61, d_M_readAll_62, d_M_readAll_65, d_M_readAll_68, flx_M_92, flx_M_88, flx_M_13, flx_M_26, flx_M_35, csx_M_readAll_130, csx_M_readAll_133, csx_M_readAll_98, m1, hw3, mC, sup_at, v7_6, i6c, n_0_5, n_0_8, n_5_0, n_5_8, n_8_0, n_8_5]
        refine h S1 B1 G1 hq1 hf1 hk1 hz1 ?_ ?_
        · intro ys qs hy
          rw [hrd] at hy
          cases hy
        · intro hy
          rw [hrd]
          exact ⟨hw1, rfl⟩
    · simp only [wp_s, wp1_s, wpX_i, wpX_c, toOpt_ok, wI_iconst, wI_bipush, wI_sipush, wI_lconst, wI_aconst_null, wI_iadd, wI_isub, wI_imul, wI_iand, wI_ior, wI_ixor, wI_ishl, wI_ishr, wI_iushr, wI_idiv, wI_irem, wI_ineg, wI_ladd, wI_lsub, wI_lmul, wI_land, wI_lor, wI_lxor, wI_lshl, wI_lushr, wI_lshr, wI_lcmp, wI_i2l, wI_l2i, wI_i2b, wI_i2c, wI_dup, wI_pop, wI_dup_x1, wI_dup_x2, wI_dup2, wI_iload_n, wI_iload, wI_lload_n, wI_lload, wI_aload_n, wI_aload, wI_istore_n, wI_istore, wI_lstore_n, wI_lstore, wI_astore_n, wI_astore_nN, wI_astore, wI_astoreN, wI_iinc, wI_if_eq, wI_icmp_eq, wI_if_ne, wI_icmp_ne, wI_if_lt, wI_icmp_lt, wI_if_ge, wI_icmp_ge, wI_if_gt, wI_icmp_gt, wI_if_le, wI_icmp_le, wI_goto, wI_ifnullN, wI_ifnullR, wI_ifnonnullN, wI_ifnonnullR, wI_tableswitch, wI_lookupswitch, wI_getfield, wI_putfield, wI_iaload, wI_laload, wI_aaload, wI_iastore, wI_lastore, wI_aastore, wI_arraylength, wI_new, wI_newarray_int, wI_newarray_long, wI_anewarray, wI_invokestatic, wI_invokespecial, wI_invokevirtual, wI_ireturn, wI_return_, lg, ldel, lset, lset2, lgs, lk_nil, lk_cons, lv_args, csum, tg, swT, swL, Value.category, fv0, fv1, fv2, fv3, kc_b_6, kc_b_7, kc_b_8, kc_b_9, kc_b_10, kc_b_15, kc_b_20, kc_b_32, kc_b_42, kc_b_43, kc_b_44, kc_b_45, kc_b_47, kc_b_48, kc_b_56, kc_b_57, kc_b_59, kc_b_61, kc_b_80, kc_b_91, kc_b_93, kc_b_97, kc_b_100, kc_b_104, kc_b_107, kc_b_108, kc_b_110, kc_b_116, kc_b_119, kc_i_m1, kc_i_0, kc_i_1, kc_i_2, kc_i_3, kc_i_4, kc_i_5, kc_i_6, kc_s_m9999, kc_s_128, kc_s_200, kc_s_255, kc_s_768, kc_s_896, kc_s_1000, kc_s_9999, List.take_succ_cons, List.take_zero, List.drop_succ_cons, List.drop_zero, List.reverse_cons, List.reverse_nil, List.nil_append, List.cons_append, List.append_nil, List.singleton_append, Option.toList_some, Option.toList_none, List.getElem?_cons_zero, List.getElem?_cons_succ, List.set_cons_zero, List.set_cons_succ, List.length_cons, List.length_nil, ↓reduceIte, reduceCtorEq, and_true, true_and, and_self, implies_true, forall_const, Nat.zero_add, Nat.add_zero, Nat.le_refl, Nat.zero_le, Int.cast_ofNat_Int, cast0, cast1, false_and, and_false, false_implies, true_implies, not_true_eq_false, not_false_eq_true, Nat.reduceAdd, Nat.reduceEqDiff, Nat.reduceLeDiff, Nat.reduceSub, Nat.reduceMul, Int.reduceAdd, Int.reduceNeg, Int.reduceLE, Int.reduceSub, Int.reduceToNat, Int.reduceEq, Nat.reduceBEq, Nat.reduceLT, bI_0, Classical.not_not, exists_eq', exists_eq, i10, i01, im10, na_i, fi_i, na_l, na_o, fi_o, na_on, fi_on, na_a, fi_a, na_b0, na_b1, isA_2, isA_3, isAof_2, isAof_3, vrf_s, vrf_n, eq_self, true_or, or_true, or_false, false_or, ne_eq, Option.some.injEq, Sum.inr.injEq, Sum.inl.injEq, Prod.mk.injEq, List.cons.injEq, Value.ref.injEq, Value.int.injEq, Value.long.injEq, exists_and_left, exists_and_right, exists_eq_left, exists_eq_left', exists_eq_right, exists_eq_right', exists_const, and_assoc, gset_at, gset_gset, List.zip_cons_cons, List.zip_nil_right, List.zip_nil_left, List.zipWith_cons_cons, List.zipWith_nil_right, List.zip, List.zipWith, d_M_readAll_0, d_M_readAll_1, d_M_readAll_2, d_M_readAll_5, d_M_readAll_6, d_M_readAll_7, d_M_readAll_10, d_M_readAll_11, d_M_readAll_12, d_M_readAll_15, d_M_readAll_16, d_M_readAll_19, d_M_readAll_21, d_M_readAll_22, d_M_readAll_23, d_M_readAll_24, d_M_readAll_27, d_M_readAll_29, d_M_readAll_30, d_M_readAll_31, d_M_readAll_32, d_M_readAll_35, d_M_readAll_36, d_M_readAll_39, d_M_readAll_42, d_M_readAll_43, d_M_readAll_46, d_M_readAll_47, d_M_readAll_50, d_M_readAll_53, d_M_readAll_54, d_M_readAll_57, d_M_readAll_58, d_M_readAll_61, d_M_readAll_62, d_M_readAll_65, d_M_readAll_68, flx_M_92, flx_M_88, flx_M_13, flx_M_26, flx_M_35, csx_M_readAll_130, csx_M_readAll_133, csx_M_readAll_98, hm, a5, a8, mC, sup_at, v7_6, i6c, n_0_5, n_0_8, n_5_0, n_5_8, n_8_0, n_8_5]
      have hq0 := ((hq.setS (sup (sup (sup S 3 0) 4 0) 5 (-1))).setA 5 (upd (B0 5) 6 0)).setA 8 (upd (B0 8) 6 0)
      have hf0 : FrM M G (gset (gset (gset G (M 0) (mC M (sup (sup (sup S 3 0) 4 0) 5 (-1)))) (M 5) (.inl (E.2.2 0, lenM 5, .inl (upd (B0 5) 6 0)))) (M 8) (.inl (E.2.2 0, lenM 8, .inl (upd (B0 8) 6 0)))) := ((FrM.rf.set 0).set 5).set 8
      refine ⟨rfl, M, sup (sup (sup S 3 0) 4 0) 5 (-1), aup (aup B0 5 (upd (B0 5) 6 0)) 8 (upd (B0 8) 6 0), rfl, hq0.hm, hq0, rfl, hok, ?_⟩
      intro S1 f n1 G1 hq1 hf1 hk1 hlo hs1 hn1
      have hk0 : keepS S S1 := (((keepS.rf.s3 _).s4 _).s5 _).trans hk1
      have hf2 := hf0.trans hf1
      have m1 := hq1.hm
      have hs1' : ∀ xs, (rtb (B0 1) (S 2) 0).2 = some xs → S1 4 = 0 ∧ S1 5 = -1 ∧ S1 3 = (rtb (B0 1) (S 2) 0).1 ∧ n1 = xs.length ∧ ∀ i x, xs[i]? = some x → f (48 + i) = x := hs1
      have hn1' : (rtb (B0 1) (S 2) 0).2 = none → S1 4 = 1 ∧ S1 5 = (rtb (B0 1) (S 2) 0).1 := hn1
      have hlo' : ∀ i, i < 48 → f i = B0 4 i := hlo
      have e2 : S1 2 = S 2 := hk0.n2
      generalize hB1 : aup (aup (aup (aup B0 5 (upd (B0 5) 6 0)) 8 (upd (B0 8) 6 0)) 4 f) 3 (upd (aup (aup B0 5 (upd (B0 5) 6 0)) 8 (upd (B0 8) 6 0) 3) 6 (nI n1)) = B1 at hq1
      have hz1 : keepZ B0 B1 := by
        subst hB1
        refine ⟨fun k1 hk => ?_, fun i hi => ⟨upn hi, upn hi, upn hi⟩, fun i hi => ⟨hlo' i hi, rfl, rfl⟩, fun i hi => ⟨rfl, rfl, rfl⟩⟩
        rw [aup_at, if_neg (by omega), aup_at, if_neg (by omega), aup_at, if_neg (by omega), aup_at, if_neg (by omega)]
      have eB : B1 1 = B0 1 := hz1.1 1 (by omega)
      cases hr0 : rtb (B0 1) (S 2) 0 with
      | mk a1 r1 =>
        rw [hr0] at hs1' hn1'
        cases r1 with
        | none =>
          obtain ⟨x1, x2⟩ := hn1' rfl
          have hw3 : (S1 4 = 0) = False := eq_false (by rw [x1]; decide)
          simp only [wp_s, wp1_s, wpX_i, wpX_c, toOpt_ok, wI_iconst, wI_bipush, wI_sipush, wI_lconst, wI_aconst_null, wI_iadd, wI_isub, wI_imul, wI_iand, wI_ior, wI_ixor, wI_ishl, wI_ishr, wI_iushr, wI_idiv, wI_irem, wI_ineg, wI_ladd, wI_lsub, wI_lmul, wI_land, wI_lor, wI_lxor, wI_lshl, wI_lushr, wI_lshr, wI_lcmp, wI_i2l, wI_l2i, wI_i2b, wI_i2c, wI_dup, wI_pop, wI_dup_x1, wI_dup_x2, wI_dup2, wI_iload_n, wI_iload, wI_lload_n, wI_lload, wI_aload_n, wI_aload, wI_istore_n, wI_istore, wI_lstore_n, wI_lstore, wI_astore_n, wI_astore_nN, wI_astore, wI_astoreN, wI_iinc, wI_if_eq, wI_icmp_eq, wI_if_ne, wI_icmp_ne, wI_if_lt, wI_icmp_lt, wI_if_ge, wI_icmp_ge, wI_if_gt, wI_icmp_gt, wI_if_le, wI_icmp_le, wI_goto, wI_ifnullN, wI_ifnullR, wI_ifnonnullN, wI_ifnonnullR, wI_tableswitch, wI_lookupswitch, wI_getfield, wI_putfield, wI_iaload, wI_laload, wI_aaload, wI_iastore, wI_lastore, wI_aastore, wI_arraylength, wI_new, wI_newarray_int, wI_newarray_long, wI_anewarray, wI_invokestatic, wI_invokespecial, wI_invokevirtual, wI_ireturn, wI_return_, lg, ldel, lset, lset2, lgs, lk_nil, lk_cons, lv_args, csum, tg, swT, swL, Value.category, fv0, fv1, fv2, fv3, kc_b_6, kc_b_7, kc_b_8, kc_b_9, kc_b_10, kc_b_15, kc_b_20, kc_b_32, kc_b_42, kc_b_43, kc_b_44, kc_b_45, kc_b_47, kc_b_48, kc_b_56, kc_b_57, kc_b_59, kc_b_61, kc_b_80, kc_b_91, kc_b_93, kc_b_97, kc_b_100, kc_b_104, kc_b_107, kc_b_108, kc_b_110, kc_b_116, kc_b_119, kc_i_m1, kc_i_0, kc_i_1, kc_i_2, kc_i_3, kc_i_4, kc_i_5, kc_i_6, kc_s_m9999, kc_s_128, kc_s_200, kc_s_255, kc_s_768, kc_s_896, kc_s_1000, kc_s_9999, List.take_succ_cons, List.take_zero, List.drop_succ_cons, List.drop_zero, List.reverse_cons, List.reverse_nil, List.nil_append, List.cons_append, List.append_nil, List.singleton_append, Option.toList_some, Option.toList_none, List.getElem?_cons_zero, List.getElem?_cons_succ, List.set_cons_zero, List.set_cons_succ, List.length_cons, List.length_nil, ↓reduceIte, reduceCtorEq, and_true, true_and, and_self, implies_true, forall_const, Nat.zero_add, Nat.add_zero, Nat.le_refl, Nat.zero_le, Int.cast_ofNat_Int, cast0, cast1, false_and, and_false, false_implies, true_implies, not_true_eq_false, not_false_eq_true, Nat.reduceAdd, Nat.reduceEqDiff, Nat.reduceLeDiff, Nat.reduceSub, Nat.reduceMul, Int.reduceAdd, Int.reduceNeg, Int.reduceLE, Int.reduceSub, Int.reduceToNat, Int.reduceEq, Nat.reduceBEq, Nat.reduceLT, bI_0, Classical.not_not, exists_eq', exists_eq, i10, i01, im10, na_i, fi_i, na_l, na_o, fi_o, na_on, fi_on, na_a, fi_a, na_b0, na_b1, isA_2, isA_3, isAof_2, isAof_3, vrf_s, vrf_n, eq_self, true_or, or_true, or_false, false_or, ne_eq, Option.some.injEq, Sum.inr.injEq, Sum.inl.injEq, Prod.mk.injEq, List.cons.injEq, Value.ref.injEq, Value.int.injEq, Value.long.injEq, exists_and_left, exists_and_right, exists_eq_left, exists_eq_left', exists_eq_right, exists_eq_right', exists_const, and_assoc, gset_at, gset_gset, List.zip_cons_cons, List.zip_nil_right, List.zip_nil_left, List.zipWith_cons_cons, List.zipWith_nil_right, List.zip, List.zipWith, d_M_readAll_0, d_M_readAll_1, d_M_readAll_2, d_M_readAll_5, d_M_readAll_6, d_M_readAll_7, d_M_readAll_10, d_M_readAll_11, d_M_readAll_12, d_M_readAll_15, d_M_readAll_16, d_M_readAll_19, d_M_readAll_21, d_M_readAll_22, d_M_readAll_23, d_M_readAll_24, d_M_readAll_27, d_M_readAll_29, d_M_readAll_30, d_M_readAll_31, d_M_readAll_32, d_M_readAll_35, d_M_readAll_36, d_M_readAll_39, d_M_readAll_42, d_M_readAll_43, d_M_readAll_46, d_M_readAll_47, d_M_readAll_50, d_M_readAll_53, d_M_readAll_54, d_M_readAll_57, d_M_readAll_58, d_M_readAll_61, d_M_readAll_62, d_M_readAll_65, d_M_readAll_68, flx_M_92, flx_M_88, flx_M_13, flx_M_26, flx_M_35, csx_M_readAll_130, csx_M_readAll_133, csx_M_readAll_98, m1, hw3, mC, sup_at, v7_6, i6c, n_0_5, n_0_8, n_5_0, n_5_8, n_8_0, n_8_5]
          exact ⟨0, S1, B1, rfl, rfl, rfl, rfl, hq1, hf2, hk0, hz1, Or.inr ⟨x1, by rw [x2]; exact rd_tn hr0, rfl⟩⟩
        | some xs =>
          obtain ⟨x1, x2, x3, x4, x5⟩ := hs1' xs rfl
          have hw3 : (S1 4 = 0) = True := eq_true x1
          have hok1 : okP (S 2) (S1 3) := by
            have z := rtb_ok (t := B0 1) hok
            rw [hr0] at z
            rw [x3]
            exact z
          have hI : rdI B1 xs [] := by
            subst hB1
            refine ⟨⟨?_, x5⟩, ⟨?_, ?_, (fun i c9 ps9 hi => by cases hi)⟩, rfl, (fun i c9 ps9 hi => by cases hi), by decide, by decide⟩
            · show upd (B0 3) 6 (nI n1) 6 = nI xs.length
              rw [ups, x4]
            · show upd (B0 5) 6 0 6 = nI 0
              exact ups
            · show upd (B0 8) 6 0 6 = nI 0
              exact ups
          simp only [wp_s, wp1_s, wpX_i, wpX_c, toOpt_ok, wI_iconst, wI_bipush, wI_sipush, wI_lconst, wI_aconst_null, wI_iadd, wI_isub, wI_imul, wI_iand, wI_ior, wI_ixor, wI_ishl, wI_ishr, wI_iushr, wI_idiv, wI_irem, wI_ineg, wI_ladd, wI_lsub, wI_lmul, wI_land, wI_lor, wI_lxor, wI_lshl, wI_lushr, wI_lshr, wI_lcmp, wI_i2l, wI_l2i, wI_i2b, wI_i2c, wI_dup, wI_pop, wI_dup_x1, wI_dup_x2, wI_dup2, wI_iload_n, wI_iload, wI_lload_n, wI_lload, wI_aload_n, wI_aload, wI_istore_n, wI_istore, wI_lstore_n, wI_lstore, wI_astore_n, wI_astore_nN, wI_astore, wI_astoreN, wI_iinc, wI_if_eq, wI_icmp_eq, wI_if_ne, wI_icmp_ne, wI_if_lt, wI_icmp_lt, wI_if_ge, wI_icmp_ge, wI_if_gt, wI_icmp_gt, wI_if_le, wI_icmp_le, wI_goto, wI_ifnullN, wI_ifnullR, wI_ifnonnullN, wI_ifnonnullR, wI_tableswitch, wI_lookupswitch, wI_getfield, wI_putfield, wI_iaload, wI_laload, wI_aaload, wI_iastore, wI_lastore, wI_aastore, wI_arraylength, wI_new, wI_newarray_int, wI_newarray_long, wI_anewarray, wI_invokestatic, wI_invokespecial, wI_invokevirtual, wI_ireturn, wI_return_, lg, ldel, lset, lset2, lgs, lk_nil, lk_cons, lv_args, csum, tg, swT, swL, Value.category, fv0, fv1, fv2, fv3, kc_b_6, kc_b_7, kc_b_8, kc_b_9, kc_b_10, kc_b_15, kc_b_20, kc_b_32, kc_b_42, kc_b_43, kc_b_44, kc_b_45, kc_b_47, kc_b_48, kc_b_56, kc_b_57, kc_b_59, kc_b_61, kc_b_80, kc_b_91, kc_b_93, kc_b_97, kc_b_100, kc_b_104, kc_b_107, kc_b_108, kc_b_110, kc_b_116, kc_b_119, kc_i_m1, kc_i_0, kc_i_1, kc_i_2, kc_i_3, kc_i_4, kc_i_5, kc_i_6, kc_s_m9999, kc_s_128, kc_s_200, kc_s_255, kc_s_768, kc_s_896, kc_s_1000, kc_s_9999, List.take_succ_cons, List.take_zero, List.drop_succ_cons, List.drop_zero, List.reverse_cons, List.reverse_nil, List.nil_append, List.cons_append, List.append_nil, List.singleton_append, Option.toList_some, Option.toList_none, List.getElem?_cons_zero, List.getElem?_cons_succ, List.set_cons_zero, List.set_cons_succ, List.length_cons, List.length_nil, ↓reduceIte, reduceCtorEq, and_true, true_and, and_self, implies_true, forall_const, Nat.zero_add, Nat.add_zero, Nat.le_refl, Nat.zero_le, Int.cast_ofNat_Int, cast0, cast1, false_and, and_false, false_implies, true_implies, not_true_eq_false, not_false_eq_true, Nat.reduceAdd, Nat.reduceEqDiff, Nat.reduceLeDiff, Nat.reduceSub, Nat.reduceMul, Int.reduceAdd, Int.reduceNeg, Int.reduceLE, Int.reduceSub, Int.reduceToNat, Int.reduceEq, Nat.reduceBEq, Nat.reduceLT, bI_0, Classical.not_not, exists_eq', exists_eq, i10, i01, im10, na_i, fi_i, na_l, na_o, fi_o, na_on, fi_on, na_a, fi_a, na_b0, na_b1, isA_2, isA_3, isAof_2, isAof_3, vrf_s, vrf_n, eq_self, true_or, or_true, or_false, false_or, ne_eq, Option.some.injEq, Sum.inr.injEq, Sum.inl.injEq, Prod.mk.injEq, List.cons.injEq, Value.ref.injEq, Value.int.injEq, Value.long.injEq, exists_and_left, exists_and_right, exists_eq_left, exists_eq_left', exists_eq_right, exists_eq_right', exists_const, and_assoc, gset_at, gset_gset, List.zip_cons_cons, List.zip_nil_right, List.zip_nil_left, List.zipWith_cons_cons, List.zipWith_nil_right, List.zip, List.zipWith, d_M_readAll_0, d_M_readAll_1, d_M_readAll_2, d_M_readAll_5, d_M_readAll_6, d_M_readAll_7, d_M_readAll_10, d_M_readAll_11, d_M_readAll_12, d_M_readAll_15, d_M_readAll_16, d_M_readAll_19, d_M_readAll_21, d_M_readAll_22, d_M_readAll_23, d_M_readAll_24, d_M_readAll_27, d_M_readAll_29, d_M_readAll_30, d_M_readAll_31, d_M_readAll_32, d_M_readAll_35, d_M_readAll_36, d_M_readAll_39, d_M_readAll_42, d_M_readAll_43, d_M_readAll_46, d_M_readAll_47, d_M_readAll_50, d_M_readAll_53, d_M_readAll_54, d_M_readAll_57, d_M_readAll_58, d_M_readAll_61, d_M_readAll_62, d_M_readAll_65, d_M_readAll_68, flx_M_92, flx_M_88, flx_M_13, flx_M_26, flx_M_35, csx_M_readAll_130, csx_M_readAll_133, csx_M_readAll_98, m1, hw3, mC, sup_at, v7_6, i6c, n_0_5, n_0_8, n_5_0, n_5_8, n_8_0, n_8_5]
          refine ⟨M, S1, B1, hasL [], 0, 0, rfl, hq1.hm, hq1, x1, by rw [e2]; exact hok1, hI.told, hI.2.1.2.1, Or.inl ⟨by omega, by omega⟩, ?_⟩
          rw [eB, e2, x2]
          intro S3 B3 G3 hq3 hf3 hk3 hkr hs3 hn3
          have hk4 : keepS S S3 := hk0.trans hk3
          have hz3 := hz1.r hkr
          simp only [wp_s, wp1_s, wpX_i, wpX_c, toOpt_ok, wI_iconst, wI_bipush, wI_sipush, wI_lconst, wI_aconst_null, wI_iadd, wI_isub, wI_imul, wI_iand, wI_ior, wI_ixor, wI_ishl, wI_ishr, wI_iushr, wI_idiv, wI_irem, wI_ineg, wI_ladd, wI_lsub, wI_lmul, wI_land, wI_lor, wI_lxor, wI_lshl, wI_lushr, wI_lshr, wI_lcmp, wI_i2l, wI_l2i, wI_i2b, wI_i2c, wI_dup, wI_pop, wI_dup_x1, wI_dup_x2, wI_dup2, wI_iload_n, wI_iload, wI_lload_n, wI_lload, wI_aload_n, wI_aload, wI_istore_n, wI_istore, wI_lstore_n, wI_lstore, wI_astore_n, wI_astore_nN, wI_astore, wI_astoreN, wI_iinc, wI_if_eq, wI_icmp_eq, wI_if_ne, wI_icmp_ne, wI_if_lt, wI_icmp_lt, wI_if_ge, wI_icmp_ge, wI_if_gt, wI_icmp_gt, wI_if_le, wI_icmp_le, wI_goto, wI_ifnullN, wI_ifnullR, wI_ifnonnullN, wI_ifnonnullR, wI_tableswitch, wI_lookupswitch, wI_getfield, wI_putfield, wI_iaload, wI_laload, wI_aaload, wI_iastore, wI_lastore, wI_aastore, wI_arraylength, wI_new, wI_newarray_int, wI_newarray_long, wI_anewarray, wI_invokestatic, wI_invokespecial, wI_invokevirtual, wI_ireturn, wI_return_, lg, ldel, lset, lset2, lgs, lk_nil, lk_cons, lv_args, csum, tg, swT, swL, Value.category, fv0, fv1, fv2, fv3, kc_b_6, kc_b_7, kc_b_8, kc_b_9, kc_b_10, kc_b_15, kc_b_20, kc_b_32, kc_b_42, kc_b_43, kc_b_44, kc_b_45, kc_b_47, kc_b_48, kc_b_56, kc_b_57, kc_b_59, kc_b_61, kc_b_80, kc_b_91, kc_b_93, kc_b_97, kc_b_100, kc_b_104, kc_b_107, kc_b_108, kc_b_110, kc_b_116, kc_b_119, kc_i_m1, kc_i_0, kc_i_1, kc_i_2, kc_i_3, kc_i_4, kc_i_5, kc_i_6, kc_s_m9999, kc_s_128, kc_s_200, kc_s_255, kc_s_768, kc_s_896, kc_s_1000, kc_s_9999, List.take_succ_cons, List.take_zero, List.drop_succ_cons, List.drop_zero, List.reverse_cons, List.reverse_nil, List.nil_append, List.cons_append, List.append_nil, List.singleton_append, Option.toList_some, Option.toList_none, List.getElem?_cons_zero, List.getElem?_cons_succ, List.set_cons_zero, List.set_cons_succ, List.length_cons, List.length_nil, ↓reduceIte, reduceCtorEq, and_true, true_and, and_self, implies_true, forall_const, Nat.zero_add, Nat.add_zero, Nat.le_refl, Nat.zero_le, Int.cast_ofNat_Int, cast0, cast1, false_and, and_false, false_implies, true_implies, not_true_eq_false, not_false_eq_true, Nat.reduceAdd, Nat.reduceEqDiff, Nat.reduceLeDiff, Nat.reduceSub, Nat.reduceMul, Int.reduceAdd, Int.reduceNeg, Int.reduceLE, Int.reduceSub, Int.reduceToNat, Int.reduceEq, Nat.reduceBEq, Nat.reduceLT, bI_0, Classical.not_not, exists_eq', exists_eq, i10, i01, im10, na_i, fi_i, na_l, na_o, fi_o, na_on, fi_on, na_a, fi_a, na_b0, na_b1, isA_2, isA_3, isAof_2, isAof_3, vrf_s, vrf_n, eq_self, true_or, or_true, or_false, false_or, ne_eq, Option.some.injEq, Sum.inr.injEq, Sum.inl.injEq, Prod.mk.injEq, List.cons.injEq, Value.ref.injEq, Value.int.injEq, Value.long.injEq, exists_and_left, exists_and_right, exists_eq_left, exists_eq_left', exists_eq_right, exists_eq_right', exists_const, and_assoc, gset_at, gset_gset, List.zip_cons_cons, List.zip_nil_right, List.zip_nil_left, List.zipWith_cons_cons, List.zipWith_nil_right, List.zip, List.zipWith, d_M_readAll_0, d_M_readAll_1, d_M_readAll_2, d_M_readAll_5, d_M_readAll_6, d_M_readAll_7, d_M_readAll_10, d_M_readAll_11, d_M_readAll_12, d_M_readAll_15, d_M_readAll_16, d_M_readAll_19, d_M_readAll_21, d_M_readAll_22, d_M_readAll_23, d_M_readAll_24, d_M_readAll_27, d_M_readAll_29, d_M_readAll_30, d_M_readAll_31, d_M_readAll_32, d_M_readAll_35, d_M_readAll_36, d_M_readAll_39, d_M_readAll_42, d_M_readAll_43, d_M_readAll_46, d_M_readAll_47, d_M_readAll_50, d_M_readAll_53, d_M_readAll_54, d_M_readAll_57, d_M_readAll_58, d_M_readAll_61, d_M_readAll_62, d_M_readAll_65, d_M_readAll_68, flx_M_92, flx_M_88, flx_M_13, flx_M_26, flx_M_35, csx_M_readAll_130, csx_M_readAll_133, csx_M_readAll_98]
          cases hr : rr (B0 1) (S 2) (hasL []) (S1 3) with
          | mk a2 r2 =>
            rw [hr] at hs3 hn3
            have hr' : rr (B0 1) (S 2) (hasL []) a1 = (a2, r2) := by
              rw [← hr, x3]
            cases r2 with
            | none =>
              obtain ⟨y1, y2⟩ := hn3 rfl
              exact ⟨0, S3, B3, rfl, rfl, rfl, rfl, hq3, hf2.trans hf3, hk4, hz3, Or.inr ⟨y1, by rw [y2]; exact rd_tr hr0 hr', rfl⟩⟩
            | some cp =>
              obtain ⟨c9, ps9⟩ := cp
              obtain ⟨y1, y2, y3, y4, y5, y6, y7, y8, y9, y10⟩ := hs3 c9 ps9 rfl
              have hv := rr_some hr
              have hok3 : okP (S 2) (S3 3) := by
                have z := rr_ok (t := B0 1) (has := hasL []) hok1
                rw [hr] at z
                rw [y3]
                exact z
              refine ⟨8, S3, B3, rfl, rfl, rfl, rfl, hq3, hf2.trans hf3, hk4, hz3, Or.inl ⟨xs, [(c9, ps9)], y1, y2, hok3, ?_, hI.snoc hkr hv.1 hv.2 y4 y5 y6 y7 y8 y9 y10, rfl⟩⟩
              rw [rd_ts hr0 hr', y3]
              rfl
theorem pre_M_readAll : ∀ (E : wE) As G KR KT, ct_M_readAll E As G KR KT → ∃ a As' fs, As = .ref a :: As' ∧ As'.length = 0 ∧ G a = some (.inr (6, fs)) := by
  rintro E As G KR KT ⟨_, _, _, rfl, hr, -⟩
  exact ⟨_, _, _, rfl, rfl, hr⟩
