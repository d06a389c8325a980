noncomputable def cif {α : Type} (p : Prop) (a b : α) : α := @ite α p (Classical.propDecidable p) a b
theorem cif_t {α : Type} {p : Prop} {a b : α} (h : p) : cif p a b = a := by unfold cif; rw [if_pos h]
theorem cif_f {α : Type} {p : Prop} {a b : α} (h : ¬ p) : cif p a b = b := by unfold cif; rw [if_neg h]
noncomputable def bI (p : Prop) : Int32 := cif p 1 0
theorem bI_t {p : Prop} (h : p) : bI p = 1 := cif_t h
theorem bI_f {p : Prop} (h : ¬ p) : bI p = 0 := cif_f h
theorem nb_bI (p : Prop) : narrow .boolean (.int (bI p)) = .int (bI p) := by
  by_cases h : p
  · rw [bI_t h]; rfl
  · rw [bI_f h]; rfl
theorem ft_bI (p : Prop) : fits .boolean (.int (bI p)) = true := by
  by_cases h : p
  · rw [bI_t h]; rfl
  · rw [bI_f h]; rfl
theorem bI_0 (p : Prop) : (bI p = 0) = ¬ p := by
  by_cases h : p
  · rw [bI_t h]; simp [h]
  · rw [bI_f h]; simp [h]
theorem gset_same {G : gH} {r : Nat} {e : va_E} (h : G r = some e) : gset G r e = G := by
  funext j
  by_cases hj : j = r
  · subst hj; simp [gset, h]
  · simp [gset, hj]
/-! the text on the tape -/
def okP (L a : Int32) : Prop := ∃ n m : Nat, L = nI n ∧ a = nI m ∧ n ≤ 200 ∧ m ≤ n
def chI (t : Nat → Int32) (L a : Int32) : Int32 := if a < L then t a.toNatClampNeg else -1
def skf (t : Nat → Int32) (L : Int32) : Nat → Int32 → Int32
  | 0, a => a
  | n + 1, a => if a < L then (if t a.toNatClampNeg = 32 then skf t L n (a + 1) else a) else a
def skI (t : Nat → Int32) (L a : Int32) : Int32 := skf t L (L.toNatClampNeg - a.toNatClampNeg) a
theorem okP_in {L a : Int32} (h : okP L a) (h1 : ¬ L ≤ a) : vp_in a 200 := by
  obtain ⟨n, m, rfl, rfl, h2, h3⟩ := h
  rw [nI_leI (by omega) (by omega)] at h1
  exact vp_in_nI (by omega) (by omega)
theorem okP_s {L a : Int32} (h : okP L a) (h1 : ¬ L ≤ a) : okP L (a + 1) := by
  obtain ⟨n, m, rfl, rfl, h2, h3⟩ := h
  rw [nI_leI (by omega) (by omega)] at h1
  exact ⟨n, m + 1, rfl, nI_1 m, h2, by omega⟩
theorem okP_n {L a : Int32} (h : okP L a) (h1 : ¬ L ≤ a) : L.toNatClampNeg - (a + 1).toNatClampNeg < L.toNatClampNeg - a.toNatClampNeg := by
  obtain ⟨n, m, rfl, rfl, h2, h3⟩ := h
  rw [nI_leI (by omega) (by omega)] at h1
  rw [nI_1, nI_clamp (by omega), nI_clamp (by omega), nI_clamp (by omega)]
  omega
theorem ch_lt {t : Nat → Int32} {L a : Int32} (h : ¬ L ≤ a) : chI t L a = t a.toNatClampNeg := if_pos (Int32.not_le.mp h)
theorem ch_ge {t : Nat → Int32} {L a : Int32} (h : L ≤ a) : chI t L a = -1 := if_neg (Int32.not_lt.mpr h)
theorem sk_ge {t : Nat → Int32} {L a : Int32} (h : L ≤ a) : skI t L a = a := by
  unfold skI
  cases L.toNatClampNeg - a.toNatClampNeg with
  | zero => rfl
  | succ n => unfold skf; rw [if_neg (Int32.not_lt.mpr h)]
theorem sk_nb {t : Nat → Int32} {L a : Int32} (h : ¬ t a.toNatClampNeg = 32) : skI t L a = a := by
  unfold skI
  cases L.toNatClampNeg - a.toNatClampNeg with
  | zero => rfl
  | succ n => unfold skf; rw [if_neg h]; simp
theorem sk_go {t : Nat → Int32} {L a : Int32} (ho : okP L a) (h : ¬ L ≤ a) (h1 : t a.toNatClampNeg = 32) : skI t L a = skI t L (a + 1) := by
  obtain ⟨n, m, rfl, rfl, h2, h3⟩ := ho
  rw [nI_leI (by omega) (by omega)] at h
  unfold skI
  rw [nI_1, nI_clamp (by omega), nI_clamp (by omega), nI_clamp (by omega)]
  rw [nI_clamp (by omega)] at h1
  obtain ⟨j, hj⟩ : ∃ j, n - m = j + 1 := ⟨n - m - 1, by omega⟩
  have hj2 : n - (m + 1) = j := by omega
  rw [hj, hj2]
  conv => lhs; unfold skf
  rw [if_pos (nI_lt (by omega) (by omega)), nI_clamp (by omega), if_pos h1, nI_1]
theorem okP_skf {t : Nat → Int32} {L : Int32} : ∀ (n : Nat) {a : Int32}, okP L a → okP L (skf t L n a)
  | 0, a, h => h
  | n + 1, a, h => by
    unfold skf
    by_cases h1 : a < L
    · rw [if_pos h1]
      by_cases h2 : t a.toNatClampNeg = 32
      · rw [if_pos h2]
        exact okP_skf n (okP_s h (Int32.not_le.mpr h1))
      · rw [if_neg h2]; exact h
    · rw [if_neg h1]; exact h
theorem okP_sk {t : Nat → Int32} {L a : Int32} (h : okP L a) : okP L (skI t L a) := okP_skf _ h
theorem ch_in {t : Nat → Int32} {L a : Int32} (h : ¬ chI t L a = -1) : ¬ L ≤ a := fun q => h (ch_ge q)
def tkI (t : Nat → Int32) (L a c : Int32) : Int32 := if chI t L (skI t L a) = c then skI t L a + 1 else skI t L a
theorem okP_tk {t : Nat → Int32} {L a c : Int32} (h : okP L a) (hc : ¬ c = -1) : okP L (tkI t L a c) := by
  unfold tkI
  by_cases h1 : chI t L (skI t L a) = c
  · rw [if_pos h1]
    exact okP_s (okP_sk h) (ch_in (by rw [h1]; exact hc))
  · rw [if_neg h1]
    exact okP_sk h
abbrev dg (c : Int32) : Prop := 48 ≤ c ∧ c ≤ 57
theorem dg_n1 {c : Int32} (h : dg c) : ¬ c = -1 := by
  rintro rfl
  exact absurd h.1 (by decide)
def szI (c : Int32) : Int32 := if c = 119 then 0 else if c = 116 then 1 else if c = 108 then 2 else if c = 110 then 3 else -1
/-! contracts of the leaves -/
def ct_S_within : wE → CallT := fun _ As G KR _ => ∃ a lo hi : Int32, As = [.int a, .int lo, .int hi] ∧ KR (some (.int (bI (lo ≤ a ∧ a ≤ hi)))) G
def cs_S_within (E : wE) : List (Nat × (Nat × Nat × Nat × Nat × CallT)) := []
set_option maxRecDepth 100000 in
set_option maxHeartbeats 8000000 in
theorem c_S_within (l : Launch) : Con l y_S_within b_S_within 3 (some .boolean) 0 0 0 ct_S_within := by
  refine Con_of (by decide) (fun E av G RP TP h => ?_) (fun E av G RP TP h A Q p e s m args below meth c hR hn => ?_)
  · obtain ⟨a, lo, hi, rfl, h⟩ := h
    simp [lg_sl, Value.category]
  · obtain ⟨a, lo, hi, rfl, h⟩ := h
    have hX := hR.1
    have hH := wpH_of hR rfl rfl fl_S fl_S_ok none (fun ci h => by cases h) nw_S nw_S_ok (nq_S E) (nq_S_ok E) ac_int ac_long (cs_S_within E) trivial
    refine startV hH [] trivial 40 ?_
    simp only [wp_s, wp1_s, wpX_i, wpX_c, toOpt_ok, wI_iconst, wI_bipush, wI_sipush, wI_lconst, wI_aconst_null, wI_iadd, wI_isub, wI_imul, wI_iand, wI_ior, wI_ixor, wI_ishl, wI_ishr, wI_iushr, wI_idiv, wI_irem, wI_ineg, wI_ladd, wI_lsub, wI_lmul, wI_land, wI_lor, wI_lxor, wI_lshl, wI_lushr, wI_lshr, wI_lcmp, wI_i2l, wI_l2i, wI_i2b, wI_i2c, wI_dup, wI_pop, wI_dup_x1, wI_dup_x2, wI_dup2, wI_iload_n, wI_iload, wI_lload_n, wI_lload, wI_aload_n, wI_aload, wI_istore_n, wI_istore, wI_lstore_n, wI_lstore, wI_astore_n, wI_astore_nN, wI_astore, wI_astoreN, wI_iinc, wI_if_eq, wI_icmp_eq, wI_if_ne, wI_icmp_ne, wI_if_lt, wI_icmp_lt, wI_if_ge, wI_icmp_ge, wI_if_gt, wI_icmp_gt, wI_if_le, wI_icmp_le, wI_goto, wI_ifnullN, wI_ifnullR, wI_ifnonnullN, wI_ifnonnullR, wI_tableswitch, wI_lookupswitch, wI_getfield, wI_putfield, wI_iaload, wI_laload, wI_aaload, wI_iastore, wI_lastore, wI_aastore, wI_arraylength, wI_new, wI_newarray_int, wI_newarray_long, wI_anewarray, wI_invokestatic, wI_invokespecial, wI_invokevirtual, wI_ireturn, wI_return_, lg, ldel, lset, lset2, lgs, lk_nil, lk_cons, lv_args, csum, tg, swT, swL, Value.category, fv0, fv1, fv2, fv3, kc_b_6, kc_b_7, kc_b_8, kc_b_9, kc_b_10, kc_b_15, kc_b_20, kc_b_32, kc_b_42, kc_b_43, kc_b_44, kc_b_45, kc_b_47, kc_b_48, kc_b_56, kc_b_57, kc_b_59, kc_b_61, kc_b_80, kc_b_91, kc_b_93, kc_b_97, kc_b_100, kc_b_104, kc_b_107, kc_b_108, kc_b_110, kc_b_116, kc_b_119, kc_i_m1, kc_i_0, kc_i_1, kc_i_2, kc_i_3, kc_i_4, kc_i_5, kc_i_6, kc_s_m9999, kc_s_128, kc_s_200, kc_s_255, kc_s_768, kc_s_896, kc_s_1000, kc_s_9999, List.take_succ_cons, List.take_zero, List.drop_succ_cons, List.drop_zero, List.reverse_cons, List.reverse_nil, List.nil_append, List.cons_append, List.append_nil, List.singleton_append, Option.toList_some, Option.toList_none, List.getElem?_cons_zero, List.getElem?_cons_succ, List.set_cons_zero, List.set_cons_succ, List.length_cons, List.length_nil, ↓reduceIte, reduceCtorEq, and_true, true_and, and_self, implies_true, forall_const, Nat.zero_add, Nat.add_zero, Nat.le_refl, Nat.zero_le, Int.cast_ofNat_Int, cast0, cast1, false_and, and_false, false_implies, true_implies, not_true_eq_false, not_false_eq_true, Nat.reduceAdd, Nat.reduceEqDiff, Nat.reduceLeDiff, Nat.reduceSub, Nat.reduceMul, Int.reduceAdd, Int.reduceNeg, Int.reduceLE, Int.reduceSub, Int.reduceToNat, Int.reduceEq, Nat.reduceBEq, Nat.reduceLT, bI_0, Classical.not_not, exists_eq', exists_eq, i10, i01, im10, na_i, fi_i, na_l, na_o, fi_o, na_on, fi_on, na_a, fi_a, na_b0, na_b1, isA_2, isA_3, isAof_2, isAof_3, vrf_s, vrf_n, eq_self, true_or, or_true, or_false, false_or, ne_eq, Option.some.injEq, Sum.inr.injEq, Sum.inl.injEq, Prod.mk.injEq, List.cons.injEq, Value.ref.injEq, Value.int.injEq, Value.long.injEq, exists_and_left, exists_and_right, exists_eq_left, exists_eq_left', exists_eq_right, exists_eq_right', exists_const, and_assoc, gset_at, gset_gset, List.zip_cons_cons, List.zip_nil_right, List.zip_nil_left, List.zipWith_cons_cons, List.zipWith_nil_right, List.zip, List.zipWith, d_S_within_0, d_S_within_1, d_S_within_2, d_S_within_5, d_S_within_6, d_S_within_7, d_S_within_10, d_S_within_11, d_S_within_14, d_S_within_15]
    refine ⟨fun h1 => ?_, fun h1 => ⟨fun h2 => ?_, fun h2 => ?_⟩⟩
    · rw [bI_f (fun q => absurd q.1 (Int32.not_le.mpr h1))] at h; exact h
    · rw [bI_f (fun q => absurd q.2 (Int32.not_le.mpr h2))] at h; exact h
    · rw [bI_t ⟨Int32.not_lt.mp h1, Int32.not_lt.mp h2⟩] at h; exact h
theorem pre_S_within : ∀ (E : wE) As G KR KT, ct_S_within E As G KR KT → As.length = 3 := by
  rintro E As G KR KT ⟨_, _, _, rfl, -⟩
  rfl
def ct_S_isRule : wE → CallT := fun _ As G KR _ => ∃ a : Int32, As = [.int a] ∧ KR (some (.int (bI (0 ≤ a ∧ a ≤ 7)))) G
def cs_S_isRule (E : wE) : List (Nat × (Nat × Nat × Nat × Nat × CallT)) := [(56, (0, 3, 0, 0, ct_S_within E))]
theorem csx_S_isRule_56 (E : wE) : lk (cs_S_isRule E) 56 = some (0, 3, 0, 0, ct_S_within E) := rfl
set_option maxRecDepth 100000 in
set_option maxHeartbeats 8000000 in
theorem c_S_isRule (l : Launch) : Con l y_S_isRule b_S_isRule 1 (some .boolean) 1 0 0 ct_S_isRule := by
  refine Con_of (by decide) (fun E av G RP TP h => ?_) (fun E av G RP TP h A Q p e s m args below meth c hR hn => ?_)
  · obtain ⟨a, rfl, h⟩ := h
    simp [lg_sl, Value.category]
  · obtain ⟨a, rfl, h⟩ := h
    have hX := hR.1
    have hH := wpH_of hR rfl rfl fl_S fl_S_ok none (fun ci h => by cases h) nw_S nw_S_ok (nq_S E) (nq_S_ok E) ac_int ac_long (cs_S_isRule E) ⟨callS_ok (ct := ct_S_within) hX (c_S_within l) mi_S_within ini_S st_S_within lk_S_56 dn_S_within pre_S_within (by decide) (by decide), trivial⟩
    refine startV hH [] trivial 40 ?_
    simp only [wp_s, wp1_s, wpX_i, wpX_c, toOpt_ok, wI_iconst, wI_bipush, wI_sipush, wI_lconst, wI_aconst_null, wI_iadd, wI_isub, wI_imul, wI_iand, wI_ior, wI_ixor, wI_ishl, wI_ishr, wI_iushr, wI_idiv, wI_irem, wI_ineg, wI_ladd, wI_lsub, wI_lmul, wI_land, wI_lor, wI_lxor, wI_lshl, wI_lushr, wI_lshr, wI_lcmp, wI_i2l, wI_l2i, wI_i2b, wI_i2c, wI_dup, wI_pop, wI_dup_x1, wI_dup_x2, wI_dup2, wI_iload_n, wI_iload, wI_lload_n, wI_lload, wI_aload_n, wI_aload, wI_istore_n, wI_istore, wI_lstore_n, wI_lstore, wI_astore_n, wI_astore_nN, wI_astore, wI_astoreN, wI_iinc, wI_if_eq, wI_icmp_eq, wI_if_ne, wI_icmp_ne, wI_if_lt, wI_icmp_lt, wI_if_ge, wI_icmp_ge, wI_if_gt, wI_icmp_gt, wI_if_le, wI_icmp_le, wI_goto, wI_ifnullN, wI_ifnullR, wI_ifnonnullN, wI_ifnonnullR, wI_tableswitch, wI_lookupswitch, wI_getfield, wI_putfield, wI_iaload, wI_laload, wI_aaload, wI_iastore, wI_lastore, wI_aastore, wI_arraylength, wI_new, wI_newarray_int, wI_newarray_long, wI_anewarray, wI_invokestatic, wI_invokespecial, wI_invokevirtual, wI_ireturn, wI_return_, lg, ldel, lset, lset2, lgs, lk_nil, lk_cons, lv_args, csum, tg, swT, swL, Value.category, fv0, fv1, fv2, fv3, kc_b_6, kc_b_7, kc_b_8, kc_b_9, kc_b_10, kc_b_15, kc_b_20, kc_b_32, kc_b_42, kc_b_43, kc_b_44, kc_b_45, kc_b_47, kc_b_48, kc_b_56, kc_b_57, kc_b_59, kc_b_61, kc_b_80, kc_b_91, kc_b_93, kc_b_97, kc_b_100, kc_b_104, kc_b_107, kc_b_108, kc_b_110, kc_b_116, kc_b_119, kc_i_m1, kc_i_0, kc_i_1, kc_i_2, kc_i_3, kc_i_4, kc_i_5, kc_i_6, kc_s_m9999, kc_s_128, kc_s_200, kc_s_255, kc_s_768, kc_s_896, kc_s_1000, kc_s_9999, List.take_succ_cons, List.take_zero, List.drop_succ_cons, List.drop_zero, List.reverse_cons, List.reverse_nil, List.nil_append, List.cons_append, List.append_nil, List.singleton_append, Option.toList_some, Option.toList_none, List.getElem?_cons_zero, List.getElem?_cons_succ, List.set_cons_zero, List.set_cons_succ, List.length_cons, List.length_nil, ↓reduceIte, reduceCtorEq, and_true, true_and, and_self, implies_true, forall_const, Nat.zero_add, Nat.add_zero, Nat.le_refl, Nat.zero_le, Int.cast_ofNat_Int, cast0, cast1, false_and, and_false, false_implies, true_implies, not_true_eq_false, not_false_eq_true, Nat.reduceAdd, Nat.reduceEqDiff, Nat.reduceLeDiff, Nat.reduceSub, Nat.reduceMul, Int.reduceAdd, Int.reduceNeg, Int.reduceLE, Int.reduceSub, Int.reduceToNat, Int.reduceEq, Nat.reduceBEq, Nat.reduceLT, bI_0, Classical.not_not, exists_eq', exists_eq, i10, i01, im10, na_i, fi_i, na_l, na_o, fi_o, na_on, fi_on, na_a, fi_a, na_b0, na_b1, isA_2, isA_3, isAof_2, isAof_3, vrf_s, vrf_n, eq_self, true_or, or_true, or_false, false_or, ne_eq, Option.some.injEq, Sum.inr.injEq, Sum.inl.injEq, Prod.mk.injEq, List.cons.injEq, Value.ref.injEq, Value.int.injEq, Value.long.injEq, exists_and_left, exists_and_right, exists_eq_left, exists_eq_left', exists_eq_right, exists_eq_right', exists_const, and_assoc, gset_at, gset_gset, List.zip_cons_cons, List.zip_nil_right, List.zip_nil_left, List.zipWith_cons_cons, List.zipWith_nil_right, List.zip, List.zipWith, d_S_isRule_0, d_S_isRule_1, d_S_isRule_2, d_S_isRule_4, d_S_isRule_7, ct_S_within, csx_S_isRule_56]
    exact ⟨nb_bI _, h⟩
theorem pre_S_isRule : ∀ (E : wE) As G KR KT, ct_S_isRule E As G KR KT → As.length = 1 := by
  rintro E As G KR KT ⟨_, rfl, -⟩
  rfl
def ct_S_isCustomer : wE → CallT := fun _ As G KR _ => ∃ a : Int32, As = [.int a] ∧ KR (some (.int (bI (0 ≤ a ∧ a ≤ 9)))) G
def cs_S_isCustomer (E : wE) : List (Nat × (Nat × Nat × Nat × Nat × CallT)) := [(56, (0, 3, 0, 0, ct_S_within E))]
theorem csx_S_isCustomer_56 (E : wE) : lk (cs_S_isCustomer E) 56 = some (0, 3, 0, 0, ct_S_within E) := rfl
set_option maxRecDepth 100000 in
set_option maxHeartbeats 8000000 in
theorem c_S_isCustomer (l : Launch) : Con l y_S_isCustomer b_S_isCustomer 1 (some .boolean) 1 0 0 ct_S_isCustomer := by
  refine Con_of (by decide) (fun E av G RP TP h => ?_) (fun E av G RP TP h A Q p e s m args below meth c hR hn => ?_)
  · obtain ⟨a, rfl, h⟩ := h
    simp [lg_sl, Value.category]
  · obtain ⟨a, rfl, h⟩ := h
    have hX := hR.1
    have hH := wpH_of hR rfl rfl fl_S fl_S_ok none (fun ci h => by cases h) nw_S nw_S_ok (nq_S E) (nq_S_ok E) ac_int ac_long (cs_S_isCustomer E) ⟨callS_ok (ct := ct_S_within) hX (c_S_within l) mi_S_within ini_S st_S_within lk_S_56 dn_S_within pre_S_within (by decide) (by decide), trivial⟩
    refine startV hH [] trivial 40 ?_
    simp only [wp_s, wp1_s, wpX_i, wpX_c, toOpt_ok, wI_iconst, wI_bipush, wI_sipush, wI_lconst, wI_aconst_null, wI_iadd, wI_isub, wI_imul, wI_iand, wI_ior, wI_ixor, wI_ishl, wI_ishr, wI_iushr, wI_idiv, wI_irem, wI_ineg, wI_ladd, wI_lsub, wI_lmul, wI_land, wI_lor, wI_lxor, wI_lshl, wI_lushr, wI_lshr, wI_lcmp, wI_i2l, wI_l2i, wI_i2b, wI_i2c, wI_dup, wI_pop, wI_dup_x1, wI_dup_x2, wI_dup2, wI_iload_n, wI_iload, wI_lload_n, wI_lload, wI_aload_n, wI_aload, wI_istore_n, wI_istore, wI_lstore_n, wI_lstore, wI_astore_n, wI_astore_nN, wI_astore, wI_astoreN, wI_iinc, wI_if_eq, wI_icmp_eq, wI_if_ne, wI_icmp_ne, wI_if_lt, wI_icmp_lt, wI_if_ge, wI_icmp_ge, wI_if_gt, wI_icmp_gt, wI_if_le, wI_icmp_le, wI_goto, wI_ifnullN, wI_ifnullR, wI_ifnonnullN, wI_ifnonnullR, wI_tableswitch, wI_lookupswitch, wI_getfield, wI_putfield, wI_iaload, wI_laload, wI_aaload, wI_iastore, wI_lastore, wI_aastore, wI_arraylength, wI_new, wI_newarray_int, wI_newarray_long, wI_anewarray, wI_invokestatic, wI_invokespecial, wI_invokevirtual, wI_ireturn, wI_return_, lg, ldel, lset, lset2, lgs, lk_nil, lk_cons, lv_args, csum, tg, swT, swL, Value.category, fv0, fv1, fv2, fv3, kc_b_6, kc_b_7, kc_b_8, kc_b_9, kc_b_10, kc_b_15, kc_b_20, kc_b_32, kc_b_42, kc_b_43, kc_b_44, kc_b_45, kc_b_47, kc_b_48, kc_b_56, kc_b_57, kc_b_59, kc_b_61, kc_b_80, kc_b_91, kc_b_93, kc_b_97, kc_b_100, kc_b_104, kc_b_107, kc_b_108, kc_b_110, kc_b_116, kc_b_119, kc_i_m1, kc_i_0, kc_i_1, kc_i_2, kc_i_3, kc_i_4, kc_i_5, kc_i_6, kc_s_m9999, kc_s_128, kc_s_200, kc_s_255, kc_s_768, kc_s_896, kc_s_1000, kc_s_9999, List.take_succ_cons, List.take_zero, List.drop_succ_cons, List.drop_zero, List.reverse_cons, List.reverse_nil, List.nil_append, List.cons_append, List.append_nil, List.singleton_append, Option.toList_some, Option.toList_none, List.getElem?_cons_zero, List.getElem?_cons_succ, List.set_cons_zero, List.set_cons_succ, List.length_cons, List.length_nil, ↓reduceIte, reduceCtorEq, and_true, true_and, and_self, implies_true, forall_const, Nat.zero_add, Nat.add_zero, Nat.le_refl, Nat.zero_le, Int.cast_ofNat_Int, cast0, cast1, false_and, and_false, false_implies, true_implies, not_true_eq_false, not_false_eq_true, Nat.reduceAdd, Nat.reduceEqDiff, Nat.reduceLeDiff, Nat.reduceSub, Nat.reduceMul, Int.reduceAdd, Int.reduceNeg, Int.reduceLE, Int.reduceSub, Int.reduceToNat, Int.reduceEq, Nat.reduceBEq, Nat.reduceLT, bI_0, Classical.not_not, exists_eq', exists_eq, i10, i01, im10, na_i, fi_i, na_l, na_o, fi_o, na_on, fi_on, na_a, fi_a, na_b0, na_b1, isA_2, isA_3, isAof_2, isAof_3, vrf_s, vrf_n, eq_self, true_or, or_true, or_false, false_or, ne_eq, Option.some.injEq, Sum.inr.injEq, Sum.inl.injEq, Prod.mk.injEq, List.cons.injEq, Value.ref.injEq, Value.int.injEq, Value.long.injEq, exists_and_left, exists_and_right, exists_eq_left, exists_eq_left', exists_eq_right, exists_eq_right', exists_const, and_assoc, gset_at, gset_gset, List.zip_cons_cons, List.zip_nil_right, List.zip_nil_left, List.zipWith_cons_cons, List.zipWith_nil_right, List.zip, List.zipWith, d_S_isCustomer_0, d_S_isCustomer_1, d_S_isCustomer_2, d_S_isCustomer_4, d_S_isCustomer_7, ct_S_within, csx_S_isCustomer_56]
    exact ⟨nb_bI _, h⟩
theorem pre_S_isCustomer : ∀ (E : wE) As G KR KT, ct_S_isCustomer E As G KR KT → As.length = 1 := by
  rintro E As G KR KT ⟨_, rfl, -⟩
  rfl
def ct_S_isSize : wE → CallT := fun _ As G KR _ => ∃ a : Int32, As = [.int a] ∧ KR (some (.int (bI (0 ≤ a ∧ a ≤ 9999)))) G
def cs_S_isSize (E : wE) : List (Nat × (Nat × Nat × Nat × Nat × CallT)) := [(56, (0, 3, 0, 0, ct_S_within E))]
theorem csx_S_isSize_56 (E : wE) : lk (cs_S_isSize E) 56 = some (0, 3, 0, 0, ct_S_within E) := rfl
set_option maxRecDepth 100000 in
set_option maxHeartbeats 8000000 in
theorem c_S_isSize (l : Launch) : Con l y_S_isSize b_S_isSize 1 (some .boolean) 1 0 0 ct_S_isSize := by
  refine Con_of (by decide) (fun E av G RP TP h => ?_) (fun E av G RP TP h A Q p e s m args below meth c hR hn => ?_)
  · obtain ⟨a, rfl, h⟩ := h
    simp [lg_sl, Value.category]
  · obtain ⟨a, rfl, h⟩ := h
    have hX := hR.1
    have hH := wpH_of hR rfl rfl fl_S fl_S_ok none (fun ci h => by cases h) nw_S nw_S_ok (nq_S E) (nq_S_ok E) ac_int ac_long (cs_S_isSize E) ⟨callS_ok (ct := ct_S_within) hX (c_S_within l) mi_S_within ini_S st_S_within lk_S_56 dn_S_within pre_S_within (by decide) (by decide), trivial⟩
    refine startV hH [] trivial 40 ?_
    simp only [wp_s, wp1_s, wpX_i, wpX_c, toOpt_ok, wI_iconst, wI_bipush, wI_sipush, wI_lconst, wI_aconst_null, wI_iadd, wI_isub, wI_imul, wI_iand, wI_ior, wI_ixor, wI_ishl, wI_ishr, wI_iushr, wI_idiv, wI_irem, wI_ineg, wI_ladd, wI_lsub, wI_lmul, wI_land, wI_lor, wI_lxor, wI_lshl, wI_lushr, wI_lshr, wI_lcmp, wI_i2l, wI_l2i, wI_i2b, wI_i2c, wI_dup, wI_pop, wI_dup_x1, wI_dup_x2, wI_dup2, wI_iload_n, wI_iload, wI_lload_n, wI_lload, wI_aload_n, wI_aload, wI_istore_n, wI_istore, wI_lstore_n, wI_lstore, wI_astore_n, wI_astore_nN, wI_astore, wI_astoreN, wI_iinc, wI_if_eq, wI_icmp_eq, wI_if_ne, wI_icmp_ne, wI_if_lt, wI_icmp_lt, wI_if_ge, wI_icmp_ge, wI_if_gt, wI_icmp_gt, wI_if_le, wI_icmp_le, wI_goto, wI_ifnullN, wI_ifnullR, wI_ifnonnullN, wI_ifnonnullR, wI_tableswitch, wI_lookupswitch, wI_getfield, wI_putfield, wI_iaload, wI_laload, wI_aaload, wI_iastore, wI_lastore, wI_aastore, wI_arraylength, wI_new, wI_newarray_int, wI_newarray_long, wI_anewarray, wI_invokestatic, wI_invokespecial, wI_invokevirtual, wI_ireturn, wI_return_, lg, ldel, lset, lset2, lgs, lk_nil, lk_cons, lv_args, csum, tg, swT, swL, Value.category, fv0, fv1, fv2, fv3, kc_b_6, kc_b_7, kc_b_8, kc_b_9, kc_b_10, kc_b_15, kc_b_20, kc_b_32, kc_b_42, kc_b_43, kc_b_44, kc_b_45, kc_b_47, kc_b_48, kc_b_56, kc_b_57, kc_b_59, kc_b_61, kc_b_80, kc_b_91, kc_b_93, kc_b_97, kc_b_100, kc_b_104, kc_b_107, kc_b_108, kc_b_110, kc_b_116, kc_b_119, kc_i_m1, kc_i_0, kc_i_1, kc_i_2, kc_i_3, kc_i_4, kc_i_5, kc_i_6, kc_s_m9999, kc_s_128, kc_s_200, kc_s_255, kc_s_768, kc_s_896, kc_s_1000, kc_s_9999, List.take_succ_cons, List.take_zero, List.drop_succ_cons, List.drop_zero, List.reverse_cons, List.reverse_nil, List.nil_append, List.cons_append, List.append_nil, List.singleton_append, Option.toList_some, Option.toList_none, List.getElem?_cons_zero, List.getElem?_cons_succ, List.set_cons_zero, List.set_cons_succ, List.length_cons, List.length_nil, ↓reduceIte, reduceCtorEq, and_true, true_and, and_self, implies_true, forall_const, Nat.zero_add, Nat.add_zero, Nat.le_refl, Nat.zero_le, Int.cast_ofNat_Int, cast0, cast1, false_and, and_false, false_implies, true_implies, not_true_eq_false, not_false_eq_true, Nat.reduceAdd, Nat.reduceEqDiff, Nat.reduceLeDiff, Nat.reduceSub, Nat.reduceMul, Int.reduceAdd, Int.reduceNeg, Int.reduceLE, Int.reduceSub, Int.reduceToNat, Int.reduceEq, Nat.reduceBEq, Nat.reduceLT, bI_0, Classical.not_not, exists_eq', exists_eq, i10, i01, im10, na_i, fi_i, na_l, na_o, fi_o, na_on, fi_on, na_a, fi_a, na_b0, na_b1, isA_2, isA_3, isAof_2, isAof_3, vrf_s, vrf_n, eq_self, true_or, or_true, or_false, false_or, ne_eq, Option.some.injEq, Sum.inr.injEq, Sum.inl.injEq, Prod.mk.injEq, List.cons.injEq, Value.ref.injEq, Value.int.injEq, Value.long.injEq, exists_and_left, exists_and_right, exists_eq_left, exists_eq_left', exists_eq_right, exists_eq_right', exists_const, and_assoc, gset_at, gset_gset, List.zip_cons_cons, List.zip_nil_right, List.zip_nil_left, List.zipWith_cons_cons, List.zipWith_nil_right, List.zip, List.zipWith, d_S_isSize_0, d_S_isSize_1, d_S_isSize_2, d_S_isSize_5, d_S_isSize_8, ct_S_within, csx_S_isSize_56]
    exact ⟨nb_bI _, h⟩
theorem pre_S_isSize : ∀ (E : wE) As G KR KT, ct_S_isSize E As G KR KT → As.length = 1 := by
  rintro E As G KR KT ⟨_, rfl, -⟩
  rfl
theorem dg_dec (c : Int32) : dg c ↔ 48 ≤ c ∧ c ≤ 57 := Iff.rfl
def ct_R_isDigit : wE → CallT := fun _ As G KR _ => ∃ a : Int32, As = [.int a] ∧ KR (some (.int (bI (48 ≤ a ∧ a ≤ 57)))) G
def cs_R_isDigit (E : wE) : List (Nat × (Nat × Nat × Nat × Nat × CallT)) := []
set_option maxRecDepth 100000 in
set_option maxHeartbeats 8000000 in
theorem c_R_isDigit (l : Launch) : Con l y_R_isDigit b_R_isDigit 1 (some .boolean) 0 0 0 ct_R_isDigit := by
  refine Con_of (by decide) (fun E av G RP TP h => ?_) (fun E av G RP TP h A Q p e s m args below meth c hR hn => ?_)
  · obtain ⟨a, rfl, h⟩ := h
    simp [lg_sl, Value.category]
  · obtain ⟨a, rfl, h⟩ := h
    have hX := hR.1
    have hH := wpH_of hR rfl rfl fl_R fl_R_ok none (fun ci h => by cases h) nw_R nw_R_ok (nq_R E) (nq_R_ok E) ac_int ac_long (cs_R_isDigit E) trivial
    refine startV hH [] trivial 40 ?_
    simp only [wp_s, wp1_s, wpX_i, wpX_c, toOpt_ok, wI_iconst, wI_bipush, wI_sipush, wI_lconst, wI_aconst_null, wI_iadd, wI_isub, wI_imul, wI_iand, wI_ior, wI_ixor, wI_ishl, wI_ishr, wI_iushr, wI_idiv, wI_irem, wI_ineg, wI_ladd, wI_lsub, wI_lmul, wI_land, wI_lor, wI_lxor, wI_lshl, wI_lushr, wI_lshr, wI_lcmp, wI_i2l, wI_l2i, wI_i2b, wI_i2c, wI_dup, wI_pop, wI_dup_x1, wI_dup_x2, wI_dup2, wI_iload_n, wI_iload, wI_lload_n, wI_lload, wI_aload_n, wI_aload, wI_istore_n, wI_istore, wI_lstore_n, wI_lstore, wI_astore_n, wI_astore_nN, wI_astore, wI_astoreN, wI_iinc, wI_if_eq, wI_icmp_eq, wI_if_ne, wI_icmp_ne, wI_if_lt, wI_icmp_lt, wI_if_ge, wI_icmp_ge, wI_if_gt, wI_icmp_gt, wI_if_le, wI_icmp_le, wI_goto, wI_ifnullN, wI_ifnullR, wI_ifnonnullN, wI_ifnonnullR, wI_tableswitch, wI_lookupswitch, wI_getfield, wI_putfield, wI_iaload, wI_laload, wI_aaload, wI_iastore, wI_lastore, wI_aastore, wI_arraylength, wI_new, wI_newarray_int, wI_newarray_long, wI_anewarray, wI_invokestatic, wI_invokespecial, wI_invokevirtual, wI_ireturn, wI_return_, lg, ldel, lset, lset2, lgs, lk_nil, lk_cons, lv_args, csum, tg, swT, swL, Value.category, fv0, fv1, fv2, fv3, kc_b_6, kc_b_7, kc_b_8, kc_b_9, kc_b_10, kc_b_15, kc_b_20, kc_b_32, kc_b_42, kc_b_43, kc_b_44, kc_b_45, kc_b_47, kc_b_48, kc_b_56, kc_b_57, kc_b_59, kc_b_61, kc_b_80, kc_b_91, kc_b_93, kc_b_97, kc_b_100, kc_b_104, kc_b_107, kc_b_108, kc_b_110, kc_b_116, kc_b_119, kc_i_m1, kc_i_0, kc_i_1, kc_i_2, kc_i_3, kc_i_4, kc_i_5, kc_i_6, kc_s_m9999, kc_s_128, kc_s_200, kc_s_255, kc_s_768, kc_s_896, kc_s_1000, kc_s_9999, List.take_succ_cons, List.take_zero, List.drop_succ_cons, List.drop_zero, List.reverse_cons, List.reverse_nil, List.nil_append, List.cons_append, List.append_nil, List.singleton_append, Option.toList_some, Option.toList_none, List.getElem?_cons_zero, List.getElem?_cons_succ, List.set_cons_zero, List.set_cons_succ, List.length_cons, List.length_nil, ↓reduceIte, reduceCtorEq, and_true, true_and, and_self, implies_true, forall_const, Nat.zero_add, Nat.add_zero, Nat.le_refl, Nat.zero_le, Int.cast_ofNat_Int, cast0, cast1, false_and, and_false, false_implies, true_implies, not_true_eq_false, not_false_eq_true, Nat.reduceAdd, Nat.reduceEqDiff, Nat.reduceLeDiff, Nat.reduceSub, Nat.reduceMul, Int.reduceAdd, Int.reduceNeg, Int.reduceLE, Int.reduceSub, Int.reduceToNat, Int.reduceEq, Nat.reduceBEq, Nat.reduceLT, bI_0, Classical.not_not, exists_eq', exists_eq, i10, i01, im10, na_i, fi_i, na_l, na_o, fi_o, na_on, fi_on, na_a, fi_a, na_b0, na_b1, isA_2, isA_3, isAof_2, isAof_3, vrf_s, vrf_n, eq_self, true_or, or_true, or_false, false_or, ne_eq, Option.some.injEq, Sum.inr.injEq, Sum.inl.injEq, Prod.mk.injEq, List.cons.injEq, Value.ref.injEq, Value.int.injEq, Value.long.injEq, exists_and_left, exists_and_right, exists_eq_left, exists_eq_left', exists_eq_right, exists_eq_right', exists_const, and_assoc, gset_at, gset_gset, List.zip_cons_cons, List.zip_nil_right, List.zip_nil_left, List.zipWith_cons_cons, List.zipWith_nil_right, List.zip, List.zipWith, d_R_isDigit_0, d_R_isDigit_1, d_R_isDigit_3, d_R_isDigit_6, d_R_isDigit_7, d_R_isDigit_9, d_R_isDigit_12, d_R_isDigit_13, d_R_isDigit_16, d_R_isDigit_17]
    refine ⟨fun h1 => ?_, fun h1 => ⟨fun h2 => ?_, fun h2 => ?_⟩⟩
    · rw [bI_f (fun q => absurd q.1 (Int32.not_le.mpr h1))] at h; exact h
    · rw [bI_f (fun q => absurd q.2 (Int32.not_le.mpr h2))] at h; exact h
    · rw [bI_t ⟨Int32.not_lt.mp h1, Int32.not_lt.mp h2⟩] at h; exact h
theorem pre_R_isDigit : ∀ (E : wE) As G KR KT, ct_R_isDigit E As G KR KT → As.length = 1 := by
  rintro E As G KR KT ⟨_, rfl, -⟩
  rfl
def ct_R_sizeOf : wE → CallT := fun _ As G KR _ => ∃ c : Int32, As = [.int c] ∧ KR (some (.int (szI c))) G
def cs_R_sizeOf (E : wE) : List (Nat × (Nat × Nat × Nat × Nat × CallT)) := []
set_option maxRecDepth 100000 in
set_option maxHeartbeats 8000000 in
theorem c_R_sizeOf (l : Launch) : Con l y_R_sizeOf b_R_sizeOf 1 (some .int) 0 0 0 ct_R_sizeOf := by
  refine Con_of (by decide) (fun E av G RP TP h => ?_) (fun E av G RP TP h A Q p e s m args below meth c hR hn => ?_)
  · obtain ⟨c0, rfl, h⟩ := h
    simp [lg_sl, Value.category]
  · obtain ⟨c0, rfl, h⟩ := h
    have hX := hR.1
    have hH := wpH_of hR rfl rfl fl_R fl_R_ok none (fun ci h => by cases h) nw_R nw_R_ok (nq_R E) (nq_R_ok E) ac_int ac_long (cs_R_sizeOf E) trivial
    refine startV hH [] trivial 40 ?_
    simp only [wp_s, wp1_s, wpX_i, wpX_c, toOpt_ok, wI_iconst, wI_bipush, wI_sipush, wI_lconst, wI_aconst_null, wI_iadd, wI_isub, wI_imul, wI_iand, wI_ior, wI_ixor, wI_ishl, wI_ishr, wI_iushr, wI_idiv, wI_irem, wI_ineg, wI_ladd, wI_lsub, wI_lmul, wI_land, wI_lor, wI_lxor, wI_lshl, wI_lushr, wI_lshr, wI_lcmp, wI_i2l, wI_l2i, wI_i2b, wI_i2c, wI_dup, wI_pop, wI_dup_x1, wI_dup_x2, wI_dup2, wI_iload_n, wI_iload, wI_lload_n, wI_lload, wI_aload_n, wI_aload, wI_istore_n, wI_istore, wI_lstore_n, wI_lstore, wI_astore_n, wI_astore_nN, wI_astore, wI_astoreN, wI_iinc, wI_if_eq, wI_icmp_eq, wI_if_ne, wI_icmp_ne, wI_if_lt, wI_icmp_lt, wI_if_ge, wI_icmp_ge, wI_if_gt, wI_icmp_gt, wI_if_le, wI_icmp_le, wI_goto, wI_ifnullN, wI_ifnullR, wI_ifnonnullN, wI_ifnonnullR, wI_tableswitch, wI_lookupswitch, wI_getfield, wI_putfield, wI_iaload, wI_laload, wI_aaload, wI_iastore, wI_lastore, wI_aastore, wI_arraylength, wI_new, wI_newarray_int, wI_newarray_long, wI_anewarray, wI_invokestatic, wI_invokespecial, wI_invokevirtual, wI_ireturn, wI_return_, lg, ldel, lset, lset2, lgs, lk_nil, lk_cons, lv_args, csum, tg, swT, swL, Value.category, fv0, fv1, fv2, fv3, kc_b_6, kc_b_7, kc_b_8, kc_b_9, kc_b_10, kc_b_15, kc_b_20, kc_b_32, kc_b_42, kc_b_43, kc_b_44, kc_b_45, kc_b_47, kc_b_48, kc_b_56, kc_b_57, kc_b_59, kc_b_61, kc_b_80, kc_b_91, kc_b_93, kc_b_97, kc_b_100, kc_b_104, kc_b_107, kc_b_108, kc_b_110, kc_b_116, kc_b_119, kc_i_m1, kc_i_0, kc_i_1, kc_i_2, kc_i_3, kc_i_4, kc_i_5, kc_i_6, kc_s_m9999, kc_s_128, kc_s_200, kc_s_255, kc_s_768, kc_s_896, kc_s_1000, kc_s_9999, List.take_succ_cons, List.take_zero, List.drop_succ_cons, List.drop_zero, List.reverse_cons, List.reverse_nil, List.nil_append, List.cons_append, List.append_nil, List.singleton_append, Option.toList_some, Option.toList_none, List.getElem?_cons_zero, List.getElem?_cons_succ, List.set_cons_zero, List.set_cons_succ, List.length_cons, List.length_nil, ↓reduceIte, reduceCtorEq, and_true, true_and, and_self, implies_true, forall_const, Nat.zero_add, Nat.add_zero, Nat.le_refl, Nat.zero_le, Int.cast_ofNat_Int, cast0, cast1, false_and, and_false, false_implies, true_implies, not_true_eq_false, not_false_eq_true, Nat.reduceAdd, Nat.reduceEqDiff, Nat.reduceLeDiff, Nat.reduceSub, Nat.reduceMul, Int.reduceAdd, Int.reduceNeg, Int.reduceLE, Int.reduceSub, Int.reduceToNat, Int.reduceEq, Nat.reduceBEq, Nat.reduceLT, bI_0, Classical.not_not, exists_eq', exists_eq, i10, i01, im10, na_i, fi_i, na_l, na_o, fi_o, na_on, fi_on, na_a, fi_a, na_b0, na_b1, isA_2, isA_3, isAof_2, isAof_3, vrf_s, vrf_n, eq_self, true_or, or_true, or_false, false_or, ne_eq, Option.some.injEq, Sum.inr.injEq, Sum.inl.injEq, Prod.mk.injEq, List.cons.injEq, Value.ref.injEq, Value.int.injEq, Value.long.injEq, exists_and_left, exists_and_right, exists_eq_left, exists_eq_left', exists_eq_right, exists_eq_right', exists_const, and_assoc, gset_at, gset_gset, List.zip_cons_cons, List.zip_nil_right, List.zip_nil_left, List.zipWith_cons_cons, List.zipWith_nil_right, List.zip, List.zipWith, d_R_sizeOf_0, d_R_sizeOf_1, d_R_sizeOf_44, d_R_sizeOf_45, d_R_sizeOf_46, d_R_sizeOf_47, d_R_sizeOf_48, d_R_sizeOf_49, d_R_sizeOf_50, d_R_sizeOf_51, d_R_sizeOf_52, d_R_sizeOf_53]
    refine ⟨by decide, fun h1 => ?_, fun h1 => ⟨fun h2 => ?_, fun h2 => ⟨fun h3 => ?_, fun h3 => ⟨fun h4 => ?_, fun h4 => ?_⟩⟩⟩⟩
    · have e : c0 = 108 := Int32.toInt_inj.mp h1
      subst e; exact h
    · have e : c0 = 110 := Int32.toInt_inj.mp h2
      subst e; exact h
    · have e : c0 = 116 := Int32.toInt_inj.mp h3
      subst e; exact h
    · have e : c0 = 119 := Int32.toInt_inj.mp h4
      subst e; exact h
    · have e1 : ¬ c0 = 108 := fun q => h1 (by rw [q]; rfl)
      have e2 : ¬ c0 = 110 := fun q => h2 (by rw [q]; rfl)
      have e3 : ¬ c0 = 116 := fun q => h3 (by rw [q]; rfl)
      have e4 : ¬ c0 = 119 := fun q => h4 (by rw [q]; rfl)
      have e : szI c0 = -1 := by simp [szI, e1, e2, e3, e4]
      rw [e] at h; exact h
theorem pre_R_sizeOf : ∀ (E : wE) As G KR KT, ct_R_sizeOf E As G KR KT → As.length = 1 := by
  rintro E As G KR KT ⟨_, rfl, -⟩
  rfl
def ct_K_joined : wE → CallT := fun _ As G KR _ => ∃ x sg y : Int32, As = [.int x, .int sg, .int y] ∧ KR (some (.int (if sg = 45 then x - y else x + y))) G
def cs_K_joined (E : wE) : List (Nat × (Nat × Nat × Nat × Nat × CallT)) := []
set_option maxRecDepth 100000 in
set_option maxHeartbeats 8000000 in
theorem c_K_joined (l : Launch) : Con l y_K_joined b_K_joined 3 (some .int) 0 0 0 ct_K_joined := by
  refine Con_of (by decide) (fun E av G RP TP h => ?_) (fun E av G RP TP h A Q p e s m args below meth c hR hn => ?_)
  · obtain ⟨x, sg, y, rfl, h⟩ := h
    simp [lg_sl, Value.category]
  · obtain ⟨x, sg, y, rfl, h⟩ := h
    have hX := hR.1
    have hH := wpH_of hR rfl rfl fl_K fl_K_ok none (fun ci h => by cases h) nw_K nw_K_ok (nq_K E) (nq_K_ok E) ac_int ac_long (cs_K_joined E) trivial
    refine startV hH [] trivial 40 ?_
    simp only [wp_s, wp1_s, wpX_i, wpX_c, toOpt_ok, wI_iconst, wI_bipush, wI_sipush, wI_lconst, wI_aconst_null, wI_iadd, wI_isub, wI_imul, wI_iand, wI_ior, wI_ixor, wI_ishl, wI_ishr, wI_iushr, wI_idiv, wI_irem, wI_ineg, wI_ladd, wI_lsub, wI_lmul, wI_land, wI_lor, wI_lxor, wI_lshl, wI_lushr, wI_lshr, wI_lcmp, wI_i2l, wI_l2i, wI_i2b, wI_i2c, wI_dup, wI_pop, wI_dup_x1, wI_dup_x2, wI_dup2, wI_iload_n, wI_iload, wI_lload_n, wI_lload, wI_aload_n, wI_aload, wI_istore_n, wI_istore, wI_lstore_n, wI_lstore, wI_astore_n, wI_astore_nN, wI_astore, wI_astoreN, wI_iinc, wI_if_eq, wI_icmp_eq, wI_if_ne, wI_icmp_ne, wI_if_lt, wI_icmp_lt, wI_if_ge, wI_icmp_ge, wI_if_gt, wI_icmp_gt, wI_if_le, wI_icmp_le, wI_goto, wI_ifnullN, wI_ifnullR, wI_ifnonnullN, wI_ifnonnullR, wI_tableswitch, wI_lookupswitch, wI_getfield, wI_putfield, wI_iaload, wI_laload, wI_aaload, wI_iastore, wI_lastore, wI_aastore, wI_arraylength, wI_new, wI_newarray_int, wI_newarray_long, wI_anewarray, wI_invokestatic, wI_invokespecial, wI_invokevirtual, wI_ireturn, wI_return_, lg, ldel, lset, lset2, lgs, lk_nil, lk_cons, lv_args, csum, tg, swT, swL, Value.category, fv0, fv1, fv2, fv3, kc_b_6, kc_b_7, kc_b_8, kc_b_9, kc_b_10, kc_b_15, kc_b_20, kc_b_32, kc_b_42, kc_b_43, kc_b_44, kc_b_45, kc_b_47, kc_b_48, kc_b_56, kc_b_57, kc_b_59, kc_b_61, kc_b_80, kc_b_91, kc_b_93, kc_b_97, kc_b_100, kc_b_104, kc_b_107, kc_b_108, kc_b_110, kc_b_116, kc_b_119, kc_i_m1, kc_i_0, kc_i_1, kc_i_2, kc_i_3, kc_i_4, kc_i_5, kc_i_6, kc_s_m9999, kc_s_128, kc_s_200, kc_s_255, kc_s_768, kc_s_896, kc_s_1000, kc_s_9999, List.take_succ_cons, List.take_zero, List.drop_succ_cons, List.drop_zero, List.reverse_cons, List.reverse_nil, List.nil_append, List.cons_append, List.append_nil, List.singleton_append, Option.toList_some, Option.toList_none, List.getElem?_cons_zero, List.getElem?_cons_succ, List.set_cons_zero, List.set_cons_succ, List.length_cons, List.length_nil, ↓reduceIte, reduceCtorEq, and_true, true_and, and_self, implies_true, forall_const, Nat.zero_add, Nat.add_zero, Nat.le_refl, Nat.zero_le, Int.cast_ofNat_Int, cast0, cast1, false_and, and_false, false_implies, true_implies, not_true_eq_false, not_false_eq_true, Nat.reduceAdd, Nat.reduceEqDiff, Nat.reduceLeDiff, Nat.reduceSub, Nat.reduceMul, Int.reduceAdd, Int.reduceNeg, Int.reduceLE, Int.reduceSub, Int.reduceToNat, Int.reduceEq, Nat.reduceBEq, Nat.reduceLT, bI_0, Classical.not_not, exists_eq', exists_eq, i10, i01, im10, na_i, fi_i, na_l, na_o, fi_o, na_on, fi_on, na_a, fi_a, na_b0, na_b1, isA_2, isA_3, isAof_2, isAof_3, vrf_s, vrf_n, eq_self, true_or, or_true, or_false, false_or, ne_eq, Option.some.injEq, Sum.inr.injEq, Sum.inl.injEq, Prod.mk.injEq, List.cons.injEq, Value.ref.injEq, Value.int.injEq, Value.long.injEq, exists_and_left, exists_and_right, exists_eq_left, exists_eq_left', exists_eq_right, exists_eq_right', exists_const, and_assoc, gset_at, gset_gset, List.zip_cons_cons, List.zip_nil_right, List.zip_nil_left, List.zipWith_cons_cons, List.zipWith_nil_right, List.zip, List.zipWith, d_K_joined_0, d_K_joined_1, d_K_joined_3, d_K_joined_6, d_K_joined_7, d_K_joined_8, d_K_joined_9, d_K_joined_12, d_K_joined_13, d_K_joined_14, d_K_joined_15]
    refine ⟨fun h1 => ?_, fun h1 => ?_⟩
    · rw [if_neg h1] at h; exact h
    · rw [if_pos h1] at h; exact h
theorem pre_K_joined : ∀ (E : wE) As G KR KT, ct_K_joined E As G KR KT → As.length = 3 := by
  rintro E As G KR KT ⟨_, _, _, rfl, -⟩
  rfl
def ct_R_here : wE → CallT := fun E As G KR _ => ∃ (r ta : Nat) (t : Nat → Int32) (L a : Int32) (nm f l1 : Value), As = [.ref r] ∧ G r = some (.inr (1, [.ref ta, .int L, .int a, nm, f, l1])) ∧ G ta = some (.inl (E.2.2 0, 200, .inl t)) ∧ okP L a ∧ KR (some (.int (chI t L a))) G
def cs_R_here (E : wE) : List (Nat × (Nat × Nat × Nat × Nat × CallT)) := []
set_option maxRecDepth 100000 in
set_option maxHeartbeats 8000000 in
theorem c_R_here (l : Launch) : Con l y_R_here b_R_here 1 (some .int) 0 0 0 ct_R_here := by
  refine Con_of (by decide) (fun E av G RP TP h => ?_) (fun E av G RP TP h A Q p e s m args below meth c hR hn => ?_)
  · obtain ⟨r, ta, t, L, a, nm, f, l1, rfl, hr, hta, hok, h⟩ := h
    simp [lg_sl, Value.category]
  · obtain ⟨r, ta, t, L, a, nm, f, l1, rfl, hr, hta, hok, h⟩ := h
    have hX := hR.1
    have hH := wpH_of hR rfl rfl fl_R fl_R_ok none (fun ci h => by cases h) nw_R nw_R_ok (nq_R E) (nq_R_ok E) ac_int ac_long (cs_R_here E) trivial
    refine startV hH [] trivial 40 ?_
    simp only [wp_s, wp1_s, wpX_i, wpX_c, toOpt_ok, wI_iconst, wI_bipush, wI_sipush, wI_lconst, wI_aconst_null, wI_iadd, wI_isub, wI_imul, wI_iand, wI_ior, wI_ixor, wI_ishl, wI_ishr, wI_iushr, wI_idiv, wI_irem, wI_ineg, wI_ladd, wI_lsub, wI_lmul, wI_land, wI_lor, wI_lxor, wI_lshl, wI_lushr, wI_lshr, wI_lcmp, wI_i2l, wI_l2i, wI_i2b, wI_i2c, wI_dup, wI_pop, wI_dup_x1, wI_dup_x2, wI_dup2, wI_iload_n, wI_iload, wI_lload_n, wI_lload, wI_aload_n, wI_aload, wI_istore_n, wI_istore, wI_lstore_n, wI_lstore, wI_astore_n, wI_astore_nN, wI_astore, wI_astoreN, wI_iinc, wI_if_eq, wI_icmp_eq, wI_if_ne, wI_icmp_ne, wI_if_lt, wI_icmp_lt, wI_if_ge, wI_icmp_ge, wI_if_gt, wI_icmp_gt, wI_if_le, wI_icmp_le, wI_goto, wI_ifnullN, wI_ifnullR, wI_ifnonnullN, wI_ifnonnullR, wI_tableswitch, wI_lookupswitch, wI_getfield, wI_putfield, wI_iaload, wI_laload, wI_aaload, wI_iastore, wI_lastore, wI_aastore, wI_arraylength, wI_new, wI_newarray_int, wI_newarray_long, wI_anewarray, wI_invokestatic, wI_invokespecial, wI_invokevirtual, wI_ireturn, wI_return_, lg, ldel, lset, lset2, lgs, lk_nil, lk_cons, lv_args, csum, tg, swT, swL, Value.category, fv0, fv1, fv2, fv3, kc_b_6, kc_b_7, kc_b_8, kc_b_9, kc_b_10, kc_b_15, kc_b_20, kc_b_32, kc_b_42, kc_b_43, kc_b_44, kc_b_45, kc_b_47, kc_b_48, kc_b_56, kc_b_57, kc_b_59, kc_b_61, kc_b_80, kc_b_91, kc_b_93, kc_b_97, kc_b_100, kc_b_104, kc_b_107, kc_b_108, kc_b_110, kc_b_116, kc_b_119, kc_i_m1, kc_i_0, kc_i_1, kc_i_2, kc_i_3, kc_i_4, kc_i_5, kc_i_6, kc_s_m9999, kc_s_128, kc_s_200, kc_s_255, kc_s_768, kc_s_896, kc_s_1000, kc_s_9999, List.take_succ_cons, List.take_zero, List.drop_succ_cons, List.drop_zero, List.reverse_cons, List.reverse_nil, List.nil_append, List.cons_append, List.append_nil, List.singleton_append, Option.toList_some, Option.toList_none, List.getElem?_cons_zero, List.getElem?_cons_succ, List.set_cons_zero, List.set_cons_succ, List.length_cons, List.length_nil, ↓reduceIte, reduceCtorEq, and_true, true_and, and_self, implies_true, forall_const, Nat.zero_add, Nat.add_zero, Nat.le_refl, Nat.zero_le, Int.cast_ofNat_Int, cast0, cast1, false_and, and_false, false_implies, true_implies, not_true_eq_false, not_false_eq_true, Nat.reduceAdd, Nat.reduceEqDiff, Nat.reduceLeDiff, Nat.reduceSub, Nat.reduceMul, Int.reduceAdd, Int.reduceNeg, Int.reduceLE, Int.reduceSub, Int.reduceToNat, Int.reduceEq, Nat.reduceBEq, Nat.reduceLT, bI_0, Classical.not_not, exists_eq', exists_eq, i10, i01, im10, na_i, fi_i, na_l, na_o, fi_o, na_on, fi_on, na_a, fi_a, na_b0, na_b1, isA_2, isA_3, isAof_2, isAof_3, vrf_s, vrf_n, eq_self, true_or, or_true, or_false, false_or, ne_eq, Option.some.injEq, Sum.inr.injEq, Sum.inl.injEq, Prod.mk.injEq, List.cons.injEq, Value.ref.injEq, Value.int.injEq, Value.long.injEq, exists_and_left, exists_and_right, exists_eq_left, exists_eq_left', exists_eq_right, exists_eq_right', exists_const, and_assoc, gset_at, gset_gset, List.zip_cons_cons, List.zip_nil_right, List.zip_nil_left, List.zipWith_cons_cons, List.zipWith_nil_right, List.zip, List.zipWith, d_R_here_0, d_R_here_1, d_R_here_4, d_R_here_5, d_R_here_8, d_R_here_11, d_R_here_12, d_R_here_15, d_R_here_16, d_R_here_19, d_R_here_20, d_R_here_23, d_R_here_24, flx_R_19, flx_R_15, flx_R_9, hr, hta]
    refine ⟨fun h1 => ?_, fun h1 => ⟨okP_in hok h1, ?_⟩⟩
    · rw [ch_ge h1] at h; exact h
    · rw [ch_lt h1] at h; exact h
theorem pre_R_here : ∀ (E : wE) As G KR KT, ct_R_here E As G KR KT → ∃ a As' fs, As = .ref a :: As' ∧ As'.length = 0 ∧ G a = some (.inr (1, fs)) := by
  rintro E As G KR KT ⟨_, _, _, _, _, _, _, _, rfl, hr, -⟩
  exact ⟨_, _, _, rfl, rfl, hr⟩
def ct_R_next : wE → CallT := fun E As G KR _ => ∃ (r ta : Nat) (t : Nat → Int32) (L a : Int32) (nm f l1 : Value), As = [.ref r] ∧ G r = some (.inr (1, [.ref ta, .int L, .int a, nm, f, l1])) ∧ G ta = some (.inl (E.2.2 0, 200, .inl t)) ∧ okP L a ∧ KR (some (.int (chI t L (skI t L a)))) (gset G r (.inr (1, [.ref ta, .int L, .int (skI t L a), nm, f, l1])))
def cs_R_next (E : wE) : List (Nat × (Nat × Nat × Nat × Nat × CallT)) := []
set_option maxRecDepth 100000 in
set_option maxHeartbeats 8000000 in
theorem c_R_next (l : Launch) : Con l y_R_next b_R_next 1 (some .int) 0 0 0 ct_R_next := by
  refine Con_of (by decide) (fun E av G RP TP h => ?_) (fun E av G RP TP h A Q p e s m args below meth c hR hn => ?_)
  · obtain ⟨r, ta, t, L, a, nm, f, l1, rfl, hr, hta, hok, h⟩ := h
    simp [lg_sl, Value.category]
  · obtain ⟨r, ta, t, L, a, nm, f, l1, rfl, hr, hta, hok, h⟩ := h
    have hX := hR.1
    have hH := wpH_of hR rfl rfl fl_R fl_R_ok none (fun ci h => by cases h) nw_R nw_R_ok (nq_R E) (nq_R_ok E) ac_int ac_long (cs_R_next E) trivial
    have hne : ta ≠ r := ne_cells hta hr (by simp)
    refine loopV hH 0 [0] (fun n vs st G1 k d => ∃ a1 : Int32, vs = [.ref r] ∧ st = [] ∧ G1 = gset G r (.inr (1, [.ref ta, .int L, .int a1, nm, f, l1])) ∧ k = 0 ∧ d = 0 ∧ okP L a1 ∧ skI t L a1 = skI t L a ∧ n = L.toNatClampNeg - a1.toNatClampNeg) [] trivial 60 ?_ _ [.ref r] [] G 0 0 ⟨a, rfl, rfl, (gset_same hr).symm, rfl, rfl, hok, rfl, rfl⟩
    rintro n vs st G1 k d ⟨a1, rfl, rfl, rfl, rfl, rfl, hok1, hsk, hn1⟩
    simp only [wp_s, wp1_s, wpX_i, wpX_c, toOpt_ok, wI_iconst, wI_bipush, wI_sipush, wI_lconst, wI_aconst_null, wI_iadd, wI_isub, wI_imul, wI_iand, wI_ior, wI_ixor, wI_ishl, wI_ishr, wI_iushr, wI_idiv, wI_irem, wI_ineg, wI_ladd, wI_lsub, wI_lmul, wI_land, wI_lor, wI_lxor, wI_lshl, wI_lushr, wI_lshr, wI_lcmp, wI_i2l, wI_l2i, wI_i2b, wI_i2c, wI_dup, wI_pop, wI_dup_x1, wI_dup_x2, wI_dup2, wI_iload_n, wI_iload, wI_lload_n, wI_lload, wI_aload_n, wI_aload, wI_istore_n, wI_istore, wI_lstore_n, wI_lstore, wI_astore_n, wI_astore_nN, wI_astore, wI_astoreN, wI_iinc, wI_if_eq, wI_icmp_eq, wI_if_ne, wI_icmp_ne, wI_if_lt, wI_icmp_lt, wI_if_ge, wI_icmp_ge, wI_if_gt, wI_icmp_gt, wI_if_le, wI_icmp_le, wI_goto, wI_ifnullN, wI_ifnullR, wI_ifnonnullN, wI_ifnonnullR, wI_tableswitch, wI_lookupswitch, wI_getfield, wI_putfield, wI_iaload, wI_laload, wI_aaload, wI_iastore, wI_lastore, wI_aastore, wI_arraylength, wI_new, wI_newarray_int, wI_newarray_long, wI_anewarray, wI_invokestatic, wI_invokespecial, wI_invokevirtual, wI_ireturn, wI_return_, lg, ldel, lset, lset2, lgs, lk_nil, lk_cons, lv_args, csum, tg, swT, swL, Value.category, fv0, fv1, fv2, fv3, kc_b_6, kc_b_7, kc_b_8, kc_b_9, kc_b_10, kc_b_15, kc_b_20, kc_b_32, kc_b_42, kc_b_43, kc_b_44, kc_b_45, kc_b_47, kc_b_48, kc_b_56, kc_b_57, kc_b_59, kc_b_61, kc_b_80, kc_b_91, kc_b_93, kc_b_97, kc_b_100, kc_b_104, kc_b_107, kc_b_108, kc_b_110, kc_b_116, kc_b_119, kc_i_m1, kc_i_0, kc_i_1, kc_i_2, kc_i_3, kc_i_4, kc_i_5, kc_i_6, kc_s_m9999, kc_s_128, kc_s_200, kc_s_255, kc_s_768, kc_s_896, kc_s_1000, kc_s_9999, List.take_succ_cons, List.take_zero, List.drop_succ_cons, List.drop_zero, List.reverse_cons, List.reverse_nil, List.nil_append, List.cons_append, List.append_nil, List.singleton_append, Option.toList_some, Option.toList_none, List.getElem?_cons_zero, List.getElem?_cons_succ, List.set_cons_zero, List.set_cons_succ, List.length_cons, List.length_nil, ↓reduceIte, reduceCtorEq, and_true, true_and, and_self, implies_true, forall_const, Nat.zero_add, Nat.add_zero, Nat.le_refl, Nat.zero_le, Int.cast_ofNat_Int, cast0, cast1, false_and, and_false, false_implies, true_implies, not_true_eq_false, not_false_eq_true, Nat.reduceAdd, Nat.reduceEqDiff, Nat.reduceLeDiff, Nat.reduceSub, Nat.reduceMul, Int.reduceAdd, Int.reduceNeg, Int.reduceLE, Int.reduceSub, Int.reduceToNat, Int.reduceEq, Nat.reduceBEq, Nat.reduceLT, bI_0, Classical.not_not, exists_eq', exists_eq, i10, i01, im10, na_i, fi_i, na_l, na_o, fi_o, na_on, fi_on, na_a, fi_a, na_b0, na_b1, isA_2, isA_3, isAof_2, isAof_3, vrf_s, vrf_n, eq_self, true_or, or_true, or_false, false_or, ne_eq, Option.some.injEq, Sum.inr.injEq, Sum.inl.injEq, Prod.mk.injEq, List.cons.injEq, Value.ref.injEq, Value.int.injEq, Value.long.injEq, exists_and_left, exists_and_right, exists_eq_left, exists_eq_left', exists_eq_right, exists_eq_right', exists_const, and_assoc, gset_at, gset_gset, List.zip_cons_cons, List.zip_nil_right, List.zip_nil_left, List.zipWith_cons_cons, List.zipWith_nil_right, List.zip, List.zipWith, d_R_next_0, d_R_next_1, d_R_next_4, d_R_next_5, d_R_next_8, d_R_next_11, d_R_next_12, d_R_next_15, d_R_next_16, d_R_next_19, d_R_next_20, d_R_next_22, d_R_next_25, d_R_next_26, d_R_next_27, d_R_next_30, d_R_next_31, d_R_next_32, d_R_next_35, d_R_next_38, d_R_next_39, d_R_next_42, d_R_next_43, d_R_next_46, d_R_next_49, d_R_next_50, d_R_next_53, d_R_next_54, d_R_next_57, d_R_next_58, d_R_next_61, d_R_next_62, flx_R_19, flx_R_15, flx_R_9, hta, hne]
    refine ⟨fun h1 => ⟨fun _ => ?_, fun h2 => absurd h1 h2⟩, fun h1 => ⟨okP_in hok1 h1, fun h2 => ⟨fun h3 => absurd h3 h1, fun _ => ⟨okP_in hok1 h1, ?_⟩⟩, fun h2 => ⟨_, ?_, a1 + 1, rfl, okP_s hok1 h1, (sk_go hok1 h1 h2).symm.trans hsk, rfl⟩⟩⟩
    · rw [← hsk, sk_ge h1, ch_ge h1] at h; exact h
    · rw [← hsk, sk_nb h2, ch_lt h1] at h; exact h
    · rw [hn1]; exact okP_n hok1 h1
theorem pre_R_next : ∀ (E : wE) As G KR KT, ct_R_next E As G KR KT → ∃ a As' fs, As = .ref a :: As' ∧ As'.length = 0 ∧ G a = some (.inr (1, fs)) := by
  rintro E As G KR KT ⟨_, _, _, _, _, _, _, _, rfl, hr, -⟩
  exact ⟨_, _, _, rfl, rfl, hr⟩
def ct_R_take : wE → CallT := fun E As G KR _ => ∃ (r ta : Nat) (t : Nat → Int32) (L a : Int32) (nm f l1 : Value) (c : Int32), As = [.ref r, .int c] ∧ G r = some (.inr (1, [.ref ta, .int L, .int a, nm, f, l1])) ∧ G ta = some (.inl (E.2.2 0, 200, .inl t)) ∧ okP L a ∧ ¬ c = -1 ∧ KR (some (.int (bI (chI t L (skI t L a) = c)))) (gset G r (.inr (1, [.ref ta, .int L, .int (tkI t L a c), nm, f, l1])))
def cs_R_take (E : wE) : List (Nat × (Nat × Nat × Nat × Nat × CallT)) := [(44, (2, 1, 0, 0, ct_R_next E))]
theorem csx_R_take_44 (E : wE) : lk (cs_R_take E) 44 = some (2, 1, 0, 0, ct_R_next E) := rfl
set_option maxRecDepth 100000 in
set_option maxHeartbeats 8000000 in
theorem c_R_take (l : Launch) : Con l y_R_take b_R_take 3 (some .boolean) 1 0 0 ct_R_take := by
  refine Con_of (by decide) (fun E av G RP TP h => ?_) (fun E av G RP TP h A Q p e s m args below meth c hR hn => ?_)
  · obtain ⟨r, ta, t, L, a, nm, f, l1, c0, rfl, hr, hta, hok, hc0, h⟩ := h
    simp [lg_sl, Value.category]
  · obtain ⟨r, ta, t, L, a, nm, f, l1, c0, rfl, hr, hta, hok, hc0, h⟩ := h
    have hX := hR.1
    have hH := wpH_of hR rfl rfl fl_R fl_R_ok none (fun ci h => by cases h) nw_R nw_R_ok (nq_R E) (nq_R_ok E) ac_int ac_long (cs_R_take E) ⟨callV_ok (ct := ct_R_next) (ci := 1) hX (c_R_next l) mi_R_next ini_R im_R_next se_R_next lk_R_44 dn_R_next rfl pre_R_next (by decide) (by decide), trivial⟩
    have hne : ta ≠ r := ne_cells hta hr (by simp)
    refine startV hH [] trivial 40 ?_
    simp only [wp_s, wp1_s, wpX_i, wpX_c, toOpt_ok, wI_iconst, wI_bipush, wI_sipush, wI_lconst, wI_aconst_null, wI_iadd, wI_isub, wI_imul, wI_iand, wI_ior, wI_ixor, wI_ishl, wI_ishr, wI_iushr, wI_idiv, wI_irem, wI_ineg, wI_ladd, wI_lsub, wI_lmul, wI_land, wI_lor, wI_lxor, wI_lshl, wI_lushr, wI_lshr, wI_lcmp, wI_i2l, wI_l2i, wI_i2b, wI_i2c, wI_dup, wI_pop, wI_dup_x1, wI_dup_x2, wI_dup2, wI_iload_n, wI_iload, wI_lload_n, wI_lload, wI_aload_n, wI_aload, wI_istore_n, wI_istore, wI_lstore_n, wI_lstore, wI_astore_n, wI_astore_nN, wI_astore, wI_astoreN, wI_iinc, wI_if_eq, wI_icmp_eq, wI_if_ne, wI_icmp_ne, wI_if_lt, wI_icmp_lt, wI_if_ge, wI_icmp_ge, wI_if_gt, wI_icmp_gt, wI_if_le, wI_icmp_le, wI_goto, wI_ifnullN, wI_ifnullR, wI_ifnonnullN, wI_ifnonnullR, wI_tableswitch, wI_lookupswitch, wI_getfield, wI_putfield, wI_iaload, wI_laload, wI_aaload, wI_iastore, wI_lastore, wI_aastore, wI_arraylength, wI_new, wI_newarray_int, wI_newarray_long, wI_anewarray, wI_invokestatic, wI_invokespecial, wI_invokevirtual, wI_ireturn, wI_return_, lg, ldel, lset, lset2, lgs, lk_nil, lk_cons, lv_args, csum, tg, swT, swL, Value.category, fv0, fv1, fv2, fv3, kc_b_6, kc_b_7, kc_b_8, kc_b_9, kc_b_10, kc_b_15, kc_b_20, kc_b_32, kc_b_42, kc_b_43, kc_b_44, kc_b_45, kc_b_47, kc_b_48, kc_b_56, kc_b_57, kc_b_59, kc_b_61, kc_b_80, kc_b_91, kc_b_93, kc_b_97, kc_b_100, kc_b_104, kc_b_107, kc_b_108, kc_b_110, kc_b_116, kc_b_119, kc_i_m1, kc_i_0, kc_i_1, kc_i_2, kc_i_3, kc_i_4, kc_i_5, kc_i_6, kc_s_m9999, kc_s_128, kc_s_200, kc_s_255, kc_s_768, kc_s_896, kc_s_1000, kc_s_9999, List.take_succ_cons, List.take_zero, List.drop_succ_cons, List.drop_zero, List.reverse_cons, List.reverse_nil, List.nil_append, List.cons_append, List.append_nil, List.singleton_append, Option.toList_some, Option.toList_none, List.getElem?_cons_zero, List.getElem?_cons_succ, List.set_cons_zero, List.set_cons_succ, List.length_cons, List.length_nil, ↓reduceIte, reduceCtorEq, and_true, true_and, and_self, implies_true, forall_const, Nat.zero_add, Nat.add_zero, Nat.le_refl, Nat.zero_le, Int.cast_ofNat_Int, cast0, cast1, false_and, and_false, false_implies, true_implies, not_true_eq_false, not_false_eq_true, Nat.reduceAdd, Nat.reduceEqDiff, Nat.reduceLeDiff, Nat.reduceSub, Nat.reduceMul, Int.reduceAdd, Int.reduceNeg, Int.reduceLE, Int.reduceSub, Int.reduceToNat, Int.reduceEq, Nat.reduceBEq, Nat.reduceLT, bI_0, Classical.not_not, exists_eq', exists_eq, i10, i01, im10, na_i, fi_i, na_l, na_o, fi_o, na_on, fi_on, na_a, fi_a, na_b0, na_b1, isA_2, isA_3, isAof_2, isAof_3, vrf_s, vrf_n, eq_self, true_or, or_true, or_false, false_or, ne_eq, Option.some.injEq, Sum.inr.injEq, Sum.inl.injEq, Prod.mk.injEq, List.cons.injEq, Value.ref.injEq, Value.int.injEq, Value.long.injEq, exists_and_left, exists_and_right, exists_eq_left, exists_eq_left', exists_eq_right, exists_eq_right', exists_const, and_assoc, gset_at, gset_gset, List.zip_cons_cons, List.zip_nil_right, List.zip_nil_left, List.zipWith_cons_cons, List.zipWith_nil_right, List.zip, List.zipWith, d_R_take_0, d_R_take_1, d_R_take_4, d_R_take_5, d_R_take_8, d_R_take_9, d_R_take_12, d_R_take_13, d_R_take_14, d_R_take_15, d_R_take_18, d_R_take_19, d_R_take_20, d_R_take_23, d_R_take_24, d_R_take_25, d_R_take_28, d_R_take_29, ct_R_next, csx_R_take_44, flx_R_19, hr, hta, hne]
    refine ⟨hok, fun h1 => ?_, fun h1 => ?_⟩
    · rw [bI_f h1, tkI, if_neg h1] at h; exact h
    · rw [bI_t h1, tkI, if_pos h1] at h; exact h
theorem pre_R_take : ∀ (E : wE) As G KR KT, ct_R_take E As G KR KT → ∃ a As' fs, As = .ref a :: As' ∧ As'.length = 1 ∧ G a = some (.inr (1, fs)) := by
  rintro E As G KR KT ⟨_, _, _, _, _, _, _, _, _, rfl, hr, -⟩
  exact ⟨_, _, _, rfl, rfl, hr⟩
def nlf (t : Nat → Int32) (L : Int32) : Nat → Int32 → Int32 → Int32 × Int32
  | 0, a, x => (a, x)
  | n + 1, a, x => if ¬ x = 0 ∧ dg (chI t L a) then nlf t L n (a + 1) (x * 10 + chI t L a - 48) else (a, x)
def nbP (t : Nat → Int32) (L a : Int32) : Int32 × Int32 := nlf t L 3 (skI t L a + 1) (chI t L (skI t L a) - 48)
def nbOk (t : Nat → Int32) (L a : Int32) : Prop := dg (chI t L (skI t L a)) ∧ ¬ dg (chI t L (nbP t L a).1)
def nbAt (t : Nat → Int32) (L a : Int32) : Int32 := if dg (chI t L (skI t L a)) then (nbP t L a).1 else skI t L a
def nbNum (t : Nat → Int32) (L a : Int32) (nm : Value) : Value := if dg (chI t L (skI t L a)) then .int (nbP t L a).2 else nm
def ct_R_readNumber : wE → CallT := fun E As G KR _ => ∃ (r ta : Nat) (t : Nat → Int32) (L a : Int32) (nm f l1 : Value), As = [.ref r] ∧ G r = some (.inr (1, [.ref ta, .int L, .int a, nm, f, l1])) ∧ G ta = some (.inl (E.2.2 0, 200, .inl t)) ∧ okP L a ∧ KR (some (.int (bI (nbOk t L a)))) (gset G r (.inr (1, [.ref ta, .int L, .int (nbAt t L a), nbNum t L a nm, f, l1])))
def cs_R_readNumber (E : wE) : List (Nat × (Nat × Nat × Nat × Nat × CallT)) := [(44, (2, 1, 0, 0, ct_R_next E)), (78, (0, 1, 0, 0, ct_R_isDigit E)), (96, (2, 1, 0, 0, ct_R_here E))]
theorem csx_R_readNumber_44 (E : wE) : lk (cs_R_readNumber E) 44 = some (2, 1, 0, 0, ct_R_next E) := rfl
theorem csx_R_readNumber_78 (E : wE) : lk (cs_R_readNumber E) 78 = some (0, 1, 0, 0, ct_R_isDigit E) := rfl
theorem csx_R_readNumber_96 (E : wE) : lk (cs_R_readNumber E) 96 = some (2, 1, 0, 0, ct_R_here E) := rfl
set_option maxRecDepth 100000 in
set_option maxHeartbeats 8000000 in
theorem c_R_readNumber (l : Launch) : Con l y_R_readNumber b_R_readNumber 3 (some .boolean) 1 0 0 ct_R_readNumber := by
  refine Con_of (by decide) (fun E av G RP TP h => ?_) (fun E av G RP TP h A Q p e s m args below meth c hR hn => ?_)
  · obtain ⟨r, ta, t, L, a, nm, f, l1, rfl, hr, hta, hok, h⟩ := h
    simp [lg_sl, Value.category]
  · obtain ⟨r, ta, t, L, a, nm, f, l1, rfl, hr, hta, hok, h⟩ := h
    have hX := hR.1
    have hH := wpH_of hR rfl rfl fl_R fl_R_ok none (fun ci h => by cases h) nw_R nw_R_ok (nq_R E) (nq_R_ok E) ac_int ac_long (cs_R_readNumber E) ⟨callV_ok (ct := ct_R_next) (ci := 1) hX (c_R_next l) mi_R_next ini_R im_R_next se_R_next lk_R_44 dn_R_next rfl pre_R_next (by decide) (by decide), callS_ok (ct := ct_R_isDigit) hX (c_R_isDigit l) mi_R_isDigit ini_R st_R_isDigit lk_R_78 dn_R_isDigit pre_R_isDigit (by decide) (by decide), callV_ok (ct := ct_R_here) (ci := 1) hX (c_R_here l) mi_R_here ini_R im_R_here se_R_here lk_R_96 dn_R_here rfl pre_R_here (by decide) (by decide), trivial⟩
    have hne : ta ≠ r := ne_cells hta hr (by simp)
    refine startV hH [(34, ([0, 2], fun vs st G1 k d => ∃ n : Nat, ∃ (j : Nat) (a1 x1 : Int32), vs = [.ref r, .int (nI j)] ∧ st = [] ∧ G1 = gset G r (.inr (1, [.ref ta, .int L, .int a1, .int x1, f, l1])) ∧ k = 0 ∧ d = 0 ∧ okP L a1 ∧ 1 ≤ j ∧ j ≤ 4 ∧ dg (chI t L (skI t L a)) ∧ nlf t L (4 - j) a1 x1 = nbP t L a ∧ n = 4 - j))] ⟨fun vs st G1 k d hi => ?_, trivial⟩ 60 ?_
    · obtain ⟨n, hi⟩ := hi
      refine loopV hH 34 [0, 2] (fun n vs st G1 k d => ∃ (j : Nat) (a1 x1 : Int32), vs = [.ref r, .int (nI j)] ∧ st = [] ∧ G1 = gset G r (.inr (1, [.ref ta, .int L, .int a1, .int x1, f, l1])) ∧ k = 0 ∧ d = 0 ∧ okP L a1 ∧ 1 ≤ j ∧ j ≤ 4 ∧ dg (chI t L (skI t L a)) ∧ nlf t L (4 - j) a1 x1 = nbP t L a ∧ n = 4 - j) [] trivial 80 ?_ n vs st G1 k d hi
      rintro n vs st G1 k d ⟨j, a1, x1, rfl, rfl, rfl, rfl, rfl, hok1, hj1, hj4, hd0, hnl, hn1⟩
      have e4 : ((4 : Int32) ≤ nI j) = (4 ≤ j) := propext (nI_leI (a := 4) (by omega) (by omega))
      have fin : nbP t L a = (a1, x1) → (dg (chI t L a1) → RP (some (.int 0)) (gset G r (.inr (1, [.ref ta, .int L, .int a1, .int x1, f, l1])))) ∧ (¬ dg (chI t L a1) → RP (some (.int 1)) (gset G r (.inr (1, [.ref ta, .int L, .int a1, .int x1, f, l1])))) := by
        intro e
        have e1 : nbAt t L a = a1 := by rw [nbAt, if_pos hd0, e]
        have e2 : nbNum t L a nm = .int x1 := by rw [nbNum, if_pos hd0, e]
        rw [e1, e2] at h
        refine ⟨fun q => ?_, fun q => ?_⟩
        · rw [bI_f (fun z : nbOk t L a => z.2 (by rw [e]; exact q))] at h; exact h
        · rw [bI_t (show nbOk t L a from ⟨hd0, by rw [e]; exact q⟩)] at h; exact h
      simp only [wp_s, wp1_s, wpX_i, wpX_c, toOpt_ok, wI_iconst, wI_bipush, wI_sipush, wI_lconst, wI_aconst_null, wI_iadd, wI_isub, wI_imul, wI_iand, wI_ior, wI_ixor, wI_ishl, wI_ishr, wI_iushr, wI_idiv, wI_irem, wI_ineg, wI_ladd, wI_lsub, wI_lmul, wI_land, wI_lor, wI_lxor, wI_lshl, wI_lushr, wI_lshr, wI_lcmp, wI_i2l, wI_l2i, wI_i2b, wI_i2c, wI_dup, wI_pop, wI_dup_x1, wI_dup_x2, wI_dup2, wI_iload_n, wI_iload, wI_lload_n, wI_lload, wI_aload_n, wI_aload, wI_istore_n, wI_istore, wI_lstore_n, wI_lstore, wI_astore_n, wI_astore_nN, wI_astore, wI_astoreN, wI_iinc, wI_if_eq, wI_icmp_eq, wI_if_ne, wI_icmp_ne, wI_if_lt, wI_icmp_lt, wI_if_ge, wI_icmp_ge, wI_if_gt, wI_icmp_gt, wI_if_le, wI_icmp_le, wI_goto, wI_ifnullN, wI_ifnullR, wI_ifnonnullN, wI_ifnonnullR, wI_tableswitch, wI_lookupswitch, wI_getfield, wI_putfield, wI_iaload, wI_laload, wI_aaload, wI_iastore, wI_lastore, wI_aastore, wI_arraylength, wI_new, wI_newarray_int, wI_newarray_long, wI_anewarray, wI_invokestatic, wI_invokespecial, wI_invokevirtual, wI_ireturn, wI_return_, lg, ldel, lset, lset2, lgs, lk_nil, lk_cons, lv_args, csum, tg, swT, swL, Value.category, fv0, fv1, fv2, fv3, kc_b_6, kc_b_7, kc_b_8, kc_b_9, kc_b_10, kc_b_15, kc_b_20, kc_b_32, kc_b_42, kc_b_43, kc_b_44, kc_b_45, kc_b_47, kc_b_48, kc_b_56, kc_b_57, kc_b_59, kc_b_61, kc_b_80, kc_b_91, kc_b_93, kc_b_97, kc_b_100, kc_b_104, kc_b_107, kc_b_108, kc_b_110, kc_b_116, kc_b_119, kc_i_m1, kc_i_0, kc_i_1, kc_i_2, kc_i_3, kc_i_4, kc_i_5, kc_i_6, kc_s_m9999, kc_s_128, kc_s_200, kc_s_255, kc_s_768, kc_s_896, kc_s_1000, kc_s_9999, List.take_succ_cons, List.take_zero, List.drop_succ_cons, List.drop_zero, List.reverse_cons, List.reverse_nil, List.nil_append, List.cons_append, List.append_nil, List.singleton_append, Option.toList_some, Option.toList_none, List.getElem?_cons_zero, List.getElem?_cons_succ, List.set_cons_zero, List.set_cons_succ, List.length_cons, List.length_nil, ↓reduceIte, reduceCtorEq, and_true, true_and, and_self, implies_true, forall_const, Nat.zero_add, Nat.add_zero, Nat.le_refl, Nat.zero_le, Int.cast_ofNat_Int, cast0, cast1, false_and, and_false, false_implies, true_implies, not_true_eq_false, not_false_eq_true, Nat.reduceAdd, Nat.reduceEqDiff, Nat.reduceLeDiff, Nat.reduceSub, Nat.reduceMul, Int.reduceAdd, Int.reduceNeg, Int.reduceLE, Int.reduceSub, Int.reduceToNat, Int.reduceEq, Nat.reduceBEq, Nat.reduceLT, bI_0, Classical.not_not, exists_eq', exists_eq, i10, i01, im10, na_i, fi_i, na_l, na_o, fi_o, na_on, fi_on, na_a, fi_a, na_b0, na_b1, isA_2, isA_3, isAof_2, isAof_3, vrf_s, vrf_n, eq_self, true_or, or_true, or_false, false_or, ne_eq, Option.some.injEq, Sum.inr.injEq, Sum.inl.injEq, Prod.mk.injEq, List.cons.injEq, Value.ref.injEq, Value.int.injEq, Value.long.injEq, exists_and_left, exists_and_right, exists_eq_left, exists_eq_left', exists_eq_right, exists_eq_right', exists_const, and_assoc, gset_at, gset_gset, List.zip_cons_cons, List.zip_nil_right, List.zip_nil_left, List.zipWith_cons_cons, List.zipWith_nil_right, List.zip, List.zipWith, d_R_readNumber_0, d_R_readNumber_1, d_R_readNumber_4, d_R_readNumber_5, d_R_readNumber_6, d_R_readNumber_9, d_R_readNumber_12, d_R_readNumber_13, d_R_readNumber_14, d_R_readNumber_15, d_R_readNumber_16, d_R_readNumber_18, d_R_readNumber_19, d_R_readNumber_22, d_R_readNumber_23, d_R_readNumber_24, d_R_readNumber_27, d_R_readNumber_28, d_R_readNumber_29, d_R_readNumber_32, d_R_readNumber_33, d_R_readNumber_34, d_R_readNumber_35, d_R_readNumber_36, d_R_readNumber_39, d_R_readNumber_40, d_R_readNumber_43, d_R_readNumber_46, d_R_readNumber_47, d_R_readNumber_50, d_R_readNumber_53, d_R_readNumber_56, d_R_readNumber_57, d_R_readNumber_58, d_R_readNumber_61, d_R_readNumber_63, d_R_readNumber_64, d_R_readNumber_65, d_R_readNumber_68, d_R_readNumber_69, d_R_readNumber_71, d_R_readNumber_72, d_R_readNumber_75, d_R_readNumber_76, d_R_readNumber_77, d_R_readNumber_80, d_R_readNumber_81, d_R_readNumber_82, d_R_readNumber_85, d_R_readNumber_88, d_R_readNumber_91, d_R_readNumber_92, d_R_readNumber_95, d_R_readNumber_98, d_R_readNumber_101, d_R_readNumber_102, d_R_readNumber_105, d_R_readNumber_106, ct_R_here, ct_R_isDigit, ct_R_next, csx_R_readNumber_44, csx_R_readNumber_78, flx_R_22, flx_R_19, csx_R_readNumber_96, hr, hta, hne, e4, nI_1]
      refine ⟨fun h1 => ?_, fun h1 => ?_⟩
      · have : 4 - j = 0 := by omega
        rw [this] at hnl
        exact ⟨hok1, fin hnl.symm⟩
      · obtain ⟨k0, hk0⟩ : ∃ k0, 4 - j = k0 + 1 := ⟨3 - j, by omega⟩
        rw [hk0] at hnl
        unfold nlf at hnl
        refine ⟨fun h2 => ⟨hok1, fin ?_⟩, fun h2 => ⟨hok1, fun h3 => ⟨hok1, fin ?_⟩, fun h3 => ⟨hok1, k0, by omega, j + 1, rfl, _, _, rfl, okP_s hok1 (ch_in (dg_n1 h3)), by omega, by omega, hd0.1, hd0.2, ?_, by omega⟩⟩⟩
        · rw [if_neg (fun z => z.1 h2)] at hnl; exact hnl.symm
        · rw [if_neg (fun z => h3 z.2)] at hnl; exact hnl.symm
        · rw [if_pos ⟨h2, h3⟩] at hnl
          rw [show 4 - (j + 1) = k0 by omega]; exact hnl
    · simp only [wp_s, wp1_s, wpX_i, wpX_c, toOpt_ok, wI_iconst, wI_bipush, wI_sipush, wI_lconst, wI_aconst_null, wI_iadd, wI_isub, wI_imul, wI_iand, wI_ior, wI_ixor, wI_ishl, wI_ishr, wI_iushr, wI_idiv, wI_irem, wI_ineg, wI_ladd, wI_lsub, wI_lmul, wI_land, wI_lor, wI_lxor, wI_lshl, wI_lushr, wI_lshr, wI_lcmp, wI_i2l, wI_l2i, wI_i2b, wI_i2c, wI_dup, wI_pop, wI_dup_x1, wI_dup_x2, wI_dup2, wI_iload_n, wI_iload, wI_lload_n, wI_lload, wI_aload_n, wI_aload, wI_istore_n, wI_istore, wI_lstore_n, wI_lstore, wI_astore_n, wI_astore_nN, wI_astore, wI_astoreN, wI_iinc, wI_if_eq, wI_icmp_eq, wI_if_ne, wI_icmp_ne, wI_if_lt, wI_icmp_lt, wI_if_ge, wI_icmp_ge, wI_if_gt, wI_icmp_gt, wI_if_le, wI_icmp_le, wI_goto, wI_ifnullN, wI_ifnullR, wI_ifnonnullN, wI_ifnonnullR, wI_tableswitch, wI_lookupswitch, wI_getfield, wI_putfield, wI_iaload, wI_laload, wI_aaload, wI_iastore, wI_lastore, wI_aastore, wI_arraylength, wI_new, wI_newarray_int, wI_newarray_long, wI_anewarray, wI_invokestatic, wI_invokespecial, wI_invokevirtual, wI_ireturn, wI_return_, lg, ldel, lset, lset2, lgs, lk_nil, lk_cons, lv_args, csum, tg, swT, swL, Value.category, fv0, fv1, fv2, fv3, kc_b_6, kc_b_7, kc_b_8, kc_b_9, kc_b_10, kc_b_15, kc_b_20, kc_b_32, kc_b_42, kc_b_43, kc_b_44, kc_b_45, kc_b_47, kc_b_48, kc_b_56, kc_b_57, kc_b_59, kc_b_61, kc_b_80, kc_b_91, kc_b_93, kc_b_97, kc_b_100, kc_b_104, kc_b_107, kc_b_108, kc_b_110, kc_b_116, kc_b_119, kc_i_m1, kc_i_0, kc_i_1, kc_i_2, kc_i_3, kc_i_4, kc_i_5, kc_i_6, kc_s_m9999, kc_s_128, kc_s_200, kc_s_255, kc_s_768, kc_s_896, kc_s_1000, kc_s_9999, List.take_succ_cons, List.take_zero, List.drop_succ_cons, List.drop_zero, List.reverse_cons, List.reverse_nil, List.nil_append, List.cons_append, List.append_nil, List.singleton_append, Option.toList_some, Option.toList_none, List.getElem?_cons_zero, List.getElem?_cons_succ, List.set_cons_zero, List.set_cons_succ, List.length_cons, List.length_nil, ↓reduceIte, reduceCtorEq, and_true, true_and, and_self, implies_true, forall_const, Nat.zero_add, Nat.add_zero, Nat.le_refl, Nat.zero_le, Int.cast_ofNat_Int, cast0, cast1, false_and, and_false, false_implies, true_implies, not_true_eq_false, not_false_eq_true, Nat.reduceAdd, Nat.reduceEqDiff, Nat.reduceLeDiff, Nat.reduceSub, Nat.reduceMul, Int.reduceAdd, Int.reduceNeg, Int.reduceLE, Int.reduceSub, Int.reduceToNat, Int.reduceEq, Nat.reduceBEq, Nat.reduceLT, bI_0, Classical.not_not, exists_eq', exists_eq, i10, i01, im10, na_i, fi_i, na_l, na_o, fi_o, na_on, fi_on, na_a, fi_a, na_b0, na_b1, isA_2, isA_3, isAof_2, isAof_3, vrf_s, vrf_n, eq_self, true_or, or_true, or_false, false_or, ne_eq, Option.some.injEq, Sum.inr.injEq, Sum.inl.injEq, Prod.mk.injEq, List.cons.injEq, Value.ref.injEq, Value.int.injEq, Value.long.injEq, exists_and_left, exists_and_right, exists_eq_left, exists_eq_left', exists_eq_right, exists_eq_right', exists_const, and_assoc, gset_at, gset_gset, List.zip_cons_cons, List.zip_nil_right, List.zip_nil_left, List.zipWith_cons_cons, List.zipWith_nil_right, List.zip, List.zipWith, d_R_readNumber_0, d_R_readNumber_1, d_R_readNumber_4, d_R_readNumber_5, d_R_readNumber_6, d_R_readNumber_9, d_R_readNumber_12, d_R_readNumber_13, d_R_readNumber_14, d_R_readNumber_15, d_R_readNumber_16, d_R_readNumber_18, d_R_readNumber_19, d_R_readNumber_22, d_R_readNumber_23, d_R_readNumber_24, d_R_readNumber_27, d_R_readNumber_28, d_R_readNumber_29, d_R_readNumber_32, d_R_readNumber_33, d_R_readNumber_34, d_R_readNumber_35, d_R_readNumber_36, d_R_readNumber_39, d_R_readNumber_40, d_R_readNumber_43, d_R_readNumber_46, d_R_readNumber_47, d_R_readNumber_50, d_R_readNumber_53, d_R_readNumber_56, d_R_readNumber_57, d_R_readNumber_58, d_R_readNumber_61, d_R_readNumber_63, d_R_readNumber_64, d_R_readNumber_65, d_R_readNumber_68, d_R_readNumber_69, d_R_readNumber_71, d_R_readNumber_72, d_R_readNumber_75, d_R_readNumber_76, d_R_readNumber_77, d_R_readNumber_80, d_R_readNumber_81, d_R_readNumber_82, d_R_readNumber_85, d_R_readNumber_88, d_R_readNumber_91, d_R_readNumber_92, d_R_readNumber_95, d_R_readNumber_98, d_R_readNumber_101, d_R_readNumber_102, d_R_readNumber_105, d_R_readNumber_106, ct_R_here, ct_R_isDigit, ct_R_next, csx_R_readNumber_44, csx_R_readNumber_78, flx_R_22, flx_R_19, csx_R_readNumber_96, hr, hta, hne, nI_1]
      refine ⟨hok, fun h1 => ⟨3, 1, rfl, _, _, rfl, okP_s (okP_sk hok) (ch_in (dg_n1 h1)), by omega, by omega, h1.1, h1.2, rfl, rfl⟩, fun h1 => ?_⟩
      rw [bI_f (fun z : nbOk t L a => h1 z.1), nbAt, if_neg h1, nbNum, if_neg h1] at h; exact h
theorem pre_R_readNumber : ∀ (E : wE) As G KR KT, ct_R_readNumber E As G KR KT → ∃ a As' fs, As = .ref a :: As' ∧ As'.length = 0 ∧ G a = some (.inr (1, fs)) := by
  rintro E As G KR KT ⟨_, _, _, _, _, _, _, _, rfl, hr, -⟩
  exact ⟨_, _, _, rfl, rfl, hr⟩
