/-! the tape -/
def byI (b : Int64) (i : Int32) : Int32 := (b.toUInt64 >>> ((8 * i).toInt64.toUInt64 &&& Int64.toUInt64 63)).toInt64.toInt32 &&& 255
def sgT (b : Int64) : Nat → (Nat → Int32) → Nat → (Nat → Int32)
  | 0, t, _ => t
  | n + 1, t, L => sgT b n (upd t L (byI b (nI n))) (L + 1)
theorem gset2 {G : gH} {a b : Nat} {x y x' y' : va_E} (h : a ≠ b) : gset (gset (gset (gset G a x) b y) a x') b y' = gset (gset G a x') b y' := by
  funext j
  by_cases h1 : j = b
  · subst h1; simp [gset]
  · by_cases h2 : j = a
    · subst h2; simp [gset, h]
    · simp [gset, h1, h2]
theorem nI_m1 (k : Nat) : nI k + -1 = nI k - 1 := (Int32.sub_eq_add_neg _ _).symm
theorem nI_p1 (k : Nat) : nI (k + 1) - 1 = nI k := nI_pred k
theorem z_m1 : (nI 0 - 1 < 0) = True := by decide
theorem ck_m1 : Int32.ofInt (-1) = -1 := by decide
def ct_R_append : wE → CallT := fun E As G KR _ => ∃ (r ta : Nat) (t : Nat → Int32) (L n : Nat) (b : Int64) (a nm f l1 : Value), As = [.ref r, .long b, .int (nI n)] ∧ G r = some (.inr (1, [.ref ta, .int (nI L), a, nm, f, l1])) ∧ G ta = some (.inl (E.2.2 0, 200, .inl t)) ∧ L + n ≤ 200 ∧ KR none (gset (gset G ta (.inl (E.2.2 0, 200, .inl (sgT b n t L)))) r (.inr (1, [.ref ta, .int (nI (L + n)), a, nm, f, l1])))
def iv_ap (E : wE) (G : gH) (r ta : Nat) (b : Int64) (a nm f l1 : Value) (T : Nat → Int32) (M : Nat) (n : Nat) (vs9 st : List Value) (G1 : gH) (k d : Nat) : Prop :=
  ∃ (j L : Nat) (t : Nat → Int32), vs9 = [.ref r, .long b, .int (nI j - 1)] ∧ st = [] ∧ G1 = gset (gset G ta (.inl (E.2.2 0, 200, .inl t))) r (.inr (1, [.ref ta, .int (nI L), a, nm, f, l1])) ∧ k = 0 ∧ d = 0 ∧ L + j = M ∧ sgT b j t L = T ∧ n = j
def cs_R_append (E : wE) : List (Nat × (Nat × Nat × Nat × Nat × CallT)) := []
set_option maxRecDepth 100000 in
set_option maxHeartbeats 8000000 in
theorem c_R_append (l : Launch) : Con l y_R_append b_R_append 5 none 0 0 0 ct_R_append := by
  refine Con_of (by decide) (fun E av G RP TP h => ?_) (fun E av G RP TP h A Q p e s m args below meth c hR hn => ?_)
  · obtain ⟨r, ta, t, L, n, b, a, nm, f, l1, rfl, hr, hta, hle, h⟩ := h
    simp [lg_sl, Value.category]
  · obtain ⟨r, ta, t, L, n, b, a, nm, f, l1, rfl, hr, hta, hle, h⟩ := h
    have hX := hR.1
    have hH := wpH_of hR rfl rfl fl_R fl_R_ok none (fun ci h => by cases h) nw_R nw_R_ok (nq_R E) (nq_R_ok E) ac_int ac_long (cs_R_append E) trivial
    have hne : ta ≠ r := ne_cells hta hr (by simp)
    have hne2 : r ≠ ta := hne.symm
    refine startV hH [(5, ([0, 1, 4], fun vs9 st G1 k d => ∃ n9, iv_ap E G r ta b a nm f l1 (sgT b n t L) (L + n) n9 vs9 st G1 k d))] ⟨fun vs9 st G1 k d hi => ?_, trivial⟩ 60 ?_
    · obtain ⟨n9, hi⟩ := hi
      refine loopV hH 5 [0, 1, 4] (iv_ap E G r ta b a nm f l1 (sgT b n t L) (L + n)) [] trivial 80 ?_ n9 vs9 st G1 k d hi
      rintro n9 vs9 st G1 k d ⟨j, L1, t1, rfl, rfl, rfl, rfl, rfl, hL, hT, rfl⟩
      cases n9 with
      | zero =>
        have hL' : L1 = L + n := by omega
        subst hL'
        have hT' : t1 = _ := hT
        simp only [wp_s, wp1_s, wpX_i, wpX_c, toOpt_ok, wI_iconst, wI_bipush, wI_sipush, wI_lconst, wI_aconst_null, wI_iadd, wI_isub, wI_imul, wI_iand, wI_ior, wI_ixor, wI_ishl, wI_ishr, wI_iushr, wI_idiv, wI_irem, wI_ineg, wI_ladd, wI_lsub, wI_lmul, wI_land, wI_lor, wI_lxor, wI_lshl, wI_lushr, wI_lshr, wI_lcmp, wI_i2l, wI_l2i, wI_i2b, wI_i2c, wI_dup, wI_pop, wI_dup_x1, wI_dup_x2, wI_dup2, wI_iload_n, wI_iload, wI_lload_n, wI_lload, wI_aload_n, wI_aload, wI_istore_n, wI_istore, wI_lstore_n, wI_lstore, wI_astore_n, wI_astore_nN, wI_astore, wI_astoreN, wI_iinc, wI_if_eq, wI_icmp_eq, wI_if_ne, wI_icmp_ne, wI_if_lt, wI_icmp_lt, wI_if_ge, wI_icmp_ge, wI_if_gt, wI_icmp_gt, wI_if_le, wI_icmp_le, wI_goto, wI_ifnullN, wI_ifnullR, wI_ifnonnullN, wI_ifnonnullR, wI_tableswitch, wI_lookupswitch, wI_getfield, wI_putfield, wI_iaload, wI_laload, wI_aaload, wI_iastore, wI_lastore, wI_aastore, wI_arraylength, wI_new, wI_newarray_int, wI_newarray_long, wI_anewarray, wI_invokestatic, wI_invokespecial, wI_invokevirtual, wI_ireturn, wI_return_, lg, ldel, lset, lset2, lgs, lk_nil, lk_cons, lv_args, csum, tg, swT, swL, Value.category, fv0, fv1, fv2, fv3, kc_b_6, kc_b_7, kc_b_8, kc_b_9, kc_b_10, kc_b_15, kc_b_20, kc_b_32, kc_b_42, kc_b_43, kc_b_44, kc_b_45, kc_b_47, kc_b_48, kc_b_56, kc_b_57, kc_b_59, kc_b_61, kc_b_80, kc_b_91, kc_b_93, kc_b_97, kc_b_100, kc_b_104, kc_b_107, kc_b_108, kc_b_110, kc_b_116, kc_b_119, kc_i_m1, kc_i_0, kc_i_1, kc_i_2, kc_i_3, kc_i_4, kc_i_5, kc_i_6, kc_s_m9999, kc_s_128, kc_s_200, kc_s_255, kc_s_768, kc_s_896, kc_s_1000, kc_s_9999, List.take_succ_cons, List.take_zero, List.drop_succ_cons, List.drop_zero, List.reverse_cons, List.reverse_nil, List.nil_append, List.cons_append, List.append_nil, List.singleton_append, Option.toList_some, Option.toList_none, List.getElem?_cons_zero, List.getElem?_cons_succ, List.set_cons_zero, List.set_cons_succ, List.length_cons, List.length_nil, ↓reduceIte, reduceCtorEq, and_true, true_and, and_self, implies_true, forall_const, Nat.zero_add, Nat.add_zero, Nat.le_refl, Nat.zero_le, Int.cast_ofNat_Int, cast0, cast1, false_and, and_false, false_implies, true_implies, not_true_eq_false, not_false_eq_true, Nat.reduceAdd, Nat.reduceEqDiff, Nat.reduceLeDiff, Nat.reduceSub, Nat.reduceMul, Int.reduceAdd, Int.reduceNeg, Int.reduceLE, Int.reduceSub, Int.reduceToNat, Int.reduceEq, Nat.reduceBEq, Nat.reduceLT, bI_0, Classical.not_not, exists_eq', exists_eq, i10, i01, im10, na_i, fi_i, na_l, na_o, fi_o, na_on, fi_on, na_a, fi_a, na_b0, na_b1, isA_2, isA_3, isAof_2, isAof_3, vrf_s, vrf_n, eq_self, true_or, or_true, or_false, false_or, ne_eq, Option.some.injEq, Sum.inr.injEq, Sum.inl.injEq, Prod.mk.injEq, List.cons.injEq, Value.ref.injEq, Value.int.injEq, Value.long.injEq, exists_and_left, exists_and_right, exists_eq_left, exists_eq_left', exists_eq_right, exists_eq_right', exists_const, and_assoc, gset_at, gset_gset, List.zip_cons_cons, List.zip_nil_right, List.zip_nil_left, List.zipWith_cons_cons, List.zipWith_nil_right, List.zip, List.zipWith, d_R_append_0, d_R_append_1, d_R_append_2, d_R_append_3, d_R_append_5, d_R_append_7, d_R_append_10, d_R_append_11, d_R_append_14, d_R_append_17, d_R_append_20, d_R_append_21, d_R_append_24, d_R_append_25, d_R_append_28, d_R_append_29, d_R_append_31, d_R_append_33, d_R_append_34, d_R_append_35, d_R_append_36, d_R_append_39, d_R_append_40, d_R_append_41, d_R_append_42, d_R_append_43, d_R_append_46, d_R_append_47, d_R_append_48, d_R_append_51, d_R_append_54, d_R_append_57, flx_R_15, flx_R_9, hne, hne2, z_m1]
        rw [hT']
        exact h
      | succ j =>
        have e8 : ((200 : Int32) ≤ nI L1) = False := eq_false (fun q => by have := (nI_leI (a := 200) (by omega) (by omega)).mp q; omega)
        have e0 : (nI j < 0) = False := eq_false (nI_pos (by omega))
        have ecl : (nI L1).toNatClampNeg = L1 := nI_clamp (by omega)
        have g2 := fun (x y x' y' : va_E) => gset2 (G := G) (a := ta) (b := r) (x := x) (y := y) (x' := x') (y' := y') hne
        simp only [wp_s, wp1_s, wpX_i, wpX_c, toOpt_ok, wI_iconst, wI_bipush, wI_sipush, wI_lconst, wI_aconst_null, wI_iadd, wI_isub, wI_imul, wI_iand, wI_ior, wI_ixor, wI_ishl, wI_ishr, wI_iushr, wI_idiv, wI_irem, wI_ineg, wI_ladd, wI_lsub, wI_lmul, wI_land, wI_lor, wI_lxor, wI_lshl, wI_lushr, wI_lshr, wI_lcmp, wI_i2l, wI_l2i, wI_i2b, wI_i2c, wI_dup, wI_pop, wI_dup_x1, wI_dup_x2, wI_dup2, wI_iload_n, wI_iload, wI_lload_n, wI_lload, wI_aload_n, wI_aload, wI_istore_n, wI_istore, wI_lstore_n, wI_lstore, wI_astore_n, wI_astore_nN, wI_astore, wI_astoreN, wI_iinc, wI_if_eq, wI_icmp_eq, wI_if_ne, wI_icmp_ne, wI_if_lt, wI_icmp_lt, wI_if_ge, wI_icmp_ge, wI_if_gt, wI_icmp_gt, wI_if_le, wI_icmp_le, wI_goto, wI_ifnullN, wI_ifnullR, wI_ifnonnullN, wI_ifnonnullR, wI_tableswitch, wI_lookupswitch, wI_getfield, wI_putfield, wI_iaload, wI_laload, wI_aaload, wI_iastore, wI_lastore, wI_aastore, wI_arraylength, wI_new, wI_newarray_int, wI_newarray_long, wI_anewarray, wI_invokestatic, wI_invokespecial, wI_invokevirtual, wI_ireturn, wI_return_, lg, ldel, lset, lset2, lgs, lk_nil, lk_cons, lv_args, csum, tg, swT, swL, Value.category, fv0, fv1, fv2, fv3, kc_b_6, kc_b_7, kc_b_8, kc_b_9, kc_b_10, kc_b_15, kc_b_20, kc_b_32, kc_b_42, kc_b_43, kc_b_44, kc_b_45, kc_b_47, kc_b_48, kc_b_56, kc_b_57, kc_b_59, kc_b_61, kc_b_80, kc_b_91, kc_b_93, kc_b_97, kc_b_100, kc_b_104, kc_b_107, kc_b_108, kc_b_110, kc_b_116, kc_b_119, kc_i_m1, kc_i_0, kc_i_1, kc_i_2, kc_i_3, kc_i_4, kc_i_5, kc_i_6, kc_s_m9999, kc_s_128, kc_s_200, kc_s_255, kc_s_768, kc_s_896, kc_s_1000, kc_s_9999, List.take_succ_cons, List.take_zero, List.drop_succ_cons, List.drop_zero, List.reverse_cons, List.reverse_nil, List.nil_append, List.cons_append, List.append_nil, List.singleton_append, Option.toList_some, Option.toList_none, List.getElem?_cons_zero, List.getElem?_cons_succ, List.set_cons_zero, List.set_cons_succ, List.length_cons, List.length_nil, ↓reduceIte, reduceCtorEq, and_true, true_and, and_self, implies_true, forall_const, Nat.zero_add, Nat.add_zero, Nat.le_refl, Nat.zero_le, Int.cast_ofNat_Int, cast0, cast1, false_and, and_false, false_implies, true_implies, not_true_eq_false, not_false_eq_true, Nat.reduceAdd, Nat.reduceEqDiff, Nat.reduceLeDiff, Nat.reduceSub, Nat.reduceMul, Int.reduceAdd, Int.reduceNeg, Int.reduceLE, Int.reduceSub, Int.reduceToNat, Int.reduceEq, Nat.reduceBEq, Nat.reduceLT, bI_0, Classical.not_not, exists_eq', exists_eq, i10, i01, im10, na_i, fi_i, na_l, na_o, fi_o, na_on, fi_on, na_a, fi_a, na_b0, na_b1, isA_2, isA_3, isAof_2, isAof_3, vrf_s, vrf_n, eq_self, true_or, or_true, or_false, false_or, ne_eq, Option.some.injEq, Sum.inr.injEq, Sum.inl.injEq, Prod.mk.injEq, List.cons.injEq, Value.ref.injEq, Value.int.injEq, Value.long.injEq, exists_and_left, exists_and_right, exists_eq_left, exists_eq_left', exists_eq_right, exists_eq_right', exists_const, and_assoc, gset_at, gset_gset, List.zip_cons_cons, List.zip_nil_right, List.zip_nil_left, List.zipWith_cons_cons, List.zipWith_nil_right, List.zip, List.zipWith, d_R_append_0, d_R_append_1, d_R_append_2, d_R_append_3, d_R_append_5, d_R_append_7, d_R_append_10, d_R_append_11, d_R_append_14, d_R_append_17, d_R_append_20, d_R_append_21, d_R_append_24, d_R_append_25, d_R_append_28, d_R_append_29, d_R_append_31, d_R_append_33, d_R_append_34, d_R_append_35, d_R_append_36, d_R_append_39, d_R_append_40, d_R_append_41, d_R_append_42, d_R_append_43, d_R_append_46, d_R_append_47, d_R_append_48, d_R_append_51, d_R_append_54, d_R_append_57, flx_R_15, flx_R_9, hne, hne2, nI_p1, e8, e0, ecl, g2, nI_1, nI_m1, ck_m1]
        exact ⟨vp_in_nI (by omega) (by omega), j, by omega, j, L1 + 1, _, rfl, rfl, rfl, rfl, rfl, by omega, hT, rfl⟩
    · simp only [wp_s, wp1_s, wpX_i, wpX_c, toOpt_ok, wI_iconst, wI_bipush, wI_sipush, wI_lconst, wI_aconst_null, wI_iadd, wI_isub, wI_imul, wI_iand, wI_ior, wI_ixor, wI_ishl, wI_ishr, wI_iushr, wI_idiv, wI_irem, wI_ineg, wI_ladd, wI_lsub, wI_lmul, wI_land, wI_lor, wI_lxor, wI_lshl, wI_lushr, wI_lshr, wI_lcmp, wI_i2l, wI_l2i, wI_i2b, wI_i2c, wI_dup, wI_pop, wI_dup_x1, wI_dup_x2, wI_dup2, wI_iload_n, wI_iload, wI_lload_n, wI_lload, wI_aload_n, wI_aload, wI_istore_n, wI_istore, wI_lstore_n, wI_lstore, wI_astore_n, wI_astore_nN, wI_astore, wI_astoreN, wI_iinc, wI_if_eq, wI_icmp_eq, wI_if_ne, wI_icmp_ne, wI_if_lt, wI_icmp_lt, wI_if_ge, wI_icmp_ge, wI_if_gt, wI_icmp_gt, wI_if_le, wI_icmp_le, wI_goto, wI_ifnullN, wI_ifnullR, wI_ifnonnullN, wI_ifnonnullR, wI_tableswitch, wI_lookupswitch, wI_getfield, wI_putfield, wI_iaload, wI_laload, wI_aaload, wI_iastore, wI_lastore, wI_aastore, wI_arraylength, wI_new, wI_newarray_int, wI_newarray_long, wI_anewarray, wI_invokestatic, wI_invokespecial, wI_invokevirtual, wI_ireturn, wI_return_, lg, ldel, lset, lset2, lgs, lk_nil, lk_cons, lv_args, csum, tg, swT, swL, Value.category, fv0, fv1, fv2, fv3, kc_b_6, kc_b_7, kc_b_8, kc_b_9, kc_b_10, kc_b_15, kc_b_20, kc_b_32, kc_b_42, kc_b_43, kc_b_44, kc_b_45, kc_b_47, kc_b_48, kc_b_56, kc_b_57, kc_b_59, kc_b_61, kc_b_80, kc_b_91, kc_b_93, kc_b_97, kc_b_100, kc_b_104, kc_b_107, kc_b_108, kc_b_110, kc_b_116, kc_b_119, kc_i_m1, kc_i_0, kc_i_1, kc_i_2, kc_i_3, kc_i_4, kc_i_5, kc_i_6, kc_s_m9999, kc_s_128, kc_s_200, kc_s_255, kc_s_768, kc_s_896, kc_s_1000, kc_s_9999, List.take_succ_cons, List.take_zero, List.drop_succ_cons, List.drop_zero, List.reverse_cons, List.reverse_nil, List.nil_append, List.cons_append, List.append_nil, List.singleton_append, Option.toList_some, Option.toList_none, List.getElem?_cons_zero, List.getElem?_cons_succ, List.set_cons_zero, List.set_cons_succ, List.length_cons, List.length_nil, ↓reduceIte, reduceCtorEq, and_true, true_and, and_self, implies_true, forall_const, Nat.zero_add, Nat.add_zero, Nat.le_refl, Nat.zero_le, Int.cast_ofNat_Int, cast0, cast1, false_and, and_false, false_implies, true_implies, not_true_eq_false, not_false_eq_true, Nat.reduceAdd, Nat.reduceEqDiff, Nat.reduceLeDiff, Nat.reduceSub, Nat.reduceMul, Int.reduceAdd, Int.reduceNeg, Int.reduceLE, Int.reduceSub, Int.reduceToNat, Int.reduceEq, Nat.reduceBEq, Nat.reduceLT, bI_0, Classical.not_not, exists_eq', exists_eq, i10, i01, im10, na_i, fi_i, na_l, na_o, fi_o, na_on, fi_on, na_a, fi_a, na_b0, na_b1, isA_2, isA_3, isAof_2, isAof_3, vrf_s, vrf_n, eq_self, true_or, or_true, or_false, false_or, ne_eq, Option.some.injEq, Sum.inr.injEq, Sum.inl.injEq, Prod.mk.injEq, List.cons.injEq, Value.ref.injEq, Value.int.injEq, Value.long.injEq, exists_and_left, exists_and_right, exists_eq_left, exists_eq_left', exists_eq_right, exists_eq_right', exists_const, and_assoc, gset_at, gset_gset, List.zip_cons_cons, List.zip_nil_right, List.zip_nil_left, List.zipWith_cons_cons, List.zipWith_nil_right, List.zip, List.zipWith, d_R_append_0, d_R_append_1, d_R_append_2, d_R_append_3, d_R_append_5, d_R_append_7, d_R_append_10, d_R_append_11, d_R_append_14, d_R_append_17, d_R_append_20, d_R_append_21, d_R_append_24, d_R_append_25, d_R_append_28, d_R_append_29, d_R_append_31, d_R_append_33, d_R_append_34, d_R_append_35, d_R_append_36, d_R_append_39, d_R_append_40, d_R_append_41, d_R_append_42, d_R_append_43, d_R_append_46, d_R_append_47, d_R_append_48, d_R_append_51, d_R_append_54, d_R_append_57, flx_R_15, flx_R_9, hr, hta, hne, hne2]
      refine ⟨n, n, L, t, rfl, rfl, ?_, rfl, rfl, rfl, rfl, rfl⟩
      rw [gset_same hta, gset_same hr]
theorem pre_R_append : ∀ (E : wE) As G KR KT, ct_R_append E As G KR KT → ∃ a As' fs, As = .ref a :: As' ∧ As'.length = 2 ∧ G a = some (.inr (1, fs)) := by
  rintro E As G KR KT ⟨_, _, _, _, _, _, _, _, _, _, rfl, hr, -⟩
  exact ⟨_, _, _, rfl, rfl, hr⟩
theorem byM {b : Int64} {i : Nat} (hi : i < 8) : (b >>> ((8 * nI i).toInt64 &&& 63)).toInt32 &&& 255 = byI b (nI i) := by
  have key : ∀ (x : BitVec 64) (s : Nat), s ≤ 56 → (BitVec.setWidth 32 (x.sshiftRight s)) &&& 255#32 = (BitVec.setWidth 32 (x >>> s)) &&& 255#32 := by
    intro x s hs
    apply BitVec.eq_of_getLsbD_eq
    intro k hk
    by_cases h8 : k < 8
    · have h1 : s + k < 64 := by omega
      have h3 : k < 64 := by omega
      simp [BitVec.getLsbD_sshiftRight, BitVec.getLsbD_ushiftRight, BitVec.getElem_sshiftRight, hk, h1, h3, h8]
    · have : (255#32).getLsbD k = false := by
        have : ∀ k : Fin 32, ¬ (k : Nat) < 8 → (255#32).getLsbD k = false := by decide
        exact this ⟨k, hk⟩ h8
      simp [this]
  have e : ∀ i : Nat, i < 8 → ((8 * nI i).toInt64 &&& 63) = Int64.ofNat (8 * i) ∧ ((8 * nI i).toInt64.toUInt64 &&& Int64.toUInt64 63) = UInt64.ofNat (8 * i) := by decide
  obtain ⟨e1, e2⟩ := e i hi
  unfold byI
  rw [e1, e2]
  apply Int32.toBitVec_inj.mp
  simp only [Int32.toBitVec_and, Int64.toBitVec_toInt32, Int64.toBitVec_shiftRight]
  have f : ∀ i : Nat, i < 8 → ((Int64.ofNat (8 * i)).toBitVec.smod 64).toNat = 8 * i ∧ ((UInt64.ofNat (8 * i)).toBitVec % 64#64).toNat = 8 * i := by decide
  obtain ⟨f1, f2⟩ := f i hi
  have g1 : (b.toUInt64 >>> UInt64.ofNat (8 * i)).toInt64.toBitVec = b.toBitVec >>> (8 * i) := by
    show (b.toUInt64 >>> UInt64.ofNat (8 * i)).toBitVec = _
    rw [UInt64.toBitVec_shiftRight]
    show b.toBitVec >>> ((UInt64.ofNat (8 * i)).toBitVec % 64#64).toNat = _
    rw [f2]
  rw [g1, BitVec.signExtend_eq_setWidth_of_le _ (by omega), BitVec.signExtend_eq_setWidth_of_le _ (by omega)]
  show BitVec.setWidth 32 (b.toBitVec.sshiftRight ((Int64.ofNat (8 * i)).toBitVec.smod 64).toNat) &&& 255#32 = _
  rw [f1]
  exact key b.toBitVec (8 * i) (by omega)
