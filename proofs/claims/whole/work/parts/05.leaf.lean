def bI (p : Prop) [Decidable p] : Int32 := if p then 1 else 0
def ct_within : CallT := fun As G KR _ => match As with
  | [.int a, .int lo, .int hi] => KR (some (.int (bI (lo ≤ a ∧ a ≤ hi)))) G
  | _ => False
set_option maxRecDepth 100000 in
set_option maxHeartbeats 4000000 in
theorem c_S_within (l : Launch) : Con l y_S_within b_S_within 3 (some .boolean) 0 0 0 (fun _ => ct_within) := by
  refine Con_of (by decide) (fun E av G RP TP h => ?_) (fun E av G RP TP h A Q p e s m args below meth c hR hn => ?_)
  · unfold ct_within at h
    split at h
    · simp [lg_sl, Value.category]
    · exact h.elim
  · unfold ct_within at h
    split at h
    · have hH := wpH_of hR rfl rfl fl_S fl_S_ok none (fun ci h => by cases h) nw_S nw_S_ok (nq_S E) (nq_S_ok E) ac_int ac_long [] trivial
      refine wp_sound hH (cut := lk []) (fun pc ks K h => by cases h) 40 0 _ _ _ _ _ ?_
      simp only [wp_s, wp1_s, wpX_i, wpX_c, toOpt_ok, wI_iconst, wI_bipush, wI_sipush, wI_lconst, wI_aconst_null, wI_iadd, wI_isub, wI_imul, wI_iand, wI_ior, wI_ixor, wI_ishl, wI_ishr, wI_iushr, wI_idiv, wI_ineg, wI_ladd, wI_lsub, wI_lmul, wI_land, wI_lor, wI_lxor, wI_lshl, wI_lushr, wI_lshr, wI_lcmp, wI_i2l, wI_l2i, wI_i2b, wI_i2c, wI_dup, wI_pop, wI_dup_x1, wI_dup_x2, wI_dup2, wI_iload_n, wI_iload, wI_lload_n, wI_lload, wI_aload_n, wI_aload, wI_istore_n, wI_istore, wI_lstore_n, wI_lstore, wI_astore_n, wI_astore_nN, wI_astore, wI_astoreN, wI_iinc, wI_if_eq, wI_icmp_eq, wI_if_ne, wI_icmp_ne, wI_if_lt, wI_icmp_lt, wI_if_ge, wI_icmp_ge, wI_if_gt, wI_icmp_gt, wI_if_le, wI_icmp_le, wI_goto, wI_ifnullN, wI_ifnullR, wI_ifnonnullN, wI_ifnonnullR, wI_tableswitch, wI_lookupswitch, wI_getfield, wI_putfield, wI_iaload, wI_laload, wI_aaload, wI_iastore, wI_lastore, wI_aastore, wI_arraylength, wI_new, wI_newarray_int, wI_newarray_long, wI_anewarray, wI_invokestatic, wI_invokespecial, wI_invokevirtual, wI_ireturn, wI_return_, lg, ldel, lset, lset2, lgs, lk, lv_args, csum, tg, swT, swL, Value.category, fv0, fv1, fv2, fv3, kc_b_6, kc_b_7, kc_b_8, kc_b_9, kc_b_10, kc_b_15, kc_b_20, kc_b_32, kc_b_42, kc_b_43, kc_b_44, kc_b_45, kc_b_47, kc_b_48, kc_b_56, kc_b_57, kc_b_59, kc_b_61, kc_b_80, kc_b_91, kc_b_93, kc_b_97, kc_b_100, kc_b_104, kc_b_107, kc_b_108, kc_b_110, kc_b_116, kc_b_119, kc_i_m1, kc_i_0, kc_i_1, kc_i_2, kc_i_3, kc_i_4, kc_i_5, kc_i_6, kc_s_m9999, kc_s_128, kc_s_200, kc_s_255, kc_s_768, kc_s_896, kc_s_1000, kc_s_9999, List.take_succ_cons, List.take_zero, List.drop_succ_cons, List.drop_zero, List.reverse_cons, List.reverse_nil, List.nil_append, List.cons_append, List.append_nil, List.singleton_append, Option.toList_some, Option.toList_none, List.getElem?_cons_zero, List.getElem?_cons_succ, List.set_cons_zero, List.set_cons_succ, List.length_cons, List.length_nil, ↓reduceIte, reduceCtorEq, and_true, true_and, and_self, implies_true, forall_const, Nat.zero_add, Nat.add_zero, Nat.le_refl, Nat.zero_le, Int.cast_ofNat_Int, cast0, cast1, false_and, and_false, false_implies, true_implies, not_true_eq_false, not_false_eq_true, Nat.reduceAdd, Nat.reduceEqDiff, Nat.reduceLeDiff, Nat.reduceSub, Nat.reduceMul, Int.reduceAdd, Int.reduceNeg, Int.reduceLE, Int.reduceSub, Int.reduceToNat, Int.reduceEq, Nat.reduceBEq, Nat.reduceLT, d_S_within_0, d_S_within_1, d_S_within_2, d_S_within_5, d_S_within_6, d_S_within_7, d_S_within_10, d_S_within_11, d_S_within_14, d_S_within_15]
      done
    · exact h.elim
