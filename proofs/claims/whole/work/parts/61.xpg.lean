/-! Pages and places of the second side. -/
theorem RM_g {m : MS} {σ : oT} {f : Nat → Nat} {a b : Nat → Int32} (h : RM m σ) (hb : ∀ k, k < 48 → a k = nI (frv (f k)) ∧ (f k ≠ 0 → b k = nI ((f k - 1) % 8))) : RM (q_spg m f) (sI (sI σ 38 a) 39 b) := ⟨⟨hb, h.1.2⟩, h.2⟩
theorem x_map (G : oG) (σ : oT) (m : MS) (hR : RM m σ) (p q f g : Int32) : Mt G m_X_map [.ref 37, .int p, .int q, .int f, .int g] (enc σ) 0 0 (SX σ (sp_map m p q f g)) := by
  refine Mt.of (by decide) (Nat.le_of_ble_eq_true rfl) (s_X_map_0 _ _ _ _ _ ?_)
  simp only [k_X_map_0, o_iconst, o_lconst, o_iload, o_lload, o_aload, o_istore, o_lstore, o_astore, o_iinc, o_iadd, o_isub, o_imul, o_iand, o_ior, o_idiv, o_irem, o_lor, o_lushr, o_lshl, o_i2l, o_l2i, o_lcmp, o_dup, o_pop, o_dup2, o_ifeq, o_ifne, o_iflt, o_ifge, o_ifgt, o_ifle, o_icmpeq, o_icmpne, o_icmplt, o_icmpge, o_icmpgt, o_icmple, o_jmp, o_tsw, o_iret, o_zret, o_lret, o_vret, o_getf, o_putfI, o_putfR, o_iald, o_alen, o_lald, o_zald, o_iast, o_last, o_zast, o_aald, o_aast, o_new, o_newa, o_callS, o_callI, o_callV, o_objInit, o_mmax, o_mmin, o_lk, o_up1, o_up2, o_cl1, o_cl2, o_keep, o_c2, List.getElem?_cons_zero, List.getElem?_cons_succ, List.drop_zero, List.drop_succ_cons, List.take_zero, List.take_succ_cons, List.reverse_cons, List.reverse_nil, List.nil_append, List.cons_append, List.map_cons, List.map_nil, List.sum_cons, List.sum_nil, Value.category, List.length_cons, List.length_nil, List.set_cons_zero, List.set_cons_succ, Option.toList_some, Option.toList_none, lv_args, ↓reduceIte, Nat.reduceAdd, Nat.reduceSub, Nat.reduceMul, Nat.reduceEqDiff, Nat.reduceLeDiff, Nat.reduceLT, reduceCtorEq, Bool.false_eq_true, and_true, true_and, and_self, and_false, false_and, Nat.zero_add, Nat.le_refl, Nat.zero_le, true_or, or_true, not_true_eq_false, not_false_eq_true, forall_const, false_implies, implies_true, true_implies, Int32.reduceAdd, Int32.reduceLE, Int32.reduceLT, Int32.reduceSub, Int32.reduceMul, Int32.reduceToNatClampNeg]
  refine o_use (x_isPage G (enc σ) p q) ?_
  rintro w h' ⟨rfl, rfl⟩
  refine s_X_map_5 _ _ _ _ _ ?_
  unfold sp_map
  rw [← Bool.and_assoc]
  cases h1 : (wI p 3 && wI q 16) with
  | false =>
    simp only [k_X_map_5, o_iconst, o_lconst, o_iload, o_lload, o_aload, o_istore, o_lstore, o_astore, o_iinc, o_iadd, o_isub, o_imul, o_iand, o_ior, o_idiv, o_irem, o_lor, o_lushr, o_lshl, o_i2l, o_l2i, o_lcmp, o_dup, o_pop, o_dup2, o_ifeq, o_ifne, o_iflt, o_ifge, o_ifgt, o_ifle, o_icmpeq, o_icmpne, o_icmplt, o_icmpge, o_icmpgt, o_icmple, o_jmp, o_tsw, o_iret, o_zret, o_lret, o_vret, o_getf, o_putfI, o_putfR, o_iald, o_alen, o_lald, o_zald, o_iast, o_last, o_zast, o_aald, o_aast, o_new, o_newa, o_callS, o_callI, o_callV, o_objInit, o_mmax, o_mmin, o_lk, o_up1, o_up2, o_cl1, o_cl2, o_keep, o_c2, List.getElem?_cons_zero, List.getElem?_cons_succ, List.drop_zero, List.drop_succ_cons, List.take_zero, List.take_succ_cons, List.reverse_cons, List.reverse_nil, List.nil_append, List.cons_append, List.map_cons, List.map_nil, List.sum_cons, List.sum_nil, Value.category, List.length_cons, List.length_nil, List.set_cons_zero, List.set_cons_succ, Option.toList_some, Option.toList_none, lv_args, ↓reduceIte, Nat.reduceAdd, Nat.reduceSub, Nat.reduceMul, Nat.reduceEqDiff, Nat.reduceLeDiff, Nat.reduceLT, reduceCtorEq, Bool.false_eq_true, and_true, true_and, and_self, and_false, false_and, Nat.zero_add, Nat.le_refl, Nat.zero_le, true_or, or_true, not_true_eq_false, not_false_eq_true, forall_const, false_implies, implies_true, true_implies, Int32.reduceAdd, Int32.reduceLE, Int32.reduceLT, Int32.reduceSub, Int32.reduceMul, Int32.reduceToNatClampNeg, bz_f, Bool.false_and]
    exact SX.mk hR (frX_r σ)
  | true =>
    rw [Bool.true_and]
    rw [Bool.and_eq_true] at h1
    obtain ⟨p, hp, rfl⟩ := wI_t (n := 3) (by decide) h1.1
    obtain ⟨q, hq, rfl⟩ := wI_t (n := 16) (by decide) h1.2
    simp only [k_X_map_5, o_iconst, o_lconst, o_iload, o_lload, o_aload, o_istore, o_lstore, o_astore, o_iinc, o_iadd, o_isub, o_imul, o_iand, o_ior, o_idiv, o_irem, o_lor, o_lushr, o_lshl, o_i2l, o_l2i, o_lcmp, o_dup, o_pop, o_dup2, o_ifeq, o_ifne, o_iflt, o_ifge, o_ifgt, o_ifle, o_icmpeq, o_icmpne, o_icmplt, o_icmpge, o_icmpgt, o_icmple, o_jmp, o_tsw, o_iret, o_zret, o_lret, o_vret, o_getf, o_putfI, o_putfR, o_iald, o_alen, o_lald, o_zald, o_iast, o_last, o_zast, o_aald, o_aast, o_new, o_newa, o_callS, o_callI, o_callV, o_objInit, o_mmax, o_mmin, o_lk, o_up1, o_up2, o_cl1, o_cl2, o_keep, o_c2, List.getElem?_cons_zero, List.getElem?_cons_succ, List.drop_zero, List.drop_succ_cons, List.take_zero, List.take_succ_cons, List.reverse_cons, List.reverse_nil, List.nil_append, List.cons_append, List.map_cons, List.map_nil, List.sum_cons, List.sum_nil, Value.category, List.length_cons, List.length_nil, List.set_cons_zero, List.set_cons_succ, Option.toList_some, Option.toList_none, lv_args, ↓reduceIte, Nat.reduceAdd, Nat.reduceSub, Nat.reduceMul, Nat.reduceEqDiff, Nat.reduceLeDiff, Nat.reduceLT, reduceCtorEq, Bool.false_eq_true, and_true, true_and, and_self, and_false, false_and, Nat.zero_add, Nat.le_refl, Nat.zero_le, true_or, or_true, not_true_eq_false, not_false_eq_true, forall_const, false_implies, implies_true, true_implies, Int32.reduceAdd, Int32.reduceLE, Int32.reduceLT, Int32.reduceSub, Int32.reduceMul, Int32.reduceToNatClampNeg, bz_t]
    refine ⟨fun q => absurd q i01, fun _ => ⟨fun q1 => ?_, fun q1 => ⟨fun q2 => ?_, fun q2 => ⟨fun q3 => ?_, fun q3 => ⟨fun q4 => ?_, fun q4 => ?_⟩⟩⟩⟩⟩
    · rw [wI_f1 q1, Bool.false_and, if_neg (by decide)]
      exact SX.mk hR (frX_r σ)
    · rw [show wI f 20 = false from wI_f2 (n := 19) (by decide) q2, Bool.false_and, if_neg (by decide)]
      exact SX.mk hR (frX_r σ)
    · rw [wI_f1 q3, Bool.and_false, if_neg (by decide)]
      exact SX.mk hR (frX_r σ)
    · have w1 : wI f 20 = true := wI_t2 (n := 19) (by decide) q1 q2
      have w2 : wI g 8 = true := wI_t3 (n := 7) (by decide) q3 q4
      rw [w1, w2, Bool.and_self, if_pos rfl]
      obtain ⟨f, hf, rfl⟩ := wI_t (n := 20) (by decide) w1
      obtain ⟨g, hg, rfl⟩ := wI_t (n := 8) (by decide) w2
      rw [tN_nI (show p < 2 ^ 31 by omega), tN_nI (show q < 2 ^ 31 by omega), tN_nI (show f < 2 ^ 31 by omega), tN_nI (show g < 2 ^ 31 by omega)]
      refine s_X_map_32 _ _ _ _ _ ?_
      simp only [k_X_map_32, o_iconst, o_lconst, o_iload, o_lload, o_aload, o_istore, o_lstore, o_astore, o_iinc, o_iadd, o_isub, o_imul, o_iand, o_ior, o_idiv, o_irem, o_lor, o_lushr, o_lshl, o_i2l, o_l2i, o_lcmp, o_dup, o_pop, o_dup2, o_ifeq, o_ifne, o_iflt, o_ifge, o_ifgt, o_ifle, o_icmpeq, o_icmpne, o_icmplt, o_icmpge, o_icmpgt, o_icmple, o_jmp, o_tsw, o_iret, o_zret, o_lret, o_vret, o_getf, o_putfI, o_putfR, o_iald, o_alen, o_lald, o_zald, o_iast, o_last, o_zast, o_aald, o_aast, o_new, o_newa, o_callS, o_callI, o_callV, o_objInit, o_mmax, o_mmin, o_lk, o_up1, o_up2, o_cl1, o_cl2, o_keep, o_c2, List.getElem?_cons_zero, List.getElem?_cons_succ, List.drop_zero, List.drop_succ_cons, List.take_zero, List.take_succ_cons, List.reverse_cons, List.reverse_nil, List.nil_append, List.cons_append, List.map_cons, List.map_nil, List.sum_cons, List.sum_nil, Value.category, List.length_cons, List.length_nil, List.set_cons_zero, List.set_cons_succ, Option.toList_some, Option.toList_none, lv_args, ↓reduceIte, Nat.reduceAdd, Nat.reduceSub, Nat.reduceMul, Nat.reduceEqDiff, Nat.reduceLeDiff, Nat.reduceLT, reduceCtorEq, Bool.false_eq_true, and_true, true_and, and_self, and_false, false_and, Nat.zero_add, Nat.le_refl, Nat.zero_le, true_or, or_true, not_true_eq_false, not_false_eq_true, forall_const, false_implies, implies_true, true_implies, Int32.reduceAdd, Int32.reduceLE, Int32.reduceLT, Int32.reduceSub, Int32.reduceMul, Int32.reduceToNatClampNeg, og_36, oi_36, ef_36_4, ef_36_19, ef_36_20, ef_36_21, ef_36_22, ef_36_23, og_37, oi_37, oq_37, es_37, og_38, oi_38, oq_38, es_38, og_39, oi_39, oq_39, es_39, og_40, oi_40, oq_40, es_40, og_41, oi_41, es_41, og_42, oi_42, oq_42, es_42, og_43, oi_43, oq_43, es_43, og_44, oi_44, oq_44, es_44, og_45, oi_45, oq_45, es_45, og_46, oi_46, oq_46, es_46, og_47, oi_47, oq_47, es_47, og_48, oi_48, oq_48, es_48, og_49, oi_49, oq_49, es_49, og_50, oi_50, oq_50, es_50, og_51, oi_51, es_51, og_52, oi_52, oq_52, es_52, og_53, oi_53, oq_53, es_53, og_54, oi_54, oq_54, es_54, og_55, oi_55, oq_55, es_55, og_56, oi_56, oq_56, es_56, og_57, oi_57, oq_57, es_57, og_58, oi_58, oq_58, es_58, sI_1, sI_2, sL_1, sL_2, sL_3, sF_1, sF_2, sF_3, ix16, nI_1, nI_clamp (show p * 16 + q < 2 ^ 31 by omega)]
      refine ⟨vp_in_nI (by omega) (by decide), vp_in_nI (by omega) (by decide), ?_⟩
      refine SX.mk (RM_g hR ?_) (frX_sI (frX_sI (frX_r σ) (by decide)) (by decide))
      intro k hk
      simp only [upd, va_up]
      by_cases h : k = p * 16 + q
      · rw [if_pos h, if_pos h, if_pos h]
        refine ⟨?_, fun _ => ?_⟩
        · rw [frv, if_neg (by omega), show (8 * f + g + 1 - 1) / 8 + 1 = f + 1 by omega]
        · rw [show (8 * f + g + 1 - 1) % 8 = g by omega]
      · rw [if_neg h, if_neg h, if_neg h]; exact hR.1.1 k hk
    · rw [show wI g 8 = false from wI_f3 (n := 7) (by decide) q4, Bool.and_false, if_neg (by decide)]
      exact SX.mk hR (frX_r σ)
theorem frv0 {e : Nat} (he : e ≤ 160) : (nI (frv e) = 0 ↔ e = 0) := by
  unfold frv
  by_cases h : e = 0
  · rw [if_pos h]; exact ⟨fun _ => h, fun _ => rfl⟩
  · rw [if_neg h]; exact ⟨fun q => absurd q (nI_ne0 (by omega) (by omega)), fun q => absurd q h⟩
theorem x_unmap (G : oG) (σ : oT) (m : MS) (hO : OkM m) (hR : RM m σ) (p q : Int32) : Mt G m_X_unmap [.ref 37, .int p, .int q] (enc σ) 0 0 (SX σ (sp_unmap m p q)) := by
  refine Mt.of (by decide) (Nat.le_of_ble_eq_true rfl) (s_X_unmap_0 _ _ _ _ _ ?_)
  simp only [k_X_unmap_0, o_iconst, o_lconst, o_iload, o_lload, o_aload, o_istore, o_lstore, o_astore, o_iinc, o_iadd, o_isub, o_imul, o_iand, o_ior, o_idiv, o_irem, o_lor, o_lushr, o_lshl, o_i2l, o_l2i, o_lcmp, o_dup, o_pop, o_dup2, o_ifeq, o_ifne, o_iflt, o_ifge, o_ifgt, o_ifle, o_icmpeq, o_icmpne, o_icmplt, o_icmpge, o_icmpgt, o_icmple, o_jmp, o_tsw, o_iret, o_zret, o_lret, o_vret, o_getf, o_putfI, o_putfR, o_iald, o_alen, o_lald, o_zald, o_iast, o_last, o_zast, o_aald, o_aast, o_new, o_newa, o_callS, o_callI, o_callV, o_objInit, o_mmax, o_mmin, o_lk, o_up1, o_up2, o_cl1, o_cl2, o_keep, o_c2, List.getElem?_cons_zero, List.getElem?_cons_succ, List.drop_zero, List.drop_succ_cons, List.take_zero, List.take_succ_cons, List.reverse_cons, List.reverse_nil, List.nil_append, List.cons_append, List.map_cons, List.map_nil, List.sum_cons, List.sum_nil, Value.category, List.length_cons, List.length_nil, List.set_cons_zero, List.set_cons_succ, Option.toList_some, Option.toList_none, lv_args, ↓reduceIte, Nat.reduceAdd, Nat.reduceSub, Nat.reduceMul, Nat.reduceEqDiff, Nat.reduceLeDiff, Nat.reduceLT, reduceCtorEq, Bool.false_eq_true, and_true, true_and, and_self, and_false, false_and, Nat.zero_add, Nat.le_refl, Nat.zero_le, true_or, or_true, not_true_eq_false, not_false_eq_true, forall_const, false_implies, implies_true, true_implies, Int32.reduceAdd, Int32.reduceLE, Int32.reduceLT, Int32.reduceSub, Int32.reduceMul, Int32.reduceToNatClampNeg]
  refine o_use (x_isPage G (enc σ) p q) ?_
  rintro w h' ⟨rfl, rfl⟩
  refine s_X_unmap_5 _ _ _ _ _ ?_
  unfold sp_unmap
  cases h1 : (wI p 3 && wI q 16) with
  | false =>
    simp only [k_X_unmap_5, o_iconst, o_lconst, o_iload, o_lload, o_aload, o_istore, o_lstore, o_astore, o_iinc, o_iadd, o_isub, o_imul, o_iand, o_ior, o_idiv, o_irem, o_lor, o_lushr, o_lshl, o_i2l, o_l2i, o_lcmp, o_dup, o_pop, o_dup2, o_ifeq, o_ifne, o_iflt, o_ifge, o_ifgt, o_ifle, o_icmpeq, o_icmpne, o_icmplt, o_icmpge, o_icmpgt, o_icmple, o_jmp, o_tsw, o_iret, o_zret, o_lret, o_vret, o_getf, o_putfI, o_putfR, o_iald, o_alen, o_lald, o_zald, o_iast, o_last, o_zast, o_aald, o_aast, o_new, o_newa, o_callS, o_callI, o_callV, o_objInit, o_mmax, o_mmin, o_lk, o_up1, o_up2, o_cl1, o_cl2, o_keep, o_c2, List.getElem?_cons_zero, List.getElem?_cons_succ, List.drop_zero, List.drop_succ_cons, List.take_zero, List.take_succ_cons, List.reverse_cons, List.reverse_nil, List.nil_append, List.cons_append, List.map_cons, List.map_nil, List.sum_cons, List.sum_nil, Value.category, List.length_cons, List.length_nil, List.set_cons_zero, List.set_cons_succ, Option.toList_some, Option.toList_none, lv_args, ↓reduceIte, Nat.reduceAdd, Nat.reduceSub, Nat.reduceMul, Nat.reduceEqDiff, Nat.reduceLeDiff, Nat.reduceLT, reduceCtorEq, Bool.false_eq_true, and_true, true_and, and_self, and_false, false_and, Nat.zero_add, Nat.le_refl, Nat.zero_le, true_or, or_true, not_true_eq_false, not_false_eq_true, forall_const, false_implies, implies_true, true_implies, Int32.reduceAdd, Int32.reduceLE, Int32.reduceLT, Int32.reduceSub, Int32.reduceMul, Int32.reduceToNatClampNeg, bz_f, Bool.false_and]
    exact SX.mk hR (frX_r σ)
  | true =>
    rw [Bool.true_and]
    rw [Bool.and_eq_true] at h1
    obtain ⟨p, hp, rfl⟩ := wI_t (n := 3) (by decide) h1.1
    obtain ⟨q, hq, rfl⟩ := wI_t (n := 16) (by decide) h1.2
    rw [tN_nI (show p < 2 ^ 31 by omega), tN_nI (show q < 2 ^ 31 by omega)]
    have hz := frv0 (hO (p * 16 + q))
    have hv : vp_in (nI (p * 16 + q)) 48 := vp_in_nI (by omega) (by decide)
    simp only [k_X_unmap_5, o_iconst, o_lconst, o_iload, o_lload, o_aload, o_istore, o_lstore, o_astore, o_iinc, o_iadd, o_isub, o_imul, o_iand, o_ior, o_idiv, o_irem, o_lor, o_lushr, o_lshl, o_i2l, o_l2i, o_lcmp, o_dup, o_pop, o_dup2, o_ifeq, o_ifne, o_iflt, o_ifge, o_ifgt, o_ifle, o_icmpeq, o_icmpne, o_icmplt, o_icmpge, o_icmpgt, o_icmple, o_jmp, o_tsw, o_iret, o_zret, o_lret, o_vret, o_getf, o_putfI, o_putfR, o_iald, o_alen, o_lald, o_zald, o_iast, o_last, o_zast, o_aald, o_aast, o_new, o_newa, o_callS, o_callI, o_callV, o_objInit, o_mmax, o_mmin, o_lk, o_up1, o_up2, o_cl1, o_cl2, o_keep, o_c2, List.getElem?_cons_zero, List.getElem?_cons_succ, List.drop_zero, List.drop_succ_cons, List.take_zero, List.take_succ_cons, List.reverse_cons, List.reverse_nil, List.nil_append, List.cons_append, List.map_cons, List.map_nil, List.sum_cons, List.sum_nil, Value.category, List.length_cons, List.length_nil, List.set_cons_zero, List.set_cons_succ, Option.toList_some, Option.toList_none, lv_args, ↓reduceIte, Nat.reduceAdd, Nat.reduceSub, Nat.reduceMul, Nat.reduceEqDiff, Nat.reduceLeDiff, Nat.reduceLT, reduceCtorEq, Bool.false_eq_true, and_true, true_and, and_self, and_false, false_and, Nat.zero_add, Nat.le_refl, Nat.zero_le, true_or, or_true, not_true_eq_false, not_false_eq_true, forall_const, false_implies, implies_true, true_implies, Int32.reduceAdd, Int32.reduceLE, Int32.reduceLT, Int32.reduceSub, Int32.reduceMul, Int32.reduceToNatClampNeg, og_36, oi_36, ef_36_4, ef_36_19, ef_36_20, ef_36_21, ef_36_22, ef_36_23, og_37, oi_37, oq_37, es_37, og_38, oi_38, oq_38, es_38, og_39, oi_39, oq_39, es_39, og_40, oi_40, oq_40, es_40, og_41, oi_41, es_41, og_42, oi_42, oq_42, es_42, og_43, oi_43, oq_43, es_43, og_44, oi_44, oq_44, es_44, og_45, oi_45, oq_45, es_45, og_46, oi_46, oq_46, es_46, og_47, oi_47, oq_47, es_47, og_48, oi_48, oq_48, es_48, og_49, oi_49, oq_49, es_49, og_50, oi_50, oq_50, es_50, og_51, oi_51, es_51, og_52, oi_52, oq_52, es_52, og_53, oi_53, oq_53, es_53, og_54, oi_54, oq_54, es_54, og_55, oi_55, oq_55, es_55, og_56, oi_56, oq_56, es_56, og_57, oi_57, oq_57, es_57, og_58, oi_58, oq_58, es_58, bz_t, ix16, nI_clamp (show p * 16 + q < 2 ^ 31 by omega), (hR.1.1 (p * 16 + q) (by omega)).1]
    refine ⟨fun q => absurd q i01, fun _ => ⟨hv, fun q1 => ⟨hv, ?_⟩, fun q1 => ?_⟩⟩
    · have hne : q_pg m (p * 16 + q) ≠ 0 := fun h => q1 (hz.mpr h)
      rw [decide_eq_true hne, if_pos rfl]
      have h := RM_g (f := va_up (q_pg m) (p * 16 + q) 0) (a := upd (σ.1 38) (p * 16 + q) 0) (b := σ.1 39) hR (fun k hk => by
        simp only [upd, va_up]
        by_cases h : k = p * 16 + q
        · rw [if_pos h, if_pos h]; exact ⟨rfl, fun h => absurd rfl h⟩
        · rw [if_neg h, if_neg h]; exact hR.1.1 k hk)
      have e : sI (sI σ 38 (upd (σ.1 38) (p * 16 + q) 0)) 39 (σ.1 39) = sI σ 38 (upd (σ.1 38) (p * 16 + q) 0) := sI_id (sI σ 38 (upd (σ.1 38) (p * 16 + q) 0)) 39
      rw [e] at h
      exact SX.mk h (frX_sI (frX_r σ) (by decide))
    · rw [decide_eq_false (fun h => h (hz.mp q1)), if_neg (by decide)]
      exact SX.mk hR (frX_r σ)
theorem x_page (G : oG) (σ : oT) (m : MS) (hO : OkM m) (hR : RM m σ) (p q : Int32) : Mt G m_X_page [.ref 37, .int p, .int q] (enc σ) 0 0 (SX σ (sp_page m p q)) := by
  refine Mt.of (by decide) (Nat.le_of_ble_eq_true rfl) (s_X_page_0 _ _ _ _ _ ?_)
  simp only [k_X_page_0, o_iconst, o_lconst, o_iload, o_lload, o_aload, o_istore, o_lstore, o_astore, o_iinc, o_iadd, o_isub, o_imul, o_iand, o_ior, o_idiv, o_irem, o_lor, o_lushr, o_lshl, o_i2l, o_l2i, o_lcmp, o_dup, o_pop, o_dup2, o_ifeq, o_ifne, o_iflt, o_ifge, o_ifgt, o_ifle, o_icmpeq, o_icmpne, o_icmplt, o_icmpge, o_icmpgt, o_icmple, o_jmp, o_tsw, o_iret, o_zret, o_lret, o_vret, o_getf, o_putfI, o_putfR, o_iald, o_alen, o_lald, o_zald, o_iast, o_last, o_zast, o_aald, o_aast, o_new, o_newa, o_callS, o_callI, o_callV, o_objInit, o_mmax, o_mmin, o_lk, o_up1, o_up2, o_cl1, o_cl2, o_keep, o_c2, List.getElem?_cons_zero, List.getElem?_cons_succ, List.drop_zero, List.drop_succ_cons, List.take_zero, List.take_succ_cons, List.reverse_cons, List.reverse_nil, List.nil_append, List.cons_append, List.map_cons, List.map_nil, List.sum_cons, List.sum_nil, Value.category, List.length_cons, List.length_nil, List.set_cons_zero, List.set_cons_succ, Option.toList_some, Option.toList_none, lv_args, ↓reduceIte, Nat.reduceAdd, Nat.reduceSub, Nat.reduceMul, Nat.reduceEqDiff, Nat.reduceLeDiff, Nat.reduceLT, reduceCtorEq, Bool.false_eq_true, and_true, true_and, and_self, and_false, false_and, Nat.zero_add, Nat.le_refl, Nat.zero_le, true_or, or_true, not_true_eq_false, not_false_eq_true, forall_const, false_implies, implies_true, true_implies, Int32.reduceAdd, Int32.reduceLE, Int32.reduceLT, Int32.reduceSub, Int32.reduceMul, Int32.reduceToNatClampNeg]
  refine o_use (x_isPage G (enc σ) p q) ?_
  rintro w h' ⟨rfl, rfl⟩
  refine s_X_page_5 _ _ _ _ _ ?_
  unfold sp_page
  cases h1 : (wI p 3 && wI q 16) with
  | false =>
    rw [if_neg (by decide)]
    simp only [k_X_page_5, o_iconst, o_lconst, o_iload, o_lload, o_aload, o_istore, o_lstore, o_astore, o_iinc, o_iadd, o_isub, o_imul, o_iand, o_ior, o_idiv, o_irem, o_lor, o_lushr, o_lshl, o_i2l, o_l2i, o_lcmp, o_dup, o_pop, o_dup2, o_ifeq, o_ifne, o_iflt, o_ifge, o_ifgt, o_ifle, o_icmpeq, o_icmpne, o_icmplt, o_icmpge, o_icmpgt, o_icmple, o_jmp, o_tsw, o_iret, o_zret, o_lret, o_vret, o_getf, o_putfI, o_putfR, o_iald, o_alen, o_lald, o_zald, o_iast, o_last, o_zast, o_aald, o_aast, o_new, o_newa, o_callS, o_callI, o_callV, o_objInit, o_mmax, o_mmin, o_lk, o_up1, o_up2, o_cl1, o_cl2, o_keep, o_c2, List.getElem?_cons_zero, List.getElem?_cons_succ, List.drop_zero, List.drop_succ_cons, List.take_zero, List.take_succ_cons, List.reverse_cons, List.reverse_nil, List.nil_append, List.cons_append, List.map_cons, List.map_nil, List.sum_cons, List.sum_nil, Value.category, List.length_cons, List.length_nil, List.set_cons_zero, List.set_cons_succ, Option.toList_some, Option.toList_none, lv_args, ↓reduceIte, Nat.reduceAdd, Nat.reduceSub, Nat.reduceMul, Nat.reduceEqDiff, Nat.reduceLeDiff, Nat.reduceLT, reduceCtorEq, Bool.false_eq_true, and_true, true_and, and_self, and_false, false_and, Nat.zero_add, Nat.le_refl, Nat.zero_le, true_or, or_true, not_true_eq_false, not_false_eq_true, forall_const, false_implies, implies_true, true_implies, Int32.reduceAdd, Int32.reduceLE, Int32.reduceLT, Int32.reduceSub, Int32.reduceMul, Int32.reduceToNatClampNeg, bz_f]
    exact SX.mk hR (frX_r σ)
  | true =>
    rw [if_pos rfl]
    rw [Bool.and_eq_true] at h1
    obtain ⟨p, hp, rfl⟩ := wI_t (n := 3) (by decide) h1.1
    obtain ⟨q, hq, rfl⟩ := wI_t (n := 16) (by decide) h1.2
    rw [tN_nI (show p < 2 ^ 31 by omega), tN_nI (show q < 2 ^ 31 by omega)]
    have hz := frv0 (hO (p * 16 + q))
    have hv : vp_in (nI (p * 16 + q)) 48 := vp_in_nI (by omega) (by decide)
    simp only [k_X_page_5, o_iconst, o_lconst, o_iload, o_lload, o_aload, o_istore, o_lstore, o_astore, o_iinc, o_iadd, o_isub, o_imul, o_iand, o_ior, o_idiv, o_irem, o_lor, o_lushr, o_lshl, o_i2l, o_l2i, o_lcmp, o_dup, o_pop, o_dup2, o_ifeq, o_ifne, o_iflt, o_ifge, o_ifgt, o_ifle, o_icmpeq, o_icmpne, o_icmplt, o_icmpge, o_icmpgt, o_icmple, o_jmp, o_tsw, o_iret, o_zret, o_lret, o_vret, o_getf, o_putfI, o_putfR, o_iald, o_alen, o_lald, o_zald, o_iast, o_last, o_zast, o_aald, o_aast, o_new, o_newa, o_callS, o_callI, o_callV, o_objInit, o_mmax, o_mmin, o_lk, o_up1, o_up2, o_cl1, o_cl2, o_keep, o_c2, List.getElem?_cons_zero, List.getElem?_cons_succ, List.drop_zero, List.drop_succ_cons, List.take_zero, List.take_succ_cons, List.reverse_cons, List.reverse_nil, List.nil_append, List.cons_append, List.map_cons, List.map_nil, List.sum_cons, List.sum_nil, Value.category, List.length_cons, List.length_nil, List.set_cons_zero, List.set_cons_succ, Option.toList_some, Option.toList_none, lv_args, ↓reduceIte, Nat.reduceAdd, Nat.reduceSub, Nat.reduceMul, Nat.reduceEqDiff, Nat.reduceLeDiff, Nat.reduceLT, reduceCtorEq, Bool.false_eq_true, and_true, true_and, and_self, and_false, false_and, Nat.zero_add, Nat.le_refl, Nat.zero_le, true_or, or_true, not_true_eq_false, not_false_eq_true, forall_const, false_implies, implies_true, true_implies, Int32.reduceAdd, Int32.reduceLE, Int32.reduceLT, Int32.reduceSub, Int32.reduceMul, Int32.reduceToNatClampNeg, og_36, oi_36, ef_36_4, ef_36_19, ef_36_20, ef_36_21, ef_36_22, ef_36_23, og_37, oi_37, oq_37, es_37, og_38, oi_38, oq_38, es_38, og_39, oi_39, oq_39, es_39, og_40, oi_40, oq_40, es_40, og_41, oi_41, es_41, og_42, oi_42, oq_42, es_42, og_43, oi_43, oq_43, es_43, og_44, oi_44, oq_44, es_44, og_45, oi_45, oq_45, es_45, og_46, oi_46, oq_46, es_46, og_47, oi_47, oq_47, es_47, og_48, oi_48, oq_48, es_48, og_49, oi_49, oq_49, es_49, og_50, oi_50, oq_50, es_50, og_51, oi_51, es_51, og_52, oi_52, oq_52, es_52, og_53, oi_53, oq_53, es_53, og_54, oi_54, oq_54, es_54, og_55, oi_55, oq_55, es_55, og_56, oi_56, oq_56, es_56, og_57, oi_57, oq_57, es_57, og_58, oi_58, oq_58, es_58, bz_t, ix16, nI_clamp (show p * 16 + q < 2 ^ 31 by omega), (hR.1.1 (p * 16 + q) (by omega)).1]
    refine ⟨fun q => absurd q i01, fun _ => ⟨hv, fun q1 => ?_, fun q1 => ?_⟩⟩
    · have hne : q_pg m (p * 16 + q) ≠ 0 := fun h => q1 (hz.mpr h)
      have h2 := (hR.1.1 (p * 16 + q) (by omega)).2 hne
      have h3 : nI (frv (q_pg m (p * 16 + q))) - 1 = nI ((q_pg m (p * 16 + q) - 1) / 8) := by rw [frv, if_neg hne, show (1 : Int32) = nI 1 from rfl, pk_sub (by omega)]; rfl
      have h4 : (8 : Int32) * nI ((q_pg m (p * 16 + q) - 1) / 8) + nI ((q_pg m (p * 16 + q) - 1) % 8) = nI (q_pg m (p * 16 + q) - 1) := by rw [show (8 : Int32) = nI 8 from rfl, pk_mul, nI_add, Nat.div_add_mod]
      refine s_X_page_24 _ _ _ _ _ ?_
      simp only [k_X_page_24, o_iconst, o_lconst, o_iload, o_lload, o_aload, o_istore, o_lstore, o_astore, o_iinc, o_iadd, o_isub, o_imul, o_iand, o_ior, o_idiv, o_irem, o_lor, o_lushr, o_lshl, o_i2l, o_l2i, o_lcmp, o_dup, o_pop, o_dup2, o_ifeq, o_ifne, o_iflt, o_ifge, o_ifgt, o_ifle, o_icmpeq, o_icmpne, o_icmplt, o_icmpge, o_icmpgt, o_icmple, o_jmp, o_tsw, o_iret, o_zret, o_lret, o_vret, o_getf, o_putfI, o_putfR, o_iald, o_alen, o_lald, o_zald, o_iast, o_last, o_zast, o_aald, o_aast, o_new, o_newa, o_callS, o_callI, o_callV, o_objInit, o_mmax, o_mmin, o_lk, o_up1, o_up2, o_cl1, o_cl2, o_keep, o_c2, List.getElem?_cons_zero, List.getElem?_cons_succ, List.drop_zero, List.drop_succ_cons, List.take_zero, List.take_succ_cons, List.reverse_cons, List.reverse_nil, List.nil_append, List.cons_append, List.map_cons, List.map_nil, List.sum_cons, List.sum_nil, Value.category, List.length_cons, List.length_nil, List.set_cons_zero, List.set_cons_succ, Option.toList_some, Option.toList_none, lv_args, ↓reduceIte, Nat.reduceAdd, Nat.reduceSub, Nat.reduceMul, Nat.reduceEqDiff, Nat.reduceLeDiff, Nat.reduceLT, reduceCtorEq, Bool.false_eq_true, and_true, true_and, and_self, and_false, false_and, Nat.zero_add, Nat.le_refl, Nat.zero_le, true_or, or_true, not_true_eq_false, not_false_eq_true, forall_const, false_implies, implies_true, true_implies, Int32.reduceAdd, Int32.reduceLE, Int32.reduceLT, Int32.reduceSub, Int32.reduceMul, Int32.reduceToNatClampNeg, og_36, oi_36, ef_36_4, ef_36_19, ef_36_20, ef_36_21, ef_36_22, ef_36_23, og_37, oi_37, oq_37, es_37, og_38, oi_38, oq_38, es_38, og_39, oi_39, oq_39, es_39, og_40, oi_40, oq_40, es_40, og_41, oi_41, es_41, og_42, oi_42, oq_42, es_42, og_43, oi_43, oq_43, es_43, og_44, oi_44, oq_44, es_44, og_45, oi_45, oq_45, es_45, og_46, oi_46, oq_46, es_46, og_47, oi_47, oq_47, es_47, og_48, oi_48, oq_48, es_48, og_49, oi_49, oq_49, es_49, og_50, oi_50, oq_50, es_50, og_51, oi_51, es_51, og_52, oi_52, oq_52, es_52, og_53, oi_53, oq_53, es_53, og_54, oi_54, oq_54, es_54, og_55, oi_55, oq_55, es_55, og_56, oi_56, oq_56, es_56, og_57, oi_57, oq_57, es_57, og_58, oi_58, oq_58, es_58, ix16, nI_clamp (show p * 16 + q < 2 ^ 31 by omega), (hR.1.1 (p * 16 + q) (by omega)).1, h2, h3, h4]
      refine ⟨hv, hv, ?_⟩
      rw [(pgv_div hO hne).1]
      exact SX.mk hR (frX_r σ)
    · rw [hz.mp q1]
      exact SX.mk hR (frX_r σ)
theorem bit_g {g : Nat} (hg : g = 1 ∨ g = 2) : ∀ e, e < 8 → ((nI e &&& nI g = 0) ↔ ¬ e / g % 2 = 1) := by
  rcases hg with rfl | rfl
  · decide +kernel
  · decide +kernel
/-- the place of a byte in memory, or -1 -/
def plX (m : MS) (p : Nat) (a : Int32) (g : Nat) : Int32 := if (decide (¬ a < 0) && q_ok m p (tN a) g) = true then nI (q_loc m p (tN a)) else -1
theorem x_place (G : oG) (σ : oT) (m : MS) (hO : OkM m) (hR : XMg m σ) {p g : Nat} (a : Int32) (hp : p < 3) (hw : σ.2.2 36 19 = nI p) (hg : g = 1 ∨ g = 2) : Mt G m_X_place [.ref 37, .int a, .int (nI g)] (enc σ) 0 0 (fun v h' => v = some (.int (plX m p a g)) ∧ h' = enc σ) := by
  refine Mt.of (by decide) (Nat.le_of_ble_eq_true rfl) (s_X_place_0 _ _ _ _ _ ?_)
  simp only [k_X_place_0, o_iconst, o_lconst, o_iload, o_lload, o_aload, o_istore, o_lstore, o_astore, o_iinc, o_iadd, o_isub, o_imul, o_iand, o_ior, o_idiv, o_irem, o_lor, o_lushr, o_lshl, o_i2l, o_l2i, o_lcmp, o_dup, o_pop, o_dup2, o_ifeq, o_ifne, o_iflt, o_ifge, o_ifgt, o_ifle, o_icmpeq, o_icmpne, o_icmplt, o_icmpge, o_icmpgt, o_icmple, o_jmp, o_tsw, o_iret, o_zret, o_lret, o_vret, o_getf, o_putfI, o_putfR, o_iald, o_alen, o_lald, o_zald, o_iast, o_last, o_zast, o_aald, o_aast, o_new, o_newa, o_callS, o_callI, o_callV, o_objInit, o_mmax, o_mmin, o_lk, o_up1, o_up2, o_cl1, o_cl2, o_keep, o_c2, List.getElem?_cons_zero, List.getElem?_cons_succ, List.drop_zero, List.drop_succ_cons, List.take_zero, List.take_succ_cons, List.reverse_cons, List.reverse_nil, List.nil_append, List.cons_append, List.map_cons, List.map_nil, List.sum_cons, List.sum_nil, Value.category, List.length_cons, List.length_nil, List.set_cons_zero, List.set_cons_succ, Option.toList_some, Option.toList_none, lv_args, ↓reduceIte, Nat.reduceAdd, Nat.reduceSub, Nat.reduceMul, Nat.reduceEqDiff, Nat.reduceLeDiff, Nat.reduceLT, reduceCtorEq, Bool.false_eq_true, and_true, true_and, and_self, and_false, false_and, Nat.zero_add, Nat.le_refl, Nat.zero_le, true_or, or_true, not_true_eq_false, not_false_eq_true, forall_const, false_implies, implies_true, true_implies, Int32.reduceAdd, Int32.reduceLE, Int32.reduceLT, Int32.reduceSub, Int32.reduceMul, Int32.reduceToNatClampNeg]
  unfold plX
  refine ⟨fun q1 => ?_, fun q1 => ⟨fun q2 => ?_, fun q2 => ?_⟩⟩
  · rw [decide_eq_false (fun h => h q1), Bool.false_and, if_neg (by decide)]
  · obtain ⟨a, ha, rfl⟩ := wI_t (n := 256) (by decide) (wI_t3 (n := 255) (by decide) q1 q2)
    rw [decide_eq_true q1, Bool.true_and, tN_nI (show a < 2 ^ 31 by omega)]
    obtain ⟨h1, h2⟩ := hR (p * 16 + a / 16) (by omega)
    have hv : vp_in (nI (p * 16 + a / 16)) 48 := vp_in_nI (by omega) (by decide)
    refine s_X_place_13 _ _ _ _ _ ?_
    simp only [k_X_place_13, o_iconst, o_lconst, o_iload, o_lload, o_aload, o_istore, o_lstore, o_astore, o_iinc, o_iadd, o_isub, o_imul, o_iand, o_ior, o_idiv, o_irem, o_lor, o_lushr, o_lshl, o_i2l, o_l2i, o_lcmp, o_dup, o_pop, o_dup2, o_ifeq, o_ifne, o_iflt, o_ifge, o_ifgt, o_ifle, o_icmpeq, o_icmpne, o_icmplt, o_icmpge, o_icmpgt, o_icmple, o_jmp, o_tsw, o_iret, o_zret, o_lret, o_vret, o_getf, o_putfI, o_putfR, o_iald, o_alen, o_lald, o_zald, o_iast, o_last, o_zast, o_aald, o_aast, o_new, o_newa, o_callS, o_callI, o_callV, o_objInit, o_mmax, o_mmin, o_lk, o_up1, o_up2, o_cl1, o_cl2, o_keep, o_c2, List.getElem?_cons_zero, List.getElem?_cons_succ, List.drop_zero, List.drop_succ_cons, List.take_zero, List.take_succ_cons, List.reverse_cons, List.reverse_nil, List.nil_append, List.cons_append, List.map_cons, List.map_nil, List.sum_cons, List.sum_nil, Value.category, List.length_cons, List.length_nil, List.set_cons_zero, List.set_cons_succ, Option.toList_some, Option.toList_none, lv_args, ↓reduceIte, Nat.reduceAdd, Nat.reduceSub, Nat.reduceMul, Nat.reduceEqDiff, Nat.reduceLeDiff, Nat.reduceLT, reduceCtorEq, Bool.false_eq_true, and_true, true_and, and_self, and_false, false_and, Nat.zero_add, Nat.le_refl, Nat.zero_le, true_or, or_true, not_true_eq_false, not_false_eq_true, forall_const, false_implies, implies_true, true_implies, Int32.reduceAdd, Int32.reduceLE, Int32.reduceLT, Int32.reduceSub, Int32.reduceMul, Int32.reduceToNatClampNeg, og_36, oi_36, ef_36_4, ef_36_19, ef_36_20, ef_36_21, ef_36_22, ef_36_23, og_37, oi_37, oq_37, es_37, og_38, oi_38, oq_38, es_38, og_39, oi_39, oq_39, es_39, og_40, oi_40, oq_40, es_40, og_41, oi_41, es_41, og_42, oi_42, oq_42, es_42, og_43, oi_43, oq_43, es_43, og_44, oi_44, oq_44, es_44, og_45, oi_45, oq_45, es_45, og_46, oi_46, oq_46, es_46, og_47, oi_47, oq_47, es_47, og_48, oi_48, oq_48, es_48, og_49, oi_49, oq_49, es_49, og_50, oi_50, oq_50, es_50, og_51, oi_51, es_51, og_52, oi_52, oq_52, es_52, og_53, oi_53, oq_53, es_53, og_54, oi_54, oq_54, es_54, og_55, oi_55, oq_55, es_55, og_56, oi_56, oq_56, es_56, og_57, oi_57, oq_57, es_57, og_58, oi_58, oq_58, es_58, hw, dv_16 (show a < 2 ^ 31 by omega), ix16, nI_clamp (show p * 16 + a / 16 < 2 ^ 31 by omega), h1, rm_16 (show a < 2 ^ 31 by omega)]
    refine ⟨by decide, hv, ?_⟩
    have h16 := hO (p * 16 + a / 16)
    by_cases h0 : q_pg m (p * 16 + a / 16) = 0
    · have hn : q_ok m p a g = false := by simp [q_ok, q_pok, h0]
      rw [hn, if_neg (by decide), h0]
      exact ⟨fun _ => rfl, fun q => absurd (by decide) q⟩
    · have h3 := h2 h0
      have e3 : nI (frv (q_pg m (p * 16 + a / 16))) - 1 = nI ((q_pg m (p * 16 + a / 16) - 1) / 8) := by rw [frv, if_neg h0, show (1 : Int32) = nI 1 from rfl, pk_sub (by omega)]; rfl
      have e4 : (16 : Int32) * nI ((q_pg m (p * 16 + a / 16) - 1) / 8) + nI (a % 16) = nI (q_loc m p a) := by rw [ix16]; rfl
      rw [h3, e3, e4]
      have hpos : ¬ nI (frv (q_pg m (p * 16 + a / 16))) ≤ 0 := fun q => by
        have := (nI_leI (b := 0) (by unfold frv; rw [if_neg h0]; omega) (by decide)).mp q
        unfold frv at this
        rw [if_neg h0] at this
        omega
      have b4 := bit4 ((q_pg m (p * 16 + a / 16) - 1) % 8) (by omega)
      have bg := bit_g hg ((q_pg m (p * 16 + a / 16) - 1) % 8) (by omega)
      have c4 : (q_pg m (p * 16 + a / 16) - 1) % 8 / 4 % 2 = (q_pg m (p * 16 + a / 16) - 1) / 4 % 2 := by omega
      have cg : (q_pg m (p * 16 + a / 16) - 1) % 8 / g % 2 = (q_pg m (p * 16 + a / 16) - 1) / g % 2 := by
        rcases hg with rfl | rfl
        · omega
        · omega
      rw [c4] at b4
      rw [cg] at bg
      have hq : q_ok m p a g = (decide ((q_pg m (p * 16 + a / 16) - 1) / 4 % 2 = 1) && decide ((q_pg m (p * 16 + a / 16) - 1) / g % 2 = 1)) := by
        unfold q_ok q_pok
        rw [decide_eq_true (show a < 256 by omega), decide_eq_true h0]
        rfl
      rw [hq]
      refine ⟨fun q => absurd q hpos, fun _ => ⟨hv, fun q1 => ?_, fun q1 => ⟨hv, fun q2 => ?_, fun q2 => ⟨hv, by decide, ?_⟩⟩⟩⟩
      · rw [decide_eq_false (b4.mp q1), Bool.false_and, if_neg (by decide)]
      · rw [decide_eq_false (bg.mp q2), Bool.and_false, if_neg (by decide)]
      · rw [decide_eq_true (Classical.byContradiction fun h => q1 (b4.mpr h)), decide_eq_true (Classical.byContradiction fun h => q2 (bg.mpr h)), Bool.and_self, if_pos rfl]
  · have hn : ¬ tN a < 256 := fun h => q2 (by
      obtain ⟨b, hb, rfl⟩ := nI_of q1
      rw [tN_nI hb] at h
      exact (nI_leI hb (by decide)).mpr (show b ≤ 255 by omega))
    have : q_ok m p (tN a) g = false := by
      unfold q_ok
      rw [decide_eq_false hn, Bool.false_and]
    rw [this, Bool.and_false, if_neg (by decide)]
