/-! The second side's sweep: files, pipes, the whole. -/
def fzF (τ : oT) (m : MS) (i j : Nat) : Int32 := if j < i then (if fex m j = true then 1 else 0) else τ.1 41 j
theorem sw_b (G : oG) (τ : oT) (m : MS) (hO : Ok m) (hx : XMn (q_nm m) τ) (ho : XMo m τ) (hz : ∀ o, o < 8 → has (q_ds m) o = false → τ.1 47 o = 0) (hf : XMf m τ) (Post : oP) (hP : ∀ g : Nat → Int32, (∀ j, j < 6 → g j = fzF τ m 6 j) → Wp G m_X_sweep Post 125 0 0 [(0, .ref 37), (1, .int 0)] [] (enc (sI τ 41 g))) : ∀ k i : Nat, i + k = 6 → ∀ g : Nat → Int32, (∀ j, j < 6 → g j = fzF τ m i j) → Wp G m_X_sweep Post 74 0 0 [(0, .ref 37), (1, .int (nI i))] [] (enc (sI τ 41 g)) := by
  intro k
  induction k with
  | zero =>
    intro i hk g hg
    have e : i = 6 := by omega
    subst e
    refine s_X_sweep_74 _ _ _ _ _ ?_
    simp only [k_X_sweep_74, o_iconst, o_lconst, o_iload, o_lload, o_aload, o_istore, o_lstore, o_astore, o_iinc, o_iadd, o_isub, o_imul, o_iand, o_ior, o_idiv, o_irem, o_lor, o_lushr, o_lshl, o_i2l, o_l2i, o_lcmp, o_dup, o_pop, o_dup2, o_ifeq, o_ifne, o_iflt, o_ifge, o_ifgt, o_ifle, o_icmpeq, o_icmpne, o_icmplt, o_icmpge, o_icmpgt, o_icmple, o_jmp, o_tsw, o_iret, o_zret, o_lret, o_vret, o_getf, o_putfI, o_putfR, o_iald, o_alen, o_lald, o_zald, o_iast, o_last, o_zast, o_aald, o_aast, o_new, o_newa, o_callS, o_callI, o_callV, o_objInit, o_mmax, o_mmin, o_lk, o_up1, o_up2, o_cl1, o_cl2, o_keep, o_c2, List.getElem?_cons_zero, List.getElem?_cons_succ, List.drop_zero, List.drop_succ_cons, List.take_zero, List.take_succ_cons, List.reverse_cons, List.reverse_nil, List.nil_append, List.cons_append, List.map_cons, List.map_nil, List.sum_cons, List.sum_nil, Value.category, List.length_cons, List.length_nil, List.set_cons_zero, List.set_cons_succ, Option.toList_some, Option.toList_none, lv_args, ↓reduceIte, Nat.reduceAdd, Nat.reduceSub, Nat.reduceMul, Nat.reduceEqDiff, Nat.reduceLeDiff, Nat.reduceLT, reduceCtorEq, Bool.false_eq_true, and_true, true_and, and_self, and_false, false_and, Nat.zero_add, Nat.le_refl, Nat.zero_le, true_or, or_true, not_true_eq_false, not_false_eq_true, forall_const, false_implies, implies_true, true_implies, Int32.reduceAdd, Int32.reduceLE, Int32.reduceLT, Int32.reduceSub, Int32.reduceMul, Int32.reduceToNatClampNeg, og_36, oi_36, ef_36_4, ef_36_19, ef_36_20, ef_36_21, ef_36_22, ef_36_23, og_37, oi_37, oq_37, es_37, og_38, oi_38, oq_38, es_38, og_39, oi_39, oq_39, es_39, og_40, oi_40, oq_40, es_40, og_41, oi_41, es_41, og_42, oi_42, oq_42, es_42, og_43, oi_43, oq_43, es_43, og_44, oi_44, oq_44, es_44, og_45, oi_45, oq_45, es_45, og_46, oi_46, oq_46, es_46, og_47, oi_47, oq_47, es_47, og_48, oi_48, oq_48, es_48, og_49, oi_49, oq_49, es_49, og_50, oi_50, oq_50, es_50, og_51, oi_51, es_51, og_52, oi_52, oq_52, es_52, og_53, oi_53, oq_53, es_53, og_54, oi_54, oq_54, es_54, og_55, oi_55, oq_55, es_55, og_56, oi_56, oq_56, es_56, og_57, oi_57, oq_57, es_57, og_58, oi_58, oq_58, es_58]
    exact ⟨fun _ => hP g hg, fun q => absurd (nI_le (Nat.le_refl 6) (by decide)) q⟩
  | succ k ih =>
    intro i hk g hg
    have hi : i < 6 := by omega
    have hv : vp_in (nI i) 6 := vp_in_nI hi (by decide)
    have step : ∀ v : Int32, v = (if fex m i = true then 1 else 0) → ∀ j, j < 6 → upd g i v j = fzF τ m (i + 1) j := fun v hv j hj => by
      simp only [upd]
      by_cases e : j = i
      · subst e
        rw [if_pos rfl, fzF, if_pos (by omega), hv]
      · rw [if_neg e, hg j hj]
        unfold fzF
        by_cases c : j < i
        · rw [if_pos c, if_pos (show j < i + 1 by omega)]
        · rw [if_neg c, if_neg (show ¬ j < i + 1 by omega)]
    have hgi : g i = τ.1 41 i := by rw [hg i hi, fzF, if_neg (by omega)]
    have n8 := nof_le hO.2.2.1 i
    have o8 : opn m i 3 ≤ 8 := cnt_le _ _
    refine s_X_sweep_74 _ _ _ _ _ ?_
    simp only [k_X_sweep_74, o_iconst, o_lconst, o_iload, o_lload, o_aload, o_istore, o_lstore, o_astore, o_iinc, o_iadd, o_isub, o_imul, o_iand, o_ior, o_idiv, o_irem, o_lor, o_lushr, o_lshl, o_i2l, o_l2i, o_lcmp, o_dup, o_pop, o_dup2, o_ifeq, o_ifne, o_iflt, o_ifge, o_ifgt, o_ifle, o_icmpeq, o_icmpne, o_icmplt, o_icmpge, o_icmpgt, o_icmple, o_jmp, o_tsw, o_iret, o_zret, o_lret, o_vret, o_getf, o_putfI, o_putfR, o_iald, o_alen, o_lald, o_zald, o_iast, o_last, o_zast, o_aald, o_aast, o_new, o_newa, o_callS, o_callI, o_callV, o_objInit, o_mmax, o_mmin, o_lk, o_up1, o_up2, o_cl1, o_cl2, o_keep, o_c2, List.getElem?_cons_zero, List.getElem?_cons_succ, List.drop_zero, List.drop_succ_cons, List.take_zero, List.take_succ_cons, List.reverse_cons, List.reverse_nil, List.nil_append, List.cons_append, List.map_cons, List.map_nil, List.sum_cons, List.sum_nil, Value.category, List.length_cons, List.length_nil, List.set_cons_zero, List.set_cons_succ, Option.toList_some, Option.toList_none, lv_args, ↓reduceIte, Nat.reduceAdd, Nat.reduceSub, Nat.reduceMul, Nat.reduceEqDiff, Nat.reduceLeDiff, Nat.reduceLT, reduceCtorEq, Bool.false_eq_true, and_true, true_and, and_self, and_false, false_and, Nat.zero_add, Nat.le_refl, Nat.zero_le, true_or, or_true, not_true_eq_false, not_false_eq_true, forall_const, false_implies, implies_true, true_implies, Int32.reduceAdd, Int32.reduceLE, Int32.reduceLT, Int32.reduceSub, Int32.reduceMul, Int32.reduceToNatClampNeg, og_36, oi_36, ef_36_4, ef_36_19, ef_36_20, ef_36_21, ef_36_22, ef_36_23, og_37, oi_37, oq_37, es_37, og_38, oi_38, oq_38, es_38, og_39, oi_39, oq_39, es_39, og_40, oi_40, oq_40, es_40, og_41, oi_41, es_41, og_42, oi_42, oq_42, es_42, og_43, oi_43, oq_43, es_43, og_44, oi_44, oq_44, es_44, og_45, oi_45, oq_45, es_45, og_46, oi_46, oq_46, es_46, og_47, oi_47, oq_47, es_47, og_48, oi_48, oq_48, es_48, og_49, oi_49, oq_49, es_49, og_50, oi_50, oq_50, es_50, og_51, oi_51, es_51, og_52, oi_52, oq_52, es_52, og_53, oi_53, oq_53, es_53, og_54, oi_54, oq_54, es_54, og_55, oi_55, oq_55, es_55, og_56, oi_56, oq_56, es_56, og_57, oi_57, oq_57, es_57, og_58, oi_58, oq_58, es_58, sI_1, sI_2, sL_1, sL_2, sL_3, sF_1, sF_2, sF_3, sI_sI, nI_1, nI_clamp (show i < 2 ^ 31 by omega), nar0]
    refine ⟨fun q => absurd q (nI_ge (b := 6) hi (by decide)), fun _ => ⟨hv, fun q => ⟨hv, ?_⟩, fun q => ?_⟩⟩
    · refine ih (i + 1) (by omega) _ (step 0 ?_)
      cases hh : fex m i with
      | false => rfl
      | true =>
        rw [hgi, (hf i hi hh).1] at q
        exact absurd q (by decide)
    · refine o_use (x_namesOf G (sI τ 41 g) hO.2.2.1 hx hi) ?_
      rintro w h' ⟨rfl, rfl⟩
      refine s_X_sweep_99 _ _ _ _ _ ?_
      simp only [k_X_sweep_99, o_iconst, o_lconst, o_iload, o_lload, o_aload, o_istore, o_lstore, o_astore, o_iinc, o_iadd, o_isub, o_imul, o_iand, o_ior, o_idiv, o_irem, o_lor, o_lushr, o_lshl, o_i2l, o_l2i, o_lcmp, o_dup, o_pop, o_dup2, o_ifeq, o_ifne, o_iflt, o_ifge, o_ifgt, o_ifle, o_icmpeq, o_icmpne, o_icmplt, o_icmpge, o_icmpgt, o_icmple, o_jmp, o_tsw, o_iret, o_zret, o_lret, o_vret, o_getf, o_putfI, o_putfR, o_iald, o_alen, o_lald, o_zald, o_iast, o_last, o_zast, o_aald, o_aast, o_new, o_newa, o_callS, o_callI, o_callV, o_objInit, o_mmax, o_mmin, o_lk, o_up1, o_up2, o_cl1, o_cl2, o_keep, o_c2, List.getElem?_cons_zero, List.getElem?_cons_succ, List.drop_zero, List.drop_succ_cons, List.take_zero, List.take_succ_cons, List.reverse_cons, List.reverse_nil, List.nil_append, List.cons_append, List.map_cons, List.map_nil, List.sum_cons, List.sum_nil, Value.category, List.length_cons, List.length_nil, List.set_cons_zero, List.set_cons_succ, Option.toList_some, Option.toList_none, lv_args, ↓reduceIte, Nat.reduceAdd, Nat.reduceSub, Nat.reduceMul, Nat.reduceEqDiff, Nat.reduceLeDiff, Nat.reduceLT, reduceCtorEq, Bool.false_eq_true, and_true, true_and, and_self, and_false, false_and, Nat.zero_add, Nat.le_refl, Nat.zero_le, true_or, or_true, not_true_eq_false, not_false_eq_true, forall_const, false_implies, implies_true, true_implies, Int32.reduceAdd, Int32.reduceLE, Int32.reduceLT, Int32.reduceSub, Int32.reduceMul, Int32.reduceToNatClampNeg, og_36, oi_36, ef_36_4, ef_36_19, ef_36_20, ef_36_21, ef_36_22, ef_36_23, og_37, oi_37, oq_37, es_37, og_38, oi_38, oq_38, es_38, og_39, oi_39, oq_39, es_39, og_40, oi_40, oq_40, es_40, og_41, oi_41, es_41, og_42, oi_42, oq_42, es_42, og_43, oi_43, oq_43, es_43, og_44, oi_44, oq_44, es_44, og_45, oi_45, oq_45, es_45, og_46, oi_46, oq_46, es_46, og_47, oi_47, oq_47, es_47, og_48, oi_48, oq_48, es_48, og_49, oi_49, oq_49, es_49, og_50, oi_50, oq_50, es_50, og_51, oi_51, es_51, og_52, oi_52, oq_52, es_52, og_53, oi_53, oq_53, es_53, og_54, oi_54, oq_54, es_54, og_55, oi_55, oq_55, es_55, og_56, oi_56, oq_56, es_56, og_57, oi_57, oq_57, es_57, og_58, oi_58, oq_58, es_58, sI_1, sI_2, sL_1, sL_2, sL_3, sF_1, sF_2, sF_3, sI_sI, nI_1, nI_clamp (show i < 2 ^ 31 by omega), nar1]
      refine ⟨fun q1 => ⟨hv, ih (i + 1) (by omega) _ (step 1 ?_)⟩, fun q1 => ?_⟩
      · have h1 := (nI_gt0 (by omega)).mp q1
        rw [if_pos (by unfold fex; rw [decide_eq_true h1]; rfl)]
      · have h1 : ¬ 0 < nof (q_nm m) i := fun h => q1 ((nI_gt0 (by omega)).mpr h)
        refine o_use (x_opensF G (sI τ 41 g) m hO.2.2.2.1 ho hz hi) ?_
        rintro w h' ⟨rfl, rfl⟩
        refine s_X_sweep_108 _ _ _ _ _ ?_
        simp only [k_X_sweep_108, o_iconst, o_lconst, o_iload, o_lload, o_aload, o_istore, o_lstore, o_astore, o_iinc, o_iadd, o_isub, o_imul, o_iand, o_ior, o_idiv, o_irem, o_lor, o_lushr, o_lshl, o_i2l, o_l2i, o_lcmp, o_dup, o_pop, o_dup2, o_ifeq, o_ifne, o_iflt, o_ifge, o_ifgt, o_ifle, o_icmpeq, o_icmpne, o_icmplt, o_icmpge, o_icmpgt, o_icmple, o_jmp, o_tsw, o_iret, o_zret, o_lret, o_vret, o_getf, o_putfI, o_putfR, o_iald, o_alen, o_lald, o_zald, o_iast, o_last, o_zast, o_aald, o_aast, o_new, o_newa, o_callS, o_callI, o_callV, o_objInit, o_mmax, o_mmin, o_lk, o_up1, o_up2, o_cl1, o_cl2, o_keep, o_c2, List.getElem?_cons_zero, List.getElem?_cons_succ, List.drop_zero, List.drop_succ_cons, List.take_zero, List.take_succ_cons, List.reverse_cons, List.reverse_nil, List.nil_append, List.cons_append, List.map_cons, List.map_nil, List.sum_cons, List.sum_nil, Value.category, List.length_cons, List.length_nil, List.set_cons_zero, List.set_cons_succ, Option.toList_some, Option.toList_none, lv_args, ↓reduceIte, Nat.reduceAdd, Nat.reduceSub, Nat.reduceMul, Nat.reduceEqDiff, Nat.reduceLeDiff, Nat.reduceLT, reduceCtorEq, Bool.false_eq_true, and_true, true_and, and_self, and_false, false_and, Nat.zero_add, Nat.le_refl, Nat.zero_le, true_or, or_true, not_true_eq_false, not_false_eq_true, forall_const, false_implies, implies_true, true_implies, Int32.reduceAdd, Int32.reduceLE, Int32.reduceLT, Int32.reduceSub, Int32.reduceMul, Int32.reduceToNatClampNeg, og_36, oi_36, ef_36_4, ef_36_19, ef_36_20, ef_36_21, ef_36_22, ef_36_23, og_37, oi_37, oq_37, es_37, og_38, oi_38, oq_38, es_38, og_39, oi_39, oq_39, es_39, og_40, oi_40, oq_40, es_40, og_41, oi_41, es_41, og_42, oi_42, oq_42, es_42, og_43, oi_43, oq_43, es_43, og_44, oi_44, oq_44, es_44, og_45, oi_45, oq_45, es_45, og_46, oi_46, oq_46, es_46, og_47, oi_47, oq_47, es_47, og_48, oi_48, oq_48, es_48, og_49, oi_49, oq_49, es_49, og_50, oi_50, oq_50, es_50, og_51, oi_51, es_51, og_52, oi_52, oq_52, es_52, og_53, oi_53, oq_53, es_53, og_54, oi_54, oq_54, es_54, og_55, oi_55, oq_55, es_55, og_56, oi_56, oq_56, es_56, og_57, oi_57, oq_57, es_57, og_58, oi_58, oq_58, es_58, sI_1, sI_2, sL_1, sL_2, sL_3, sF_1, sF_2, sF_3, sI_sI, nI_1, nI_clamp (show i < 2 ^ 31 by omega), nar0, nar1]
        refine ⟨fun q2 => ⟨hv, ih (i + 1) (by omega) _ (step 0 ?_)⟩, fun q2 => ⟨hv, ih (i + 1) (by omega) _ (step 1 ?_)⟩⟩
        · have h2 := (nI_leZ (by omega)).mp q2
          rw [if_neg (by unfold fex; rw [decide_eq_false h1, decide_eq_false (by omega)]; decide)]
        · have h2 : 0 < opn m i 3 := Classical.byContradiction fun h => q2 ((nI_leZ (by omega)).mpr (by omega))
          rw [if_pos (by unfold fex; rw [decide_eq_true h2, Bool.or_true])]
def pzF (τ : oT) (m : MS) (i j : Nat) : Int32 := if j < i then (if pex m j = true then 1 else 0) else τ.1 51 j
theorem pex_or {m : MS} (hO : OkD m) {q : Nat} : (0 < opn m (6 + q) 3 ↔ (0 < opn m (6 + q) 1 ∨ 0 < opn m (6 + q) 2)) := by
  have key : ∀ g o, o < 8 → opF m (6 + q) g o = true → (has (q_ds m) o = true ∧ q_tg m o = 6 + q ∧ ¬ q_md m o &&& g = 0) := fun g o _ h => by
    unfold opF at h
    simp only [Bool.and_eq_true, Bool.not_eq_true', decide_eq_true_eq, decide_eq_false_iff_not] at h
    exact h
  have mk : ∀ g o, o < 8 → has (q_ds m) o = true → q_tg m o = 6 + q → ¬ q_md m o &&& g = 0 → 0 < opn m (6 + q) g := fun g o h8 h1 h2 h3 => by
    unfold opn
    refine cnt_pos (j := o) h8 ?_
    unfold opF
    rw [h1, decide_eq_true h2, decide_eq_false h3]
    rfl
  refine ⟨fun h => ?_, fun h => ?_⟩
  · obtain ⟨o, h8, h1⟩ := cnt_ex h
    obtain ⟨a1, a2, a3⟩ := key 3 o h8 h1
    obtain ⟨k1, k2, k3, k4, k5⟩ := hO.2 o h8 a1
    rcases k5 (by omega) with e | e
    · exact Or.inl (mk 1 o h8 a1 a2 (by rw [e]; decide))
    · exact Or.inr (mk 2 o h8 a1 a2 (by rw [e]; decide))
  · rcases h with h | h
    · obtain ⟨o, h8, h1⟩ := cnt_ex h
      obtain ⟨a1, a2, a3⟩ := key 1 o h8 h1
      obtain ⟨k1, k2, k3, k4, k5⟩ := hO.2 o h8 a1
      exact mk 3 o h8 a1 a2 (md3 _ k3 k2)
    · obtain ⟨o, h8, h1⟩ := cnt_ex h
      obtain ⟨a1, a2, a3⟩ := key 2 o h8 h1
      obtain ⟨k1, k2, k3, k4, k5⟩ := hO.2 o h8 a1
      exact mk 3 o h8 a1 a2 (md3 _ k3 k2)
theorem sw_c (G : oG) (τ : oT) (m : MS) (hO : Ok m) (ho : XMo m τ) (hz : ∀ o, o < 8 → has (q_ds m) o = false → τ.1 47 o = 0) (hf : XMq m τ) (Post : oP) (hP : ∀ g : Nat → Int32, (∀ j, j < 2 → g j = pzF τ m 2 j) → Post none (enc (sI τ 51 g))) : ∀ k i : Nat, i + k = 2 → ∀ g : Nat → Int32, (∀ j, j < 2 → g j = pzF τ m i j) → Wp G m_X_sweep Post 125 0 0 [(0, .ref 37), (1, .int (nI i))] [] (enc (sI τ 51 g)) := by
  intro k
  induction k with
  | zero =>
    intro i hk g hg
    have e : i = 2 := by omega
    subst e
    refine s_X_sweep_125 _ _ _ _ _ ?_
    simp only [k_X_sweep_125, o_iconst, o_lconst, o_iload, o_lload, o_aload, o_istore, o_lstore, o_astore, o_iinc, o_iadd, o_isub, o_imul, o_iand, o_ior, o_idiv, o_irem, o_lor, o_lushr, o_lshl, o_i2l, o_l2i, o_lcmp, o_dup, o_pop, o_dup2, o_ifeq, o_ifne, o_iflt, o_ifge, o_ifgt, o_ifle, o_icmpeq, o_icmpne, o_icmplt, o_icmpge, o_icmpgt, o_icmple, o_jmp, o_tsw, o_iret, o_zret, o_lret, o_vret, o_getf, o_putfI, o_putfR, o_iald, o_alen, o_lald, o_zald, o_iast, o_last, o_zast, o_aald, o_aast, o_new, o_newa, o_callS, o_callI, o_callV, o_objInit, o_mmax, o_mmin, o_lk, o_up1, o_up2, o_cl1, o_cl2, o_keep, o_c2, List.getElem?_cons_zero, List.getElem?_cons_succ, List.drop_zero, List.drop_succ_cons, List.take_zero, List.take_succ_cons, List.reverse_cons, List.reverse_nil, List.nil_append, List.cons_append, List.map_cons, List.map_nil, List.sum_cons, List.sum_nil, Value.category, List.length_cons, List.length_nil, List.set_cons_zero, List.set_cons_succ, Option.toList_some, Option.toList_none, lv_args, ↓reduceIte, Nat.reduceAdd, Nat.reduceSub, Nat.reduceMul, Nat.reduceEqDiff, Nat.reduceLeDiff, Nat.reduceLT, reduceCtorEq, Bool.false_eq_true, and_true, true_and, and_self, and_false, false_and, Nat.zero_add, Nat.le_refl, Nat.zero_le, true_or, or_true, not_true_eq_false, not_false_eq_true, forall_const, false_implies, implies_true, true_implies, Int32.reduceAdd, Int32.reduceLE, Int32.reduceLT, Int32.reduceSub, Int32.reduceMul, Int32.reduceToNatClampNeg, og_36, oi_36, ef_36_4, ef_36_19, ef_36_20, ef_36_21, ef_36_22, ef_36_23, og_37, oi_37, oq_37, es_37, og_38, oi_38, oq_38, es_38, og_39, oi_39, oq_39, es_39, og_40, oi_40, oq_40, es_40, og_41, oi_41, es_41, og_42, oi_42, oq_42, es_42, og_43, oi_43, oq_43, es_43, og_44, oi_44, oq_44, es_44, og_45, oi_45, oq_45, es_45, og_46, oi_46, oq_46, es_46, og_47, oi_47, oq_47, es_47, og_48, oi_48, oq_48, es_48, og_49, oi_49, oq_49, es_49, og_50, oi_50, oq_50, es_50, og_51, oi_51, es_51, og_52, oi_52, oq_52, es_52, og_53, oi_53, oq_53, es_53, og_54, oi_54, oq_54, es_54, og_55, oi_55, oq_55, es_55, og_56, oi_56, oq_56, es_56, og_57, oi_57, oq_57, es_57, og_58, oi_58, oq_58, es_58]
    exact ⟨fun _ => hP g hg, fun q => absurd (nI_le (Nat.le_refl 2) (by decide)) q⟩
  | succ k ih =>
    intro i hk g hg
    have hi : i < 2 := by omega
    have hv : vp_in (nI i) 2 := vp_in_nI hi (by decide)
    have step : ∀ v : Int32, v = (if pex m i = true then 1 else 0) → ∀ j, j < 2 → upd g i v j = pzF τ m (i + 1) j := fun v hv j hj => by
      simp only [upd]
      by_cases e : j = i
      · subst e
        rw [if_pos rfl, pzF, if_pos (by omega), hv]
      · rw [if_neg e, hg j hj]
        unfold pzF
        by_cases c : j < i
        · rw [if_pos c, if_pos (show j < i + 1 by omega)]
        · rw [if_neg c, if_neg (show ¬ j < i + 1 by omega)]
    have hgi : g i = τ.1 51 i := by rw [hg i hi, pzF, if_neg (by omega)]
    have n8 : opn m (6 + i) 1 ≤ 8 := cnt_le _ _
    have o8 : opn m (6 + i) 2 ≤ 8 := cnt_le _ _
    have hor := pex_or hO.2.2.2.1 (q := i)
    refine s_X_sweep_125 _ _ _ _ _ ?_
    simp only [k_X_sweep_125, o_iconst, o_lconst, o_iload, o_lload, o_aload, o_istore, o_lstore, o_astore, o_iinc, o_iadd, o_isub, o_imul, o_iand, o_ior, o_idiv, o_irem, o_lor, o_lushr, o_lshl, o_i2l, o_l2i, o_lcmp, o_dup, o_pop, o_dup2, o_ifeq, o_ifne, o_iflt, o_ifge, o_ifgt, o_ifle, o_icmpeq, o_icmpne, o_icmplt, o_icmpge, o_icmpgt, o_icmple, o_jmp, o_tsw, o_iret, o_zret, o_lret, o_vret, o_getf, o_putfI, o_putfR, o_iald, o_alen, o_lald, o_zald, o_iast, o_last, o_zast, o_aald, o_aast, o_new, o_newa, o_callS, o_callI, o_callV, o_objInit, o_mmax, o_mmin, o_lk, o_up1, o_up2, o_cl1, o_cl2, o_keep, o_c2, List.getElem?_cons_zero, List.getElem?_cons_succ, List.drop_zero, List.drop_succ_cons, List.take_zero, List.take_succ_cons, List.reverse_cons, List.reverse_nil, List.nil_append, List.cons_append, List.map_cons, List.map_nil, List.sum_cons, List.sum_nil, Value.category, List.length_cons, List.length_nil, List.set_cons_zero, List.set_cons_succ, Option.toList_some, Option.toList_none, lv_args, ↓reduceIte, Nat.reduceAdd, Nat.reduceSub, Nat.reduceMul, Nat.reduceEqDiff, Nat.reduceLeDiff, Nat.reduceLT, reduceCtorEq, Bool.false_eq_true, and_true, true_and, and_self, and_false, false_and, Nat.zero_add, Nat.le_refl, Nat.zero_le, true_or, or_true, not_true_eq_false, not_false_eq_true, forall_const, false_implies, implies_true, true_implies, Int32.reduceAdd, Int32.reduceLE, Int32.reduceLT, Int32.reduceSub, Int32.reduceMul, Int32.reduceToNatClampNeg, og_36, oi_36, ef_36_4, ef_36_19, ef_36_20, ef_36_21, ef_36_22, ef_36_23, og_37, oi_37, oq_37, es_37, og_38, oi_38, oq_38, es_38, og_39, oi_39, oq_39, es_39, og_40, oi_40, oq_40, es_40, og_41, oi_41, es_41, og_42, oi_42, oq_42, es_42, og_43, oi_43, oq_43, es_43, og_44, oi_44, oq_44, es_44, og_45, oi_45, oq_45, es_45, og_46, oi_46, oq_46, es_46, og_47, oi_47, oq_47, es_47, og_48, oi_48, oq_48, es_48, og_49, oi_49, oq_49, es_49, og_50, oi_50, oq_50, es_50, og_51, oi_51, es_51, og_52, oi_52, oq_52, es_52, og_53, oi_53, oq_53, es_53, og_54, oi_54, oq_54, es_54, og_55, oi_55, oq_55, es_55, og_56, oi_56, oq_56, es_56, og_57, oi_57, oq_57, es_57, og_58, oi_58, oq_58, es_58, sI_1, sI_2, sL_1, sL_2, sL_3, sF_1, sF_2, sF_3, sI_sI, nI_1, nI_clamp (show i < 2 ^ 31 by omega), nar0]
    refine ⟨fun q => absurd q (nI_ge (b := 2) hi (by decide)), fun _ => ⟨hv, fun q => ⟨hv, ?_⟩, fun q => ?_⟩⟩
    · refine ih (i + 1) (by omega) _ (step 0 ?_)
      cases hh : pex m i with
      | false => rfl
      | true =>
        rw [hgi, (hf i hi hh).1] at q
        exact absurd q (by decide)
    · refine o_use (x_opensR G (sI τ 51 g) m hO.2.2.2.1 ho hz hi) ?_
      rintro w h' ⟨rfl, rfl⟩
      refine s_X_sweep_150 _ _ _ _ _ ?_
      simp only [k_X_sweep_150, o_iconst, o_lconst, o_iload, o_lload, o_aload, o_istore, o_lstore, o_astore, o_iinc, o_iadd, o_isub, o_imul, o_iand, o_ior, o_idiv, o_irem, o_lor, o_lushr, o_lshl, o_i2l, o_l2i, o_lcmp, o_dup, o_pop, o_dup2, o_ifeq, o_ifne, o_iflt, o_ifge, o_ifgt, o_ifle, o_icmpeq, o_icmpne, o_icmplt, o_icmpge, o_icmpgt, o_icmple, o_jmp, o_tsw, o_iret, o_zret, o_lret, o_vret, o_getf, o_putfI, o_putfR, o_iald, o_alen, o_lald, o_zald, o_iast, o_last, o_zast, o_aald, o_aast, o_new, o_newa, o_callS, o_callI, o_callV, o_objInit, o_mmax, o_mmin, o_lk, o_up1, o_up2, o_cl1, o_cl2, o_keep, o_c2, List.getElem?_cons_zero, List.getElem?_cons_succ, List.drop_zero, List.drop_succ_cons, List.take_zero, List.take_succ_cons, List.reverse_cons, List.reverse_nil, List.nil_append, List.cons_append, List.map_cons, List.map_nil, List.sum_cons, List.sum_nil, Value.category, List.length_cons, List.length_nil, List.set_cons_zero, List.set_cons_succ, Option.toList_some, Option.toList_none, lv_args, ↓reduceIte, Nat.reduceAdd, Nat.reduceSub, Nat.reduceMul, Nat.reduceEqDiff, Nat.reduceLeDiff, Nat.reduceLT, reduceCtorEq, Bool.false_eq_true, and_true, true_and, and_self, and_false, false_and, Nat.zero_add, Nat.le_refl, Nat.zero_le, true_or, or_true, not_true_eq_false, not_false_eq_true, forall_const, false_implies, implies_true, true_implies, Int32.reduceAdd, Int32.reduceLE, Int32.reduceLT, Int32.reduceSub, Int32.reduceMul, Int32.reduceToNatClampNeg, og_36, oi_36, ef_36_4, ef_36_19, ef_36_20, ef_36_21, ef_36_22, ef_36_23, og_37, oi_37, oq_37, es_37, og_38, oi_38, oq_38, es_38, og_39, oi_39, oq_39, es_39, og_40, oi_40, oq_40, es_40, og_41, oi_41, es_41, og_42, oi_42, oq_42, es_42, og_43, oi_43, oq_43, es_43, og_44, oi_44, oq_44, es_44, og_45, oi_45, oq_45, es_45, og_46, oi_46, oq_46, es_46, og_47, oi_47, oq_47, es_47, og_48, oi_48, oq_48, es_48, og_49, oi_49, oq_49, es_49, og_50, oi_50, oq_50, es_50, og_51, oi_51, es_51, og_52, oi_52, oq_52, es_52, og_53, oi_53, oq_53, es_53, og_54, oi_54, oq_54, es_54, og_55, oi_55, oq_55, es_55, og_56, oi_56, oq_56, es_56, og_57, oi_57, oq_57, es_57, og_58, oi_58, oq_58, es_58, sI_1, sI_2, sL_1, sL_2, sL_3, sF_1, sF_2, sF_3, sI_sI, nI_1, nI_clamp (show i < 2 ^ 31 by omega), nar1]
      refine ⟨fun q1 => ⟨hv, ih (i + 1) (by omega) _ (step 1 ?_)⟩, fun q1 => ?_⟩
      · have h1 := (nI_gt0 (by omega)).mp q1
        rw [if_pos (by unfold pex; exact decide_eq_true (hor.mpr (Or.inl h1)))]
      · have h1 : ¬ 0 < opn m (6 + i) 1 := fun h => q1 ((nI_gt0 (by omega)).mpr h)
        refine o_use (x_opensW G (sI τ 51 g) m hO.2.2.2.1 ho hz hi) ?_
        rintro w h' ⟨rfl, rfl⟩
        refine s_X_sweep_159 _ _ _ _ _ ?_
        simp only [k_X_sweep_159, o_iconst, o_lconst, o_iload, o_lload, o_aload, o_istore, o_lstore, o_astore, o_iinc, o_iadd, o_isub, o_imul, o_iand, o_ior, o_idiv, o_irem, o_lor, o_lushr, o_lshl, o_i2l, o_l2i, o_lcmp, o_dup, o_pop, o_dup2, o_ifeq, o_ifne, o_iflt, o_ifge, o_ifgt, o_ifle, o_icmpeq, o_icmpne, o_icmplt, o_icmpge, o_icmpgt, o_icmple, o_jmp, o_tsw, o_iret, o_zret, o_lret, o_vret, o_getf, o_putfI, o_putfR, o_iald, o_alen, o_lald, o_zald, o_iast, o_last, o_zast, o_aald, o_aast, o_new, o_newa, o_callS, o_callI, o_callV, o_objInit, o_mmax, o_mmin, o_lk, o_up1, o_up2, o_cl1, o_cl2, o_keep, o_c2, List.getElem?_cons_zero, List.getElem?_cons_succ, List.drop_zero, List.drop_succ_cons, List.take_zero, List.take_succ_cons, List.reverse_cons, List.reverse_nil, List.nil_append, List.cons_append, List.map_cons, List.map_nil, List.sum_cons, List.sum_nil, Value.category, List.length_cons, List.length_nil, List.set_cons_zero, List.set_cons_succ, Option.toList_some, Option.toList_none, lv_args, ↓reduceIte, Nat.reduceAdd, Nat.reduceSub, Nat.reduceMul, Nat.reduceEqDiff, Nat.reduceLeDiff, Nat.reduceLT, reduceCtorEq, Bool.false_eq_true, and_true, true_and, and_self, and_false, false_and, Nat.zero_add, Nat.le_refl, Nat.zero_le, true_or, or_true, not_true_eq_false, not_false_eq_true, forall_const, false_implies, implies_true, true_implies, Int32.reduceAdd, Int32.reduceLE, Int32.reduceLT, Int32.reduceSub, Int32.reduceMul, Int32.reduceToNatClampNeg, og_36, oi_36, ef_36_4, ef_36_19, ef_36_20, ef_36_21, ef_36_22, ef_36_23, og_37, oi_37, oq_37, es_37, og_38, oi_38, oq_38, es_38, og_39, oi_39, oq_39, es_39, og_40, oi_40, oq_40, es_40, og_41, oi_41, es_41, og_42, oi_42, oq_42, es_42, og_43, oi_43, oq_43, es_43, og_44, oi_44, oq_44, es_44, og_45, oi_45, oq_45, es_45, og_46, oi_46, oq_46, es_46, og_47, oi_47, oq_47, es_47, og_48, oi_48, oq_48, es_48, og_49, oi_49, oq_49, es_49, og_50, oi_50, oq_50, es_50, og_51, oi_51, es_51, og_52, oi_52, oq_52, es_52, og_53, oi_53, oq_53, es_53, og_54, oi_54, oq_54, es_54, og_55, oi_55, oq_55, es_55, og_56, oi_56, oq_56, es_56, og_57, oi_57, oq_57, es_57, og_58, oi_58, oq_58, es_58, sI_1, sI_2, sL_1, sL_2, sL_3, sF_1, sF_2, sF_3, sI_sI, nI_1, nI_clamp (show i < 2 ^ 31 by omega), nar0, nar1]
        refine ⟨fun q2 => ⟨hv, ih (i + 1) (by omega) _ (step 0 ?_)⟩, fun q2 => ⟨hv, ih (i + 1) (by omega) _ (step 1 ?_)⟩⟩
        · have h2 := (nI_leZ (by omega)).mp q2
          have h3 : ¬ pex m i = true := fun h => by
            rcases hor.mp (of_decide_eq_true h) with h4 | h4
            · exact h1 h4
            · omega
          rw [if_neg h3]
        · have h2 : 0 < opn m (6 + i) 2 := Classical.byContradiction fun h => q2 ((nI_leZ (by omega)).mpr (by omega))
          rw [if_pos (by unfold pex; exact decide_eq_true (hor.mpr (Or.inr h2)))]
theorem x_sweep (G : oG) (σ : oT) (m : MS) (hO : Ok m) (hR : RMp m σ) : Mt G m_X_sweep [.ref 37] (enc σ) 0 0 (fun v h' => v = none ∧ ∃ τ : oT, h' = enc τ ∧ RM m τ ∧ frX σ τ ∧ τ.2.2 = σ.2.2) := by
  refine Mt.of (by decide) (Nat.le_of_ble_eq_true rfl) (s_X_sweep_0 _ _ _ _ _ ?_)
  simp only [k_X_sweep_0, o_iconst, o_lconst, o_iload, o_lload, o_aload, o_istore, o_lstore, o_astore, o_iinc, o_iadd, o_isub, o_imul, o_iand, o_ior, o_idiv, o_irem, o_lor, o_lushr, o_lshl, o_i2l, o_l2i, o_lcmp, o_dup, o_pop, o_dup2, o_ifeq, o_ifne, o_iflt, o_ifge, o_ifgt, o_ifle, o_icmpeq, o_icmpne, o_icmplt, o_icmpge, o_icmpgt, o_icmple, o_jmp, o_tsw, o_iret, o_zret, o_lret, o_vret, o_getf, o_putfI, o_putfR, o_iald, o_alen, o_lald, o_zald, o_iast, o_last, o_zast, o_aald, o_aast, o_new, o_newa, o_callS, o_callI, o_callV, o_objInit, o_mmax, o_mmin, o_lk, o_up1, o_up2, o_cl1, o_cl2, o_keep, o_c2, List.getElem?_cons_zero, List.getElem?_cons_succ, List.drop_zero, List.drop_succ_cons, List.take_zero, List.take_succ_cons, List.reverse_cons, List.reverse_nil, List.nil_append, List.cons_append, List.map_cons, List.map_nil, List.sum_cons, List.sum_nil, Value.category, List.length_cons, List.length_nil, List.set_cons_zero, List.set_cons_succ, Option.toList_some, Option.toList_none, lv_args, ↓reduceIte, Nat.reduceAdd, Nat.reduceSub, Nat.reduceMul, Nat.reduceEqDiff, Nat.reduceLeDiff, Nat.reduceLT, reduceCtorEq, Bool.false_eq_true, and_true, true_and, and_self, and_false, false_and, Nat.zero_add, Nat.le_refl, Nat.zero_le, true_or, or_true, not_true_eq_false, not_false_eq_true, forall_const, false_implies, implies_true, true_implies, Int32.reduceAdd, Int32.reduceLE, Int32.reduceLT, Int32.reduceSub, Int32.reduceMul, Int32.reduceToNatClampNeg]
  obtain ⟨h1, h2, h3, h4, h5, h6, h7, h8, h9⟩ := hR
  have ea : sI σ 47 (σ.1 47) = σ := sI_id σ 47
  have start := sw_a G σ m hO.2.2.2.1 h6 (fun v h' => v = none ∧ ∃ τ : oT, h' = enc τ ∧ RM m τ ∧ frX σ τ ∧ τ.2.2 = σ.2.2) (fun g hg => by
    have ho : XMo m (sI σ 47 g) := fun o ho8 hh => by
      obtain ⟨r1, r2⟩ := h7 o ho8 hh
      refine ⟨?_, r2⟩
      show g o = _
      rw [hg o ho8, kzF, if_neg (fun c => by rw [hh] at c; cases c.2)]
      exact r1
    have hz : ∀ o, o < 8 → has (q_ds m) o = false → (sI σ 47 g).1 47 o = 0 := fun o ho8 hh => by
      show g o = 0
      rw [hg o ho8, kzF, if_pos ⟨ho8, hh⟩]
    have eb : sI (sI σ 47 g) 41 ((sI σ 47 g).1 41) = sI σ 47 g := sI_id (sI σ 47 g) 41
    have sb := sw_b G (sI σ 47 g) m hO h5 ho hz h8 (fun v h' => v = none ∧ ∃ τ : oT, h' = enc τ ∧ RM m τ ∧ frX σ τ ∧ τ.2.2 = σ.2.2) (fun f hf => by
      have hf2 : XMf m (sI (sI σ 47 g) 41 f) := fun j hj hh => by
        obtain ⟨r1, r2⟩ := h8 j hj hh
        refine ⟨?_, r2⟩
        show f j = 1
        rw [hf j hj, fzF, if_pos hj, if_pos hh]
      have ec : sI (sI (sI σ 47 g) 41 f) 51 ((sI (sI σ 47 g) 41 f).1 51) = sI (sI σ 47 g) 41 f := sI_id (sI (sI σ 47 g) 41 f) 51
      have sc := sw_c G (sI (sI σ 47 g) 41 f) m hO ho hz h9 (fun v h' => v = none ∧ ∃ τ : oT, h' = enc τ ∧ RM m τ ∧ frX σ τ ∧ τ.2.2 = σ.2.2) (fun p hp => by
        refine ⟨rfl, _, rfl, ⟨⟨h1, h2, h3, h4, h5, h6, ho, hf2, fun j hj hh => ?_⟩, hz, fun j hj hh => ?_, fun j hj hh => ?_⟩, frX_sI (frX_sI (frX_sI (frX_r σ) (by decide)) (by decide)) (by decide), rfl⟩
        · obtain ⟨r1, r2⟩ := h9 j hj hh
          refine ⟨?_, r2⟩
          show p j = 1
          rw [hp j hj, pzF, if_pos hj, if_pos hh]
        · show f j = 0
          rw [hf j hj, fzF, if_pos hj, if_neg (by rw [hh]; decide)]
        · show p j = 0
          rw [hp j hj, pzF, if_pos hj, if_neg (by rw [hh]; decide)]) 2 0 (by decide) _ (fun j hj => by rw [pzF, if_neg (by omega)])
      rw [ec] at sc
      exact sc) 6 0 (by decide) _ (fun j hj => by rw [fzF, if_neg (by omega)])
    rw [eb] at sb
    exact sb) 8 0 (by decide) (σ.1 47) (fun j hj => by rw [kzF, if_neg (by omega)])
  rw [ea] at start
  exact start
