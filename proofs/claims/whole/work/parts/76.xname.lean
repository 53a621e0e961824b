/-! The second side looks a name up. -/
/-- the second side's text w holds these bytes -/
def TX (σ : oT) (w : Nat) (bs : List Nat) : Prop := σ.1 58 w = nI bs.length ∧ ∀ j, j < bs.length → σ.1 57 (8 * w + j) = nI (bs.getD j 0)
def nmX (nb : Nat → List Nat) (bs : List Nat) : Nat → Bool := fun n => !(nb n).isEmpty && decide (nb n = bs)
theorem isn_no (G : oG) (σ : oT) {n w L : Nat} (hw : w < 2) (hL : σ.1 58 w = nI L) (i : Nat) (Post : oP) (hP : Post (some (.int 0)) (enc σ)) : Wp G m_X_isName Post 33 0 0 [(0, .ref 37), (1, .int (nI n)), (2, .int (nI w)), (3, .int 0), (4, .int (nI i))] [] (enc σ) := by
  refine s_X_isName_33 _ _ _ _ _ ?_
  simp only [k_X_isName_33, o_iconst, o_lconst, o_iload, o_lload, o_aload, o_istore, o_lstore, o_astore, o_iinc, o_iadd, o_isub, o_imul, o_iand, o_ior, o_idiv, o_irem, o_lor, o_lushr, o_lshl, o_i2l, o_l2i, o_lcmp, o_dup, o_pop, o_dup2, o_ifeq, o_ifne, o_iflt, o_ifge, o_ifgt, o_ifle, o_icmpeq, o_icmpne, o_icmplt, o_icmpge, o_icmpgt, o_icmple, o_jmp, o_tsw, o_iret, o_zret, o_lret, o_vret, o_getf, o_putfI, o_putfR, o_iald, o_alen, o_lald, o_zald, o_iast, o_last, o_zast, o_aald, o_aast, o_new, o_newa, o_callS, o_callI, o_callV, o_objInit, o_mmax, o_mmin, o_lk, o_up1, o_up2, o_cl1, o_cl2, o_keep, o_c2, List.getElem?_cons_zero, List.getElem?_cons_succ, List.drop_zero, List.drop_succ_cons, List.take_zero, List.take_succ_cons, List.reverse_cons, List.reverse_nil, List.nil_append, List.cons_append, List.map_cons, List.map_nil, List.sum_cons, List.sum_nil, Value.category, List.length_cons, List.length_nil, List.set_cons_zero, List.set_cons_succ, Option.toList_some, Option.toList_none, lv_args, ↓reduceIte, Nat.reduceAdd, Nat.reduceSub, Nat.reduceMul, Nat.reduceEqDiff, Nat.reduceLeDiff, Nat.reduceLT, reduceCtorEq, Bool.false_eq_true, and_true, true_and, and_self, and_false, false_and, Nat.zero_add, Nat.le_refl, Nat.zero_le, true_or, or_true, not_true_eq_false, not_false_eq_true, forall_const, false_implies, implies_true, true_implies, Int32.reduceAdd, Int32.reduceLE, Int32.reduceLT, Int32.reduceSub, Int32.reduceMul, Int32.reduceToNatClampNeg, og_36, oi_36, ef_36_4, ef_36_19, ef_36_20, ef_36_21, ef_36_22, ef_36_23, og_37, oi_37, oq_37, es_37, og_38, oi_38, oq_38, es_38, og_39, oi_39, oq_39, es_39, og_40, oi_40, oq_40, es_40, og_41, oi_41, es_41, og_42, oi_42, oq_42, es_42, og_43, oi_43, oq_43, es_43, og_44, oi_44, oq_44, es_44, og_45, oi_45, oq_45, es_45, og_46, oi_46, oq_46, es_46, og_47, oi_47, oq_47, es_47, og_48, oi_48, oq_48, es_48, og_49, oi_49, oq_49, es_49, og_50, oi_50, oq_50, es_50, og_51, oi_51, es_51, og_52, oi_52, oq_52, es_52, og_53, oi_53, oq_53, es_53, og_54, oi_54, oq_54, es_54, og_55, oi_55, oq_55, es_55, og_56, oi_56, oq_56, es_56, og_57, oi_57, oq_57, es_57, og_58, oi_58, oq_58, es_58, nI_clamp (show w < 2 ^ 31 by omega)]
  exact ⟨vp_in_nI hw (by decide), fun _ => hP, fun _ => hP⟩
theorem isn_loop (G : oG) (σ : oT) {n w : Nat} {s bs : List Nat} (hn : n < 8) (hw : w < 2) (hl : s.length = bs.length) (h7 : s.length ≤ 7) (hs : ∀ b ∈ s, 0 < b ∧ b < 256) (hb : ∀ b ∈ bs, 0 < b ∧ b < 256) (h5 : ∀ i, i < s.length → σ.1 45 (8 * n + i) = nI (s.getD i 0)) (ht : TX σ w bs) (Post : oP) (hP : Post (some (.int (bz (decide (s = bs))))) (enc σ)) : ∀ k i : Nat, i + k = s.length → (∀ j, j < i → s.getD j 0 = bs.getD j 0) → Wp G m_X_isName Post 33 0 0 [(0, .ref 37), (1, .int (nI n)), (2, .int (nI w)), (3, .int 1), (4, .int (nI i))] [] (enc σ) := by
  intro k
  induction k with
  | zero =>
    intro i hk hi
    have e : i = s.length := by omega
    subst e
    rw [decide_eq_true (l_ext hl hi)] at hP
    refine s_X_isName_33 _ _ _ _ _ ?_
    simp only [k_X_isName_33, o_iconst, o_lconst, o_iload, o_lload, o_aload, o_istore, o_lstore, o_astore, o_iinc, o_iadd, o_isub, o_imul, o_iand, o_ior, o_idiv, o_irem, o_lor, o_lushr, o_lshl, o_i2l, o_l2i, o_lcmp, o_dup, o_pop, o_dup2, o_ifeq, o_ifne, o_iflt, o_ifge, o_ifgt, o_ifle, o_icmpeq, o_icmpne, o_icmplt, o_icmpge, o_icmpgt, o_icmple, o_jmp, o_tsw, o_iret, o_zret, o_lret, o_vret, o_getf, o_putfI, o_putfR, o_iald, o_alen, o_lald, o_zald, o_iast, o_last, o_zast, o_aald, o_aast, o_new, o_newa, o_callS, o_callI, o_callV, o_objInit, o_mmax, o_mmin, o_lk, o_up1, o_up2, o_cl1, o_cl2, o_keep, o_c2, List.getElem?_cons_zero, List.getElem?_cons_succ, List.drop_zero, List.drop_succ_cons, List.take_zero, List.take_succ_cons, List.reverse_cons, List.reverse_nil, List.nil_append, List.cons_append, List.map_cons, List.map_nil, List.sum_cons, List.sum_nil, Value.category, List.length_cons, List.length_nil, List.set_cons_zero, List.set_cons_succ, Option.toList_some, Option.toList_none, lv_args, ↓reduceIte, Nat.reduceAdd, Nat.reduceSub, Nat.reduceMul, Nat.reduceEqDiff, Nat.reduceLeDiff, Nat.reduceLT, reduceCtorEq, Bool.false_eq_true, and_true, true_and, and_self, and_false, false_and, Nat.zero_add, Nat.le_refl, Nat.zero_le, true_or, or_true, not_true_eq_false, not_false_eq_true, forall_const, false_implies, implies_true, true_implies, Int32.reduceAdd, Int32.reduceLE, Int32.reduceLT, Int32.reduceSub, Int32.reduceMul, Int32.reduceToNatClampNeg, og_36, oi_36, ef_36_4, ef_36_19, ef_36_20, ef_36_21, ef_36_22, ef_36_23, og_37, oi_37, oq_37, es_37, og_38, oi_38, oq_38, es_38, og_39, oi_39, oq_39, es_39, og_40, oi_40, oq_40, es_40, og_41, oi_41, es_41, og_42, oi_42, oq_42, es_42, og_43, oi_43, oq_43, es_43, og_44, oi_44, oq_44, es_44, og_45, oi_45, oq_45, es_45, og_46, oi_46, oq_46, es_46, og_47, oi_47, oq_47, es_47, og_48, oi_48, oq_48, es_48, og_49, oi_49, oq_49, es_49, og_50, oi_50, oq_50, es_50, og_51, oi_51, es_51, og_52, oi_52, oq_52, es_52, og_53, oi_53, oq_53, es_53, og_54, oi_54, oq_54, es_54, og_55, oi_55, oq_55, es_55, og_56, oi_56, oq_56, es_56, og_57, oi_57, oq_57, es_57, og_58, oi_58, oq_58, es_58, nI_clamp (show w < 2 ^ 31 by omega), ht.1]
    exact ⟨vp_in_nI hw (by decide), fun _ => hP, fun q => absurd (by rw [hl]; exact nI_le (Nat.le_refl _) (by omega)) q⟩
  | succ k ih =>
    intro i hk hi
    have hi7 : i < s.length := by omega
    have b1 : s.getD i 0 < 256 := by
      have : s.getD i 0 = s[i] := by simp [List.getD, hi7]
      rw [this]; exact (hs _ (List.getElem_mem hi7)).2
    have hi8 : i < bs.length := by omega
    have b2 : bs.getD i 0 < 256 := by
      have : bs.getD i 0 = bs[i] := by simp [List.getD, hi8]
      rw [this]; exact (hb _ (List.getElem_mem hi8)).2
    refine s_X_isName_33 _ _ _ _ _ ?_
    simp only [k_X_isName_33, o_iconst, o_lconst, o_iload, o_lload, o_aload, o_istore, o_lstore, o_astore, o_iinc, o_iadd, o_isub, o_imul, o_iand, o_ior, o_idiv, o_irem, o_lor, o_lushr, o_lshl, o_i2l, o_l2i, o_lcmp, o_dup, o_pop, o_dup2, o_ifeq, o_ifne, o_iflt, o_ifge, o_ifgt, o_ifle, o_icmpeq, o_icmpne, o_icmplt, o_icmpge, o_icmpgt, o_icmple, o_jmp, o_tsw, o_iret, o_zret, o_lret, o_vret, o_getf, o_putfI, o_putfR, o_iald, o_alen, o_lald, o_zald, o_iast, o_last, o_zast, o_aald, o_aast, o_new, o_newa, o_callS, o_callI, o_callV, o_objInit, o_mmax, o_mmin, o_lk, o_up1, o_up2, o_cl1, o_cl2, o_keep, o_c2, List.getElem?_cons_zero, List.getElem?_cons_succ, List.drop_zero, List.drop_succ_cons, List.take_zero, List.take_succ_cons, List.reverse_cons, List.reverse_nil, List.nil_append, List.cons_append, List.map_cons, List.map_nil, List.sum_cons, List.sum_nil, Value.category, List.length_cons, List.length_nil, List.set_cons_zero, List.set_cons_succ, Option.toList_some, Option.toList_none, lv_args, ↓reduceIte, Nat.reduceAdd, Nat.reduceSub, Nat.reduceMul, Nat.reduceEqDiff, Nat.reduceLeDiff, Nat.reduceLT, reduceCtorEq, Bool.false_eq_true, and_true, true_and, and_self, and_false, false_and, Nat.zero_add, Nat.le_refl, Nat.zero_le, true_or, or_true, not_true_eq_false, not_false_eq_true, forall_const, false_implies, implies_true, true_implies, Int32.reduceAdd, Int32.reduceLE, Int32.reduceLT, Int32.reduceSub, Int32.reduceMul, Int32.reduceToNatClampNeg, og_36, oi_36, ef_36_4, ef_36_19, ef_36_20, ef_36_21, ef_36_22, ef_36_23, og_37, oi_37, oq_37, es_37, og_38, oi_38, oq_38, es_38, og_39, oi_39, oq_39, es_39, og_40, oi_40, oq_40, es_40, og_41, oi_41, es_41, og_42, oi_42, oq_42, es_42, og_43, oi_43, oq_43, es_43, og_44, oi_44, oq_44, es_44, og_45, oi_45, oq_45, es_45, og_46, oi_46, oq_46, es_46, og_47, oi_47, oq_47, es_47, og_48, oi_48, oq_48, es_48, og_49, oi_49, oq_49, es_49, og_50, oi_50, oq_50, es_50, og_51, oi_51, es_51, og_52, oi_52, oq_52, es_52, og_53, oi_53, oq_53, es_53, og_54, oi_54, oq_54, es_54, og_55, oi_55, oq_55, es_55, og_56, oi_56, oq_56, es_56, og_57, oi_57, oq_57, es_57, og_58, oi_58, oq_58, es_58, nI_clamp (show w < 2 ^ 31 by omega), ht.1, ix8, nI_1, nI_clamp (show 8 * n + i < 2 ^ 31 by omega), nI_clamp (show 8 * w + i < 2 ^ 31 by omega), h5 i hi7, ht.2 i hi8]
    refine ⟨vp_in_nI hw (by decide), fun q => absurd q (nI_ge (by omega) (by omega)), fun _ => ⟨fun q => absurd q i01, fun _ => ⟨vp_in_nI (by omega) (by decide), vp_in_nI (by omega) (by decide), fun q => ?_, fun q => ?_⟩⟩⟩
    · have hne : ¬ s = bs := fun e => q (by rw [e])
      rw [decide_eq_false hne] at hP
      exact isn_no G σ hw ht.1 (i + 1) Post hP
    · have e := (nI_eq (by omega) (by omega)).mp q
      exact ih (i + 1) (by omega) (fun j hj => by
        by_cases c : j = i
        · rw [c]; exact e
        · exact hi j (by omega))
theorem x_isName (G : oG) (σ : oT) {nb : Nat → List Nat} {nf : Nat → Nat} (hx : XNm nb nf σ) {n w : Nat} {bs : List Nat} (hn : n < 8) (hw : w < 2) (h7 : bs.length ≤ 7) (hb : ∀ b ∈ bs, 0 < b ∧ b < 256) (ht : TX σ w bs) : Mt G m_X_isName [.ref 37, .int (nI n), .int (nI w)] (enc σ) 0 0 (fun v h' => v = some (.int (bz (nmX nb bs n))) ∧ h' = enc σ) := by
  obtain ⟨a1, a2, a3, a4, -⟩ := hx n hn
  refine Mt.of (by decide) (Nat.le_of_ble_eq_true rfl) (s_X_isName_0 _ _ _ _ _ ?_)
  unfold nmX
  have hl := nI_leZ (k := (nb n).length) (by omega)
  simp only [k_X_isName_0, o_iconst, o_lconst, o_iload, o_lload, o_aload, o_istore, o_lstore, o_astore, o_iinc, o_iadd, o_isub, o_imul, o_iand, o_ior, o_idiv, o_irem, o_lor, o_lushr, o_lshl, o_i2l, o_l2i, o_lcmp, o_dup, o_pop, o_dup2, o_ifeq, o_ifne, o_iflt, o_ifge, o_ifgt, o_ifle, o_icmpeq, o_icmpne, o_icmplt, o_icmpge, o_icmpgt, o_icmple, o_jmp, o_tsw, o_iret, o_zret, o_lret, o_vret, o_getf, o_putfI, o_putfR, o_iald, o_alen, o_lald, o_zald, o_iast, o_last, o_zast, o_aald, o_aast, o_new, o_newa, o_callS, o_callI, o_callV, o_objInit, o_mmax, o_mmin, o_lk, o_up1, o_up2, o_cl1, o_cl2, o_keep, o_c2, List.getElem?_cons_zero, List.getElem?_cons_succ, List.drop_zero, List.drop_succ_cons, List.take_zero, List.take_succ_cons, List.reverse_cons, List.reverse_nil, List.nil_append, List.cons_append, List.map_cons, List.map_nil, List.sum_cons, List.sum_nil, Value.category, List.length_cons, List.length_nil, List.set_cons_zero, List.set_cons_succ, Option.toList_some, Option.toList_none, lv_args, ↓reduceIte, Nat.reduceAdd, Nat.reduceSub, Nat.reduceMul, Nat.reduceEqDiff, Nat.reduceLeDiff, Nat.reduceLT, reduceCtorEq, Bool.false_eq_true, and_true, true_and, and_self, and_false, false_and, Nat.zero_add, Nat.le_refl, Nat.zero_le, true_or, or_true, not_true_eq_false, not_false_eq_true, forall_const, false_implies, implies_true, true_implies, Int32.reduceAdd, Int32.reduceLE, Int32.reduceLT, Int32.reduceSub, Int32.reduceMul, Int32.reduceToNatClampNeg, og_36, oi_36, ef_36_4, ef_36_19, ef_36_20, ef_36_21, ef_36_22, ef_36_23, og_37, oi_37, oq_37, es_37, og_38, oi_38, oq_38, es_38, og_39, oi_39, oq_39, es_39, og_40, oi_40, oq_40, es_40, og_41, oi_41, es_41, og_42, oi_42, oq_42, es_42, og_43, oi_43, oq_43, es_43, og_44, oi_44, oq_44, es_44, og_45, oi_45, oq_45, es_45, og_46, oi_46, oq_46, es_46, og_47, oi_47, oq_47, es_47, og_48, oi_48, oq_48, es_48, og_49, oi_49, oq_49, es_49, og_50, oi_50, oq_50, es_50, og_51, oi_51, es_51, og_52, oi_52, oq_52, es_52, og_53, oi_53, oq_53, es_53, og_54, oi_54, oq_54, es_54, og_55, oi_55, oq_55, es_55, og_56, oi_56, oq_56, es_56, og_57, oi_57, oq_57, es_57, og_58, oi_58, oq_58, es_58, nI_clamp (show n < 2 ^ 31 by omega), nI_clamp (show w < 2 ^ 31 by omega), a3, ht.1]
  refine ⟨vp_in_nI hn (by decide), fun q => ?_, fun q => ⟨vp_in_nI hn (by decide), vp_in_nI hw (by decide), fun q2 => ?_, fun q2 => ?_⟩⟩
  · have e : (nb n).isEmpty = true := by
      have := hl.mp q
      cases hh : nb n with
      | nil => rfl
      | cons _ _ => rw [hh, List.length_cons] at this; omega
    exact isn_no G σ hw ht.1 0 _ ⟨by rw [e]; rfl, rfl⟩
  · have hne : ¬ nb n = bs := fun e => q2 (by rw [e])
    exact isn_no G σ hw ht.1 0 _ ⟨by rw [decide_eq_false hne, Bool.and_false]; rfl, rfl⟩
  · have e : (nb n).isEmpty = false := by
      cases hh : nb n with
      | nil => exact absurd (hl.mpr (by rw [hh]; exact Nat.le_refl 0)) q
      | cons _ _ => rfl
    have el : (nb n).length = bs.length := (nI_eq (by omega) (by omega)).mp q2
    exact isn_loop G σ hn hw el a1 a2 hb a4 ht _ ⟨by rw [e]; rfl, rfl⟩ (nb n).length 0 (by omega) (fun j hj => absurd hj (Nat.not_lt_zero _))
theorem nam_loop (G : oG) (σ : oT) {nb : Nat → List Nat} {nf : Nat → Nat} (hx : XNm nb nf σ) {w : Nat} {bs : List Nat} (hw : w < 2) (h7 : bs.length ≤ 7) (hb : ∀ b ∈ bs, 0 < b ∧ b < 256) (ht : TX σ w bs) (Post : oP) : ∀ k i : Nat, i + k = 8 → Post (some (.int (oi (lst (nmX nb bs) i k)))) (enc σ) → Wp G m_X_name Post 2 0 0 [(0, .ref 37), (1, .int (nI w)), (2, .int (nI i))] [] (enc σ) := by
  intro k
  induction k with
  | zero =>
    intro i hk hP
    have e : i = 8 := by omega
    subst e
    refine s_X_name_2 _ _ _ _ _ ?_
    simp only [k_X_name_2, o_iconst, o_lconst, o_iload, o_lload, o_aload, o_istore, o_lstore, o_astore, o_iinc, o_iadd, o_isub, o_imul, o_iand, o_ior, o_idiv, o_irem, o_lor, o_lushr, o_lshl, o_i2l, o_l2i, o_lcmp, o_dup, o_pop, o_dup2, o_ifeq, o_ifne, o_iflt, o_ifge, o_ifgt, o_ifle, o_icmpeq, o_icmpne, o_icmplt, o_icmpge, o_icmpgt, o_icmple, o_jmp, o_tsw, o_iret, o_zret, o_lret, o_vret, o_getf, o_putfI, o_putfR, o_iald, o_alen, o_lald, o_zald, o_iast, o_last, o_zast, o_aald, o_aast, o_new, o_newa, o_callS, o_callI, o_callV, o_objInit, o_mmax, o_mmin, o_lk, o_up1, o_up2, o_cl1, o_cl2, o_keep, o_c2, List.getElem?_cons_zero, List.getElem?_cons_succ, List.drop_zero, List.drop_succ_cons, List.take_zero, List.take_succ_cons, List.reverse_cons, List.reverse_nil, List.nil_append, List.cons_append, List.map_cons, List.map_nil, List.sum_cons, List.sum_nil, Value.category, List.length_cons, List.length_nil, List.set_cons_zero, List.set_cons_succ, Option.toList_some, Option.toList_none, lv_args, ↓reduceIte, Nat.reduceAdd, Nat.reduceSub, Nat.reduceMul, Nat.reduceEqDiff, Nat.reduceLeDiff, Nat.reduceLT, reduceCtorEq, Bool.false_eq_true, and_true, true_and, and_self, and_false, false_and, Nat.zero_add, Nat.le_refl, Nat.zero_le, true_or, or_true, not_true_eq_false, not_false_eq_true, forall_const, false_implies, implies_true, true_implies, Int32.reduceAdd, Int32.reduceLE, Int32.reduceLT, Int32.reduceSub, Int32.reduceMul, Int32.reduceToNatClampNeg, og_36, oi_36, ef_36_4, ef_36_19, ef_36_20, ef_36_21, ef_36_22, ef_36_23, og_37, oi_37, oq_37, es_37, og_38, oi_38, oq_38, es_38, og_39, oi_39, oq_39, es_39, og_40, oi_40, oq_40, es_40, og_41, oi_41, es_41, og_42, oi_42, oq_42, es_42, og_43, oi_43, oq_43, es_43, og_44, oi_44, oq_44, es_44, og_45, oi_45, oq_45, es_45, og_46, oi_46, oq_46, es_46, og_47, oi_47, oq_47, es_47, og_48, oi_48, oq_48, es_48, og_49, oi_49, oq_49, es_49, og_50, oi_50, oq_50, es_50, og_51, oi_51, es_51, og_52, oi_52, oq_52, es_52, og_53, oi_53, oq_53, es_53, og_54, oi_54, oq_54, es_54, og_55, oi_55, oq_55, es_55, og_56, oi_56, oq_56, es_56, og_57, oi_57, oq_57, es_57, og_58, oi_58, oq_58, es_58]
    exact ⟨fun _ => hP, fun q => absurd (nI_le (Nat.le_refl 8) (by decide)) q⟩
  | succ k ih =>
    intro i hk hP
    have hi : i < 8 := by omega
    refine s_X_name_2 _ _ _ _ _ ?_
    simp only [k_X_name_2, o_iconst, o_lconst, o_iload, o_lload, o_aload, o_istore, o_lstore, o_astore, o_iinc, o_iadd, o_isub, o_imul, o_iand, o_ior, o_idiv, o_irem, o_lor, o_lushr, o_lshl, o_i2l, o_l2i, o_lcmp, o_dup, o_pop, o_dup2, o_ifeq, o_ifne, o_iflt, o_ifge, o_ifgt, o_ifle, o_icmpeq, o_icmpne, o_icmplt, o_icmpge, o_icmpgt, o_icmple, o_jmp, o_tsw, o_iret, o_zret, o_lret, o_vret, o_getf, o_putfI, o_putfR, o_iald, o_alen, o_lald, o_zald, o_iast, o_last, o_zast, o_aald, o_aast, o_new, o_newa, o_callS, o_callI, o_callV, o_objInit, o_mmax, o_mmin, o_lk, o_up1, o_up2, o_cl1, o_cl2, o_keep, o_c2, List.getElem?_cons_zero, List.getElem?_cons_succ, List.drop_zero, List.drop_succ_cons, List.take_zero, List.take_succ_cons, List.reverse_cons, List.reverse_nil, List.nil_append, List.cons_append, List.map_cons, List.map_nil, List.sum_cons, List.sum_nil, Value.category, List.length_cons, List.length_nil, List.set_cons_zero, List.set_cons_succ, Option.toList_some, Option.toList_none, lv_args, ↓reduceIte, Nat.reduceAdd, Nat.reduceSub, Nat.reduceMul, Nat.reduceEqDiff, Nat.reduceLeDiff, Nat.reduceLT, reduceCtorEq, Bool.false_eq_true, and_true, true_and, and_self, and_false, false_and, Nat.zero_add, Nat.le_refl, Nat.zero_le, true_or, or_true, not_true_eq_false, not_false_eq_true, forall_const, false_implies, implies_true, true_implies, Int32.reduceAdd, Int32.reduceLE, Int32.reduceLT, Int32.reduceSub, Int32.reduceMul, Int32.reduceToNatClampNeg, og_36, oi_36, ef_36_4, ef_36_19, ef_36_20, ef_36_21, ef_36_22, ef_36_23, og_37, oi_37, oq_37, es_37, og_38, oi_38, oq_38, es_38, og_39, oi_39, oq_39, es_39, og_40, oi_40, oq_40, es_40, og_41, oi_41, es_41, og_42, oi_42, oq_42, es_42, og_43, oi_43, oq_43, es_43, og_44, oi_44, oq_44, es_44, og_45, oi_45, oq_45, es_45, og_46, oi_46, oq_46, es_46, og_47, oi_47, oq_47, es_47, og_48, oi_48, oq_48, es_48, og_49, oi_49, oq_49, es_49, og_50, oi_50, oq_50, es_50, og_51, oi_51, es_51, og_52, oi_52, oq_52, es_52, og_53, oi_53, oq_53, es_53, og_54, oi_54, oq_54, es_54, og_55, oi_55, oq_55, es_55, og_56, oi_56, oq_56, es_56, og_57, oi_57, oq_57, es_57, og_58, oi_58, oq_58, es_58]
    refine ⟨fun q => absurd q (nI_ge (b := 8) hi (by decide)), fun _ => ?_⟩
    refine o_use (x_isName G σ hx hi hw h7 hb ht) ?_
    rintro v h' ⟨rfl, rfl⟩
    refine s_X_name_14 _ _ _ _ _ ?_
    cases h : nmX nb bs i with
    | false =>
      rw [lst_f h] at hP
      simp only [k_X_name_14, o_iconst, o_lconst, o_iload, o_lload, o_aload, o_istore, o_lstore, o_astore, o_iinc, o_iadd, o_isub, o_imul, o_iand, o_ior, o_idiv, o_irem, o_lor, o_lushr, o_lshl, o_i2l, o_l2i, o_lcmp, o_dup, o_pop, o_dup2, o_ifeq, o_ifne, o_iflt, o_ifge, o_ifgt, o_ifle, o_icmpeq, o_icmpne, o_icmplt, o_icmpge, o_icmpgt, o_icmple, o_jmp, o_tsw, o_iret, o_zret, o_lret, o_vret, o_getf, o_putfI, o_putfR, o_iald, o_alen, o_lald, o_zald, o_iast, o_last, o_zast, o_aald, o_aast, o_new, o_newa, o_callS, o_callI, o_callV, o_objInit, o_mmax, o_mmin, o_lk, o_up1, o_up2, o_cl1, o_cl2, o_keep, o_c2, List.getElem?_cons_zero, List.getElem?_cons_succ, List.drop_zero, List.drop_succ_cons, List.take_zero, List.take_succ_cons, List.reverse_cons, List.reverse_nil, List.nil_append, List.cons_append, List.map_cons, List.map_nil, List.sum_cons, List.sum_nil, Value.category, List.length_cons, List.length_nil, List.set_cons_zero, List.set_cons_succ, Option.toList_some, Option.toList_none, lv_args, ↓reduceIte, Nat.reduceAdd, Nat.reduceSub, Nat.reduceMul, Nat.reduceEqDiff, Nat.reduceLeDiff, Nat.reduceLT, reduceCtorEq, Bool.false_eq_true, and_true, true_and, and_self, and_false, false_and, Nat.zero_add, Nat.le_refl, Nat.zero_le, true_or, or_true, not_true_eq_false, not_false_eq_true, forall_const, false_implies, implies_true, true_implies, Int32.reduceAdd, Int32.reduceLE, Int32.reduceLT, Int32.reduceSub, Int32.reduceMul, Int32.reduceToNatClampNeg, bz_f, nI_1]
      exact ih (i + 1) (by omega) hP
    | true =>
      rw [lst_t h] at hP
      simp only [k_X_name_14, o_iconst, o_lconst, o_iload, o_lload, o_aload, o_istore, o_lstore, o_astore, o_iinc, o_iadd, o_isub, o_imul, o_iand, o_ior, o_idiv, o_irem, o_lor, o_lushr, o_lshl, o_i2l, o_l2i, o_lcmp, o_dup, o_pop, o_dup2, o_ifeq, o_ifne, o_iflt, o_ifge, o_ifgt, o_ifle, o_icmpeq, o_icmpne, o_icmplt, o_icmpge, o_icmpgt, o_icmple, o_jmp, o_tsw, o_iret, o_zret, o_lret, o_vret, o_getf, o_putfI, o_putfR, o_iald, o_alen, o_lald, o_zald, o_iast, o_last, o_zast, o_aald, o_aast, o_new, o_newa, o_callS, o_callI, o_callV, o_objInit, o_mmax, o_mmin, o_lk, o_up1, o_up2, o_cl1, o_cl2, o_keep, o_c2, List.getElem?_cons_zero, List.getElem?_cons_succ, List.drop_zero, List.drop_succ_cons, List.take_zero, List.take_succ_cons, List.reverse_cons, List.reverse_nil, List.nil_append, List.cons_append, List.map_cons, List.map_nil, List.sum_cons, List.sum_nil, Value.category, List.length_cons, List.length_nil, List.set_cons_zero, List.set_cons_succ, Option.toList_some, Option.toList_none, lv_args, ↓reduceIte, Nat.reduceAdd, Nat.reduceSub, Nat.reduceMul, Nat.reduceEqDiff, Nat.reduceLeDiff, Nat.reduceLT, reduceCtorEq, Bool.false_eq_true, and_true, true_and, and_self, and_false, false_and, Nat.zero_add, Nat.le_refl, Nat.zero_le, true_or, or_true, not_true_eq_false, not_false_eq_true, forall_const, false_implies, implies_true, true_implies, Int32.reduceAdd, Int32.reduceLE, Int32.reduceLT, Int32.reduceSub, Int32.reduceMul, Int32.reduceToNatClampNeg, bz_t, nI_1]
      exact ⟨fun q => absurd q i01, fun _ => hP⟩
theorem x_name (G : oG) (σ : oT) {nb : Nat → List Nat} {nf : Nat → Nat} (hx : XNm nb nf σ) {w : Nat} {bs : List Nat} (hw : w < 2) (h7 : bs.length ≤ 7) (hb : ∀ b ∈ bs, 0 < b ∧ b < 256) (ht : TX σ w bs) : Mt G m_X_name [.ref 37, .int (nI w)] (enc σ) 0 0 (fun v h' => v = some (.int (oi (lst (nmX nb bs) 0 8))) ∧ h' = enc σ) := by
  refine Mt.of (by decide) (Nat.le_of_ble_eq_true rfl) (s_X_name_0 _ _ _ _ _ ?_)
  simp only [k_X_name_0, o_iconst, o_lconst, o_iload, o_lload, o_aload, o_istore, o_lstore, o_astore, o_iinc, o_iadd, o_isub, o_imul, o_iand, o_ior, o_idiv, o_irem, o_lor, o_lushr, o_lshl, o_i2l, o_l2i, o_lcmp, o_dup, o_pop, o_dup2, o_ifeq, o_ifne, o_iflt, o_ifge, o_ifgt, o_ifle, o_icmpeq, o_icmpne, o_icmplt, o_icmpge, o_icmpgt, o_icmple, o_jmp, o_tsw, o_iret, o_zret, o_lret, o_vret, o_getf, o_putfI, o_putfR, o_iald, o_alen, o_lald, o_zald, o_iast, o_last, o_zast, o_aald, o_aast, o_new, o_newa, o_callS, o_callI, o_callV, o_objInit, o_mmax, o_mmin, o_lk, o_up1, o_up2, o_cl1, o_cl2, o_keep, o_c2, List.getElem?_cons_zero, List.getElem?_cons_succ, List.drop_zero, List.drop_succ_cons, List.take_zero, List.take_succ_cons, List.reverse_cons, List.reverse_nil, List.nil_append, List.cons_append, List.map_cons, List.map_nil, List.sum_cons, List.sum_nil, Value.category, List.length_cons, List.length_nil, List.set_cons_zero, List.set_cons_succ, Option.toList_some, Option.toList_none, lv_args, ↓reduceIte, Nat.reduceAdd, Nat.reduceSub, Nat.reduceMul, Nat.reduceEqDiff, Nat.reduceLeDiff, Nat.reduceLT, reduceCtorEq, Bool.false_eq_true, and_true, true_and, and_self, and_false, false_and, Nat.zero_add, Nat.le_refl, Nat.zero_le, true_or, or_true, not_true_eq_false, not_false_eq_true, forall_const, false_implies, implies_true, true_implies, Int32.reduceAdd, Int32.reduceLE, Int32.reduceLT, Int32.reduceSub, Int32.reduceMul, Int32.reduceToNatClampNeg]
  exact nam_loop G σ hx hw h7 hb ht _ 8 0 (by decide) ⟨rfl, rfl⟩
theorem sl_mem2 {nb : Nat → List Nat} {nf : Nat → Nat} {y : Nat × Nat} : ∀ N, y ∈ sl nb nf N → ∃ n, n < N ∧ nb n ≠ [] ∧ y = (q_key (nb n), nf n) := by
  intro N
  induction N with
  | zero => intro h; cases h
  | succ N ih =>
    intro h
    unfold sl at h
    split at h
    · obtain ⟨n, h1, h2⟩ := ih h
      exact ⟨n, by omega, h2⟩
    · rename_i hne
      rcases List.mem_cons.mp h with e | e
      · exact ⟨N, by omega, hne, e⟩
      · obtain ⟨n, h1, h2⟩ := ih e
        exact ⟨n, by omega, h2⟩
theorem nmX_t {nb : Nat → List Nat} {bs : List Nat} {n : Nat} (h : nmX nb bs n = true) : nb n ≠ [] ∧ nb n = bs := by
  unfold nmX at h
  rw [Bool.and_eq_true, decide_eq_true_eq] at h
  refine ⟨fun e => ?_, h.2⟩
  rw [e] at h
  exact absurd h.1 (by decide)
theorem nmX_m {nb : Nat → List Nat} {bs : List Nat} {n : Nat} (h1 : nb n ≠ []) (h2 : nb n = bs) : nmX nb bs n = true := by
  unfold nmX
  rw [decide_eq_true h2, Bool.and_true]
  cases hh : nb n with
  | nil => exact absurd hh h1
  | cons _ _ => rfl
theorem nix_mem {l : List (Nat × Nat)} {k f : Nat} (h : (k, f) ∈ l) : ∃ i, nix l k = some i := by
  cases hn : nix l k with
  | none => exact absurd rfl (nix_none hn _ h)
  | some i => exact ⟨i, rfl⟩
theorem key_one {l : List (Nat × Nat)} (h : l.Pairwise (fun x y => x.1 < y.1)) {x y : Nat × Nat} (hx : x ∈ l) (hy : y ∈ l) (e : x.1 = y.1) : x = y := by
  induction h with
  | nil => cases hx
  | cons h1 h2 ih =>
    rcases List.mem_cons.mp hx with e1 | e1
    · rcases List.mem_cons.mp hy with e2 | e2
      · rw [e1, e2]
      · have := h1 y e2
        rw [← e1] at this
        omega
    · rcases List.mem_cons.mp hy with e2 | e2
      · have := h1 x e1
        rw [← e2] at this
        omega
      · exact ih e1 e2
/-- the two sides look a name up alike -/
theorem nm_none {nb : Nat → List Nat} {nf : Nat → Nat} {l : List (Nat × Nat)} (hp : (sl nb nf 8).Perm l) {bs : List Nat} (h : nix l (q_key bs) = none) : lst (nmX nb bs) 0 8 = none := by
  cases hl : lst (nmX nb bs) 0 8 with
  | none => rfl
  | some n =>
    obtain ⟨-, h2, h3, -⟩ := lst_lt hl
    obtain ⟨h4, h5⟩ := nmX_t h3
    have h6 := hp.mem_iff.mp (sl_mem (nf := nf) h4 8 (by omega))
    exact absurd (by rw [h5]) (nix_none h _ h6)
theorem nm_some {nb : Nat → List Nat} {nf : Nat → Nat} {l : List (Nat × Nat)} {σ : oT} (hN : OkN l) (hx : XNm nb nf σ) (hp : (sl nb nf 8).Perm l) {bs : List Nat} (h7 : bs.length ≤ 7) (hb : ∀ b ∈ bs, 0 < b ∧ b < 256) {i : Nat} (h : nix l (q_key bs) = some i) : ∃ n, lst (nmX nb bs) 0 8 = some n ∧ n < 8 ∧ nb n ≠ [] ∧ nb n = bs ∧ l.getD i (0, 0) = (q_key bs, nf n) ∧ nf n < 6 := by
  obtain ⟨h1, h2⟩ := nix_some h
  have hm : l.getD i (0, 0) ∈ l := List.mem_of_getElem? (getD_at h1)
  obtain ⟨n0, n1, n2, n3⟩ := sl_mem2 8 (hp.mem_iff.mpr hm)
  obtain ⟨a1, a2, -⟩ := hx n0 n1
  have e0 : nb n0 = bs := key_inj a1 h7 a2 hb (by rw [← h2, n3])
  cases hl : lst (nmX nb bs) 0 8 with
  | none =>
    have := lst_no hl n0 (Nat.zero_le _) (by omega)
    rw [nmX_m n2 e0] at this
    cases this
  | some n =>
    obtain ⟨-, h4, h5, -⟩ := lst_lt hl
    obtain ⟨h6, h8⟩ := nmX_t h5
    have hm2 := hp.mem_iff.mp (sl_mem (nf := nf) h6 8 (by omega))
    have e := key_one hN.2.2 hm hm2 (by rw [h2, h8])
    refine ⟨n, rfl, by omega, h6, h8, by rw [e, h8], nf_lt hN hp (by omega) h6⟩
