/-! The second side reads a name: the method. -/
/-- what string owes -/
def XS (σ : oT) (w : Nat) (r : Option (List Nat)) : oP := fun v h' => v = some (.int (bz r.isSome)) ∧ ∃ g t : Nat → Int32, h' = enc (sI (sI σ 57 g) 58 t) ∧ txF σ w g ∧ (∀ x, x ≠ w → t x = σ.1 58 x) ∧ ∀ bs, r = some bs → t w = nI bs.length ∧ ∀ j, j < bs.length → g (8 * w + j) = nI (bs.getD j 0)
theorem XS_no {σ : oT} {w : Nat} {g : Nat → Int32} (hg : txF σ w g) : XS σ w none (some (.int 0)) (enc (sI σ 57 g)) := by
  refine ⟨rfl, g, σ.1 58, ?_, hg, fun _ _ => rfl, fun bs h => by cases h⟩
  have e : sI (sI σ 57 g) 58 ((sI σ 57 g).1 58) = sI σ 57 g := sI_id (sI σ 57 g) 58
  exact congrArg enc e.symm
theorem XS_no0 {σ : oT} {w : Nat} : XS σ w none (some (.int 0)) (enc σ) := by
  have h := XS_no (σ := σ) (w := w) (g := σ.1 57) (fun _ _ => rfl)
  rw [sI_id] at h
  exact h
theorem x_string (G : oG) (σ : oT) (m : MS) (hO : OkM m) (hK : OkB m) (hg : XMg m σ) (hb : XMb m σ) {p w : Nat} (a : Int32) (hp : p < 3) (hw : w < 2) (hwho : σ.2.2 36 19 = nI p) : Mt G m_X_string [.ref 37, .int (nI w), .int a] (enc σ) 0 0 (XS σ w (q_str m p a)) := by
  refine Mt.of (by decide) (Nat.le_of_ble_eq_true rfl) (s_X_string_0 _ _ _ _ _ ?_)
  simp only [k_X_string_0, o_iconst, o_lconst, o_iload, o_lload, o_aload, o_istore, o_lstore, o_astore, o_iinc, o_iadd, o_isub, o_imul, o_iand, o_ior, o_idiv, o_irem, o_lor, o_lushr, o_lshl, o_i2l, o_l2i, o_lcmp, o_dup, o_pop, o_dup2, o_ifeq, o_ifne, o_iflt, o_ifge, o_ifgt, o_ifle, o_icmpeq, o_icmpne, o_icmplt, o_icmpge, o_icmpgt, o_icmple, o_jmp, o_tsw, o_iret, o_zret, o_lret, o_vret, o_getf, o_putfI, o_putfR, o_iald, o_alen, o_lald, o_zald, o_iast, o_last, o_zast, o_aald, o_aast, o_new, o_newa, o_callS, o_callI, o_callV, o_objInit, o_mmax, o_mmin, o_lk, o_up1, o_up2, o_cl1, o_cl2, o_keep, o_c2, List.getElem?_cons_zero, List.getElem?_cons_succ, List.drop_zero, List.drop_succ_cons, List.take_zero, List.take_succ_cons, List.reverse_cons, List.reverse_nil, List.nil_append, List.cons_append, List.map_cons, List.map_nil, List.sum_cons, List.sum_nil, Value.category, List.length_cons, List.length_nil, List.set_cons_zero, List.set_cons_succ, Option.toList_some, Option.toList_none, lv_args, ↓reduceIte, Nat.reduceAdd, Nat.reduceSub, Nat.reduceMul, Nat.reduceEqDiff, Nat.reduceLeDiff, Nat.reduceLT, reduceCtorEq, Bool.false_eq_true, and_true, true_and, and_self, and_false, false_and, Nat.zero_add, Nat.le_refl, Nat.zero_le, true_or, or_true, not_true_eq_false, not_false_eq_true, forall_const, false_implies, implies_true, true_implies, Int32.reduceAdd, Int32.reduceLE, Int32.reduceLT, Int32.reduceSub, Int32.reduceMul, Int32.reduceToNatClampNeg]
  have fail : ∀ i : Int32, q_str m p a = none → Wp G m_X_string (XS σ w (q_str m p a)) 27 0 0 [(0, .ref 37), (1, .int (nI w)), (2, .int a), (3, .int i)] [.int (-1)] (enc σ) := fun i h => by
    refine s_X_string_27 _ _ _ _ _ ?_
    simp only [k_X_string_27, o_iconst, o_lconst, o_iload, o_lload, o_aload, o_istore, o_lstore, o_astore, o_iinc, o_iadd, o_isub, o_imul, o_iand, o_ior, o_idiv, o_irem, o_lor, o_lushr, o_lshl, o_i2l, o_l2i, o_lcmp, o_dup, o_pop, o_dup2, o_ifeq, o_ifne, o_iflt, o_ifge, o_ifgt, o_ifle, o_icmpeq, o_icmpne, o_icmplt, o_icmpge, o_icmpgt, o_icmple, o_jmp, o_tsw, o_iret, o_zret, o_lret, o_vret, o_getf, o_putfI, o_putfR, o_iald, o_alen, o_lald, o_zald, o_iast, o_last, o_zast, o_aald, o_aast, o_new, o_newa, o_callS, o_callI, o_callV, o_objInit, o_mmax, o_mmin, o_lk, o_up1, o_up2, o_cl1, o_cl2, o_keep, o_c2, List.getElem?_cons_zero, List.getElem?_cons_succ, List.drop_zero, List.drop_succ_cons, List.take_zero, List.take_succ_cons, List.reverse_cons, List.reverse_nil, List.nil_append, List.cons_append, List.map_cons, List.map_nil, List.sum_cons, List.sum_nil, Value.category, List.length_cons, List.length_nil, List.set_cons_zero, List.set_cons_succ, Option.toList_some, Option.toList_none, lv_args, ↓reduceIte, Nat.reduceAdd, Nat.reduceSub, Nat.reduceMul, Nat.reduceEqDiff, Nat.reduceLeDiff, Nat.reduceLT, reduceCtorEq, Bool.false_eq_true, and_true, true_and, and_self, and_false, false_and, Nat.zero_add, Nat.le_refl, Nat.zero_le, true_or, or_true, not_true_eq_false, not_false_eq_true, forall_const, false_implies, implies_true, true_implies, Int32.reduceAdd, Int32.reduceLE, Int32.reduceLT, Int32.reduceSub, Int32.reduceMul, Int32.reduceToNatClampNeg]
    rw [h]
    exact XS_no0
  by_cases h0 : a < 0
  · have hn : q_str m p a = none := by unfold q_str; rw [if_pos h0]
    refine s_X_string_2 _ _ _ _ _ ?_
    simp only [k_X_string_2, o_iconst, o_lconst, o_iload, o_lload, o_aload, o_istore, o_lstore, o_astore, o_iinc, o_iadd, o_isub, o_imul, o_iand, o_ior, o_idiv, o_irem, o_lor, o_lushr, o_lshl, o_i2l, o_l2i, o_lcmp, o_dup, o_pop, o_dup2, o_ifeq, o_ifne, o_iflt, o_ifge, o_ifgt, o_ifle, o_icmpeq, o_icmpne, o_icmplt, o_icmpge, o_icmpgt, o_icmple, o_jmp, o_tsw, o_iret, o_zret, o_lret, o_vret, o_getf, o_putfI, o_putfR, o_iald, o_alen, o_lald, o_zald, o_iast, o_last, o_zast, o_aald, o_aast, o_new, o_newa, o_callS, o_callI, o_callV, o_objInit, o_mmax, o_mmin, o_lk, o_up1, o_up2, o_cl1, o_cl2, o_keep, o_c2, List.getElem?_cons_zero, List.getElem?_cons_succ, List.drop_zero, List.drop_succ_cons, List.take_zero, List.take_succ_cons, List.reverse_cons, List.reverse_nil, List.nil_append, List.cons_append, List.map_cons, List.map_nil, List.sum_cons, List.sum_nil, Value.category, List.length_cons, List.length_nil, List.set_cons_zero, List.set_cons_succ, Option.toList_some, Option.toList_none, lv_args, ↓reduceIte, Nat.reduceAdd, Nat.reduceSub, Nat.reduceMul, Nat.reduceEqDiff, Nat.reduceLeDiff, Nat.reduceLT, reduceCtorEq, Bool.false_eq_true, and_true, true_and, and_self, and_false, false_and, Nat.zero_add, Nat.le_refl, Nat.zero_le, true_or, or_true, not_true_eq_false, not_false_eq_true, forall_const, false_implies, implies_true, true_implies, Int32.reduceAdd, Int32.reduceLE, Int32.reduceLT, Int32.reduceSub, Int32.reduceMul, Int32.reduceToNatClampNeg, og_36, oi_36, ef_36_4, ef_36_19, ef_36_20, ef_36_21, ef_36_22, ef_36_23, og_37, oi_37, oq_37, es_37, og_38, oi_38, oq_38, es_38, og_39, oi_39, oq_39, es_39, og_40, oi_40, oq_40, es_40, og_41, oi_41, es_41, og_42, oi_42, oq_42, es_42, og_43, oi_43, oq_43, es_43, og_44, oi_44, oq_44, es_44, og_45, oi_45, oq_45, es_45, og_46, oi_46, oq_46, es_46, og_47, oi_47, oq_47, es_47, og_48, oi_48, oq_48, es_48, og_49, oi_49, oq_49, es_49, og_50, oi_50, oq_50, es_50, og_51, oi_51, es_51, og_52, oi_52, oq_52, es_52, og_53, oi_53, oq_53, es_53, og_54, oi_54, oq_54, es_54, og_55, oi_55, oq_55, es_55, og_56, oi_56, oq_56, es_56, og_57, oi_57, oq_57, es_57, og_58, oi_58, oq_58, es_58]
    refine ⟨fun _ => ?_, fun _ => fail 0 hn⟩
    refine o_use (x_place G σ m hO hg (a + 0) hp hwho (Or.inl rfl)) ?_
    rintro v h' ⟨rfl, rfl⟩
    have e : plX m p (a + 0) 1 = -1 := by
      unfold plX
      rw [Int32.add_zero, decide_eq_false (fun h => h h0), Bool.false_and, if_neg (by decide)]
    rw [e]
    exact fail 0 hn
  · obtain ⟨b, hb31, rfl⟩ := nI_of h0
    have hs : q_str m p (nI b) = q_rd m p 8 b := by
      unfold q_str
      rw [if_neg h0, nI_clamp hb31]
    by_cases h256 : b < 256
    · have h := str_loop G σ m hO hK hg hb hp hw h256 hwho (XS σ w (q_str m p (nI b))) 8 0 (by decide) (σ.1 57) (fun _ _ => rfl) (fun j hj => absurd hj (Nat.not_lt_zero _)) (fun g' h1 h2 => by
        rw [hs, show q_rd m p 8 b = none from h1]
        exact XS_no h2) (fun g' bs h1 h2 h3 => by
        have h1' : q_rd m p 8 b = some bs := h1
        rw [hs, h1']
        refine ⟨rfl, g', _, rfl, h2, fun x hx => ?_, fun bs' e => ?_⟩
        · simp only [upd]
          rw [if_neg hx]
        · cases e
          refine ⟨?_, fun j hj => ?_⟩
          · simp only [upd, if_pos]
            rw [Nat.zero_add]
          · rw [h3 j (by omega), q_rd_at 8 b bs h1' j hj])
      rw [sI_id] at h
      exact h
    · have hn : q_str m p (nI b) = none := by
        rw [hs]
        unfold q_rd
        have : q_ok m p b 1 = false := by
          unfold q_ok
          rw [decide_eq_false h256, Bool.false_and]
        rw [this]
        rfl
      refine s_X_string_2 _ _ _ _ _ ?_
      simp only [k_X_string_2, o_iconst, o_lconst, o_iload, o_lload, o_aload, o_istore, o_lstore, o_astore, o_iinc, o_iadd, o_isub, o_imul, o_iand, o_ior, o_idiv, o_irem, o_lor, o_lushr, o_lshl, o_i2l, o_l2i, o_lcmp, o_dup, o_pop, o_dup2, o_ifeq, o_ifne, o_iflt, o_ifge, o_ifgt, o_ifle, o_icmpeq, o_icmpne, o_icmplt, o_icmpge, o_icmpgt, o_icmple, o_jmp, o_tsw, o_iret, o_zret, o_lret, o_vret, o_getf, o_putfI, o_putfR, o_iald, o_alen, o_lald, o_zald, o_iast, o_last, o_zast, o_aald, o_aast, o_new, o_newa, o_callS, o_callI, o_callV, o_objInit, o_mmax, o_mmin, o_lk, o_up1, o_up2, o_cl1, o_cl2, o_keep, o_c2, List.getElem?_cons_zero, List.getElem?_cons_succ, List.drop_zero, List.drop_succ_cons, List.take_zero, List.take_succ_cons, List.reverse_cons, List.reverse_nil, List.nil_append, List.cons_append, List.map_cons, List.map_nil, List.sum_cons, List.sum_nil, Value.category, List.length_cons, List.length_nil, List.set_cons_zero, List.set_cons_succ, Option.toList_some, Option.toList_none, lv_args, ↓reduceIte, Nat.reduceAdd, Nat.reduceSub, Nat.reduceMul, Nat.reduceEqDiff, Nat.reduceLeDiff, Nat.reduceLT, reduceCtorEq, Bool.false_eq_true, and_true, true_and, and_self, and_false, false_and, Nat.zero_add, Nat.le_refl, Nat.zero_le, true_or, or_true, not_true_eq_false, not_false_eq_true, forall_const, false_implies, implies_true, true_implies, Int32.reduceAdd, Int32.reduceLE, Int32.reduceLT, Int32.reduceSub, Int32.reduceMul, Int32.reduceToNatClampNeg, og_36, oi_36, ef_36_4, ef_36_19, ef_36_20, ef_36_21, ef_36_22, ef_36_23, og_37, oi_37, oq_37, es_37, og_38, oi_38, oq_38, es_38, og_39, oi_39, oq_39, es_39, og_40, oi_40, oq_40, es_40, og_41, oi_41, es_41, og_42, oi_42, oq_42, es_42, og_43, oi_43, oq_43, es_43, og_44, oi_44, oq_44, es_44, og_45, oi_45, oq_45, es_45, og_46, oi_46, oq_46, es_46, og_47, oi_47, oq_47, es_47, og_48, oi_48, oq_48, es_48, og_49, oi_49, oq_49, es_49, og_50, oi_50, oq_50, es_50, og_51, oi_51, es_51, og_52, oi_52, oq_52, es_52, og_53, oi_53, oq_53, es_53, og_54, oi_54, oq_54, es_54, og_55, oi_55, oq_55, es_55, og_56, oi_56, oq_56, es_56, og_57, oi_57, oq_57, es_57, og_58, oi_58, oq_58, es_58]
      refine ⟨fun q => absurd ((nI_leI (b := 255) hb31 (by decide)).mp q) (by omega), fun _ => fail 0 hn⟩
