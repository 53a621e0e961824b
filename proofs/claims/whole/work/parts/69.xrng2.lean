/-! The second side's ranges: the method. -/
theorem sF_id (σ : oT) (k j : Nat) : sF σ k j (σ.2.2 k j) = σ := by
  refine Prod.ext rfl (Prod.ext rfl ?_)
  funext a b
  show (if a = k then (if b = j then σ.2.2 k j else σ.2.2 a b) else σ.2.2 a b) = σ.2.2 a b
  by_cases h : a = k
  · rw [if_pos h]
    by_cases h2 : b = j
    · rw [if_pos h2, h, h2]
    · rw [if_neg h2]
  · rw [if_neg h]
/-- what range owes -/
def XR (σ : oT) (m : MS) (p s : Nat) (a : Int32) (n fl : Nat) : oP := fun v h' => v = some (.int (bz (q_okn m p a n fl))) ∧ ∃ (f : Nat → Int32) (s' : Nat), h' = enc (sF (sI σ 55 f) 36 23 (nI s')) ∧ s' ≤ s + n ∧ (∀ j, j < s → f j = σ.1 55 j) ∧ (∀ j, s ≤ j → j < s' → ∃ c, c < 320 ∧ f j = nI c) ∧ (q_okn m p a n fl = true → s' = s + n ∧ ∀ j, j < n → f (s + j) = nI (q_loc m p (tN a + j)))
theorem x_range (G : oG) (σ : oT) (m : MS) (hO : OkM m) (hg : XMg m σ) {p s n fl : Nat} (a : Int32) (hp : p < 3) (hwho : σ.2.2 36 19 = nI p) (hsp : σ.2.2 36 23 = nI s) (hs : s + n ≤ 1024) (hfl : fl = 1 ∨ fl = 2) : Mt G m_X_range [.ref 37, .int a, .int (nI n), .int (nI fl)] (enc σ) 0 0 (XR σ m p s a n fl) := by
  have eσ : sF (sI σ 55 (σ.1 55)) 36 23 (nI s) = σ := by rw [sI_id, ← hsp, sF_id]
  have eE : enc (sF (sI σ 55 (σ.1 55)) 36 23 (nI s)) = enc σ := congrArg enc eσ
  refine Mt.of (by decide) (Nat.le_of_ble_eq_true rfl) (s_X_range_0 _ _ _ _ _ ?_)
  simp only [k_X_range_0, o_iconst, o_lconst, o_iload, o_lload, o_aload, o_istore, o_lstore, o_astore, o_iinc, o_iadd, o_isub, o_imul, o_iand, o_ior, o_idiv, o_irem, o_lor, o_lushr, o_lshl, o_i2l, o_l2i, o_lcmp, o_dup, o_pop, o_dup2, o_ifeq, o_ifne, o_iflt, o_ifge, o_ifgt, o_ifle, o_icmpeq, o_icmpne, o_icmplt, o_icmpge, o_icmpgt, o_icmple, o_jmp, o_tsw, o_iret, o_zret, o_lret, o_vret, o_getf, o_putfI, o_putfR, o_iald, o_alen, o_lald, o_zald, o_iast, o_last, o_zast, o_aald, o_aast, o_new, o_newa, o_callS, o_callI, o_callV, o_objInit, o_mmax, o_mmin, o_lk, o_up1, o_up2, o_cl1, o_cl2, o_keep, o_c2, List.getElem?_cons_zero, List.getElem?_cons_succ, List.drop_zero, List.drop_succ_cons, List.take_zero, List.take_succ_cons, List.reverse_cons, List.reverse_nil, List.nil_append, List.cons_append, List.map_cons, List.map_nil, List.sum_cons, List.sum_nil, Value.category, List.length_cons, List.length_nil, List.set_cons_zero, List.set_cons_succ, Option.toList_some, Option.toList_none, lv_args, ↓reduceIte, Nat.reduceAdd, Nat.reduceSub, Nat.reduceMul, Nat.reduceEqDiff, Nat.reduceLeDiff, Nat.reduceLT, reduceCtorEq, Bool.false_eq_true, and_true, true_and, and_self, and_false, false_and, Nat.zero_add, Nat.le_refl, Nat.zero_le, true_or, or_true, not_true_eq_false, not_false_eq_true, forall_const, false_implies, implies_true, true_implies, Int32.reduceAdd, Int32.reduceLE, Int32.reduceLT, Int32.reduceSub, Int32.reduceMul, Int32.reduceToNatClampNeg]
  by_cases hn0 : n = 0
  · subst hn0
    refine s_X_range_6 _ _ _ _ _ ?_
    simp only [k_X_range_6, o_iconst, o_lconst, o_iload, o_lload, o_aload, o_istore, o_lstore, o_astore, o_iinc, o_iadd, o_isub, o_imul, o_iand, o_ior, o_idiv, o_irem, o_lor, o_lushr, o_lshl, o_i2l, o_l2i, o_lcmp, o_dup, o_pop, o_dup2, o_ifeq, o_ifne, o_iflt, o_ifge, o_ifgt, o_ifle, o_icmpeq, o_icmpne, o_icmplt, o_icmpge, o_icmpgt, o_icmple, o_jmp, o_tsw, o_iret, o_zret, o_lret, o_vret, o_getf, o_putfI, o_putfR, o_iald, o_alen, o_lald, o_zald, o_iast, o_last, o_zast, o_aald, o_aast, o_new, o_newa, o_callS, o_callI, o_callV, o_objInit, o_mmax, o_mmin, o_lk, o_up1, o_up2, o_cl1, o_cl2, o_keep, o_c2, List.getElem?_cons_zero, List.getElem?_cons_succ, List.drop_zero, List.drop_succ_cons, List.take_zero, List.take_succ_cons, List.reverse_cons, List.reverse_nil, List.nil_append, List.cons_append, List.map_cons, List.map_nil, List.sum_cons, List.sum_nil, Value.category, List.length_cons, List.length_nil, List.set_cons_zero, List.set_cons_succ, Option.toList_some, Option.toList_none, lv_args, ↓reduceIte, Nat.reduceAdd, Nat.reduceSub, Nat.reduceMul, Nat.reduceEqDiff, Nat.reduceLeDiff, Nat.reduceLT, reduceCtorEq, Bool.false_eq_true, and_true, true_and, and_self, and_false, false_and, Nat.zero_add, Nat.le_refl, Nat.zero_le, true_or, or_true, not_true_eq_false, not_false_eq_true, forall_const, false_implies, implies_true, true_implies, Int32.reduceAdd, Int32.reduceLE, Int32.reduceLT, Int32.reduceSub, Int32.reduceMul, Int32.reduceToNatClampNeg]
    have ht : q_okn m p a 0 fl = true := by simp [q_okn]
    refine ⟨fun _ => ?_, fun q => absurd (show nI 0 ≤ (0 : Int32) by decide) q⟩
    refine ⟨by rw [ht]; rfl, σ.1 55, s, eE.symm, Nat.le_refl _, fun _ _ => rfl, fun j h1 h2 => by omega, fun _ => ⟨rfl, fun j hj => absurd hj (Nat.not_lt_zero _)⟩⟩
  · have bad : q_okn m p a n fl = false → Wp G m_X_range (XR σ m p s a n fl) 37 0 0 [(0, .ref 37), (1, .int a), (2, .int (nI n)), (3, .int (nI fl)), (5, .int (nI 0))] [.int (-1)] (enc σ) := fun h => by
      have h2 := rg_fail G σ (n := n) (i := 0) (t := s) (by omega) (σ.1 55) a (nI fl) (XR σ m p s a n fl) ⟨by rw [h]; rfl, _, s + 1, rfl, by omega, fun j hj => by simp only [upd]; rw [if_neg (by omega)], fun j h1 h2 => ⟨0, by decide, by
        have e : j = s := by omega
        simp only [upd]
        rw [if_pos e]
        rfl⟩, fun h3 => by rw [h] at h3; cases h3⟩
      rw [eE] at h2
      exact h2
    by_cases h0 : a < 0
    · have hf : q_okn m p a n fl = false := by
        have := i_nle h0
        simp [q_okn, hn0, this]
      refine s_X_range_6 _ _ _ _ _ ?_
      simp only [k_X_range_6, o_iconst, o_lconst, o_iload, o_lload, o_aload, o_istore, o_lstore, o_astore, o_iinc, o_iadd, o_isub, o_imul, o_iand, o_ior, o_idiv, o_irem, o_lor, o_lushr, o_lshl, o_i2l, o_l2i, o_lcmp, o_dup, o_pop, o_dup2, o_ifeq, o_ifne, o_iflt, o_ifge, o_ifgt, o_ifle, o_icmpeq, o_icmpne, o_icmplt, o_icmpge, o_icmpgt, o_icmple, o_jmp, o_tsw, o_iret, o_zret, o_lret, o_vret, o_getf, o_putfI, o_putfR, o_iald, o_alen, o_lald, o_zald, o_iast, o_last, o_zast, o_aald, o_aast, o_new, o_newa, o_callS, o_callI, o_callV, o_objInit, o_mmax, o_mmin, o_lk, o_up1, o_up2, o_cl1, o_cl2, o_keep, o_c2, List.getElem?_cons_zero, List.getElem?_cons_succ, List.drop_zero, List.drop_succ_cons, List.take_zero, List.take_succ_cons, List.reverse_cons, List.reverse_nil, List.nil_append, List.cons_append, List.map_cons, List.map_nil, List.sum_cons, List.sum_nil, Value.category, List.length_cons, List.length_nil, List.set_cons_zero, List.set_cons_succ, Option.toList_some, Option.toList_none, lv_args, ↓reduceIte, Nat.reduceAdd, Nat.reduceSub, Nat.reduceMul, Nat.reduceEqDiff, Nat.reduceLeDiff, Nat.reduceLT, reduceCtorEq, Bool.false_eq_true, and_true, true_and, and_self, and_false, false_and, Nat.zero_add, Nat.le_refl, Nat.zero_le, true_or, or_true, not_true_eq_false, not_false_eq_true, forall_const, false_implies, implies_true, true_implies, Int32.reduceAdd, Int32.reduceLE, Int32.reduceLT, Int32.reduceSub, Int32.reduceMul, Int32.reduceToNatClampNeg, og_36, oi_36, ef_36_4, ef_36_19, ef_36_20, ef_36_21, ef_36_22, ef_36_23, og_37, oi_37, oq_37, es_37, og_38, oi_38, oq_38, es_38, og_39, oi_39, oq_39, es_39, og_40, oi_40, oq_40, es_40, og_41, oi_41, es_41, og_42, oi_42, oq_42, es_42, og_43, oi_43, oq_43, es_43, og_44, oi_44, oq_44, es_44, og_45, oi_45, oq_45, es_45, og_46, oi_46, oq_46, es_46, og_47, oi_47, oq_47, es_47, og_48, oi_48, oq_48, es_48, og_49, oi_49, oq_49, es_49, og_50, oi_50, oq_50, es_50, og_51, oi_51, es_51, og_52, oi_52, oq_52, es_52, og_53, oi_53, oq_53, es_53, og_54, oi_54, oq_54, es_54, og_55, oi_55, oq_55, es_55, og_56, oi_56, oq_56, es_56, og_57, oi_57, oq_57, es_57, og_58, oi_58, oq_58, es_58]
      refine ⟨fun q => absurd q (nI_ge (a := 0) (b := n) (by omega) (by omega)), fun _ => ⟨fun q => absurd q i01, fun _ => ⟨fun _ => ?_, fun _ => bad hf⟩⟩⟩
      refine o_use (x_place G σ m hO hg (a + 0) hp hwho hfl) ?_
      rintro v h' ⟨rfl, rfl⟩
      have e : plX m p (a + 0) fl = -1 := by
        unfold plX
        rw [Int32.add_zero, decide_eq_false (fun h => h h0), Bool.false_and, if_neg (by decide)]
      rw [e]
      exact bad hf
    · obtain ⟨b, hb31, rfl⟩ := nI_of h0
      have hq : q_okn m p (nI b) n fl = decide (∀ i, i < n → q_ok m p (b + i) fl = true) := by
        unfold q_okn
        rw [decide_eq_false hn0, Bool.false_or, decide_eq_true (nI_pos' hb31), Bool.true_and, nI_clamp hb31]
      by_cases h256 : b < 256
      · have h := rg_loop G σ m hO hg (s := s) (n := n) hp hwho h256 (by omega) hs hfl (XR σ m p s (nI b) n fl) (fun f h1 h2 => by
          have ht : q_okn m p (nI b) n fl = true := by rw [hq]; exact decide_eq_true (fun i hi => (h2 i hi).1)
          refine ⟨by rw [ht]; rfl, f, s + n, rfl, Nat.le_refl _, h1, fun j h3 h4 => ⟨q_loc m p (b + (j - s)), q_loc_lt hO _ _, ?_⟩, fun _ => ⟨rfl, fun j hj => ?_⟩⟩
          · have h5 := (h2 (j - s) (by omega)).2
            rw [show s + (j - s) = j by omega] at h5
            exact h5
          · rw [tN_nI hb31]
            exact (h2 j hj).2) (fun f i hi hno h1 h2 => by
          have hf : q_okn m p (nI b) n fl = false := by
            rw [hq]
            exact decide_eq_false (fun hh => by rw [hh i hi] at hno; cases hno)
          refine ⟨by rw [hf]; rfl, _, s + i + 1, rfl, by omega, fun j hj => ?_, fun j h3 h4 => ?_, fun h3 => by rw [hf] at h3; cases h3⟩
          · simp only [upd]
            rw [if_neg (by omega)]
            exact h1 j hj
          · simp only [upd]
            by_cases e : j = s + i
            · rw [if_pos e]
              exact ⟨0, by decide, rfl⟩
            · rw [if_neg e]
              have h5 := h2 (j - s) (by omega)
              rw [show s + (j - s) = j by omega] at h5
              exact ⟨_, q_loc_lt hO _ _, h5⟩) n 0 (by omega) (σ.1 55) (fun _ _ => rfl) (fun j hj => absurd hj (Nat.not_lt_zero _))
        rw [Nat.add_zero, eE] at h
        exact h
      · have hf : q_okn m p (nI b) n fl = false := by
          rw [hq]
          refine decide_eq_false (fun hh => ?_)
          have h1 := hh 0 (by omega)
          unfold q_ok at h1
          rw [Bool.and_eq_true, decide_eq_true_eq] at h1
          omega
        refine s_X_range_6 _ _ _ _ _ ?_
        simp only [k_X_range_6, o_iconst, o_lconst, o_iload, o_lload, o_aload, o_istore, o_lstore, o_astore, o_iinc, o_iadd, o_isub, o_imul, o_iand, o_ior, o_idiv, o_irem, o_lor, o_lushr, o_lshl, o_i2l, o_l2i, o_lcmp, o_dup, o_pop, o_dup2, o_ifeq, o_ifne, o_iflt, o_ifge, o_ifgt, o_ifle, o_icmpeq, o_icmpne, o_icmplt, o_icmpge, o_icmpgt, o_icmple, o_jmp, o_tsw, o_iret, o_zret, o_lret, o_vret, o_getf, o_putfI, o_putfR, o_iald, o_alen, o_lald, o_zald, o_iast, o_last, o_zast, o_aald, o_aast, o_new, o_newa, o_callS, o_callI, o_callV, o_objInit, o_mmax, o_mmin, o_lk, o_up1, o_up2, o_cl1, o_cl2, o_keep, o_c2, List.getElem?_cons_zero, List.getElem?_cons_succ, List.drop_zero, List.drop_succ_cons, List.take_zero, List.take_succ_cons, List.reverse_cons, List.reverse_nil, List.nil_append, List.cons_append, List.map_cons, List.map_nil, List.sum_cons, List.sum_nil, Value.category, List.length_cons, List.length_nil, List.set_cons_zero, List.set_cons_succ, Option.toList_some, Option.toList_none, lv_args, ↓reduceIte, Nat.reduceAdd, Nat.reduceSub, Nat.reduceMul, Nat.reduceEqDiff, Nat.reduceLeDiff, Nat.reduceLT, reduceCtorEq, Bool.false_eq_true, and_true, true_and, and_self, and_false, false_and, Nat.zero_add, Nat.le_refl, Nat.zero_le, true_or, or_true, not_true_eq_false, not_false_eq_true, forall_const, false_implies, implies_true, true_implies, Int32.reduceAdd, Int32.reduceLE, Int32.reduceLT, Int32.reduceSub, Int32.reduceMul, Int32.reduceToNatClampNeg, og_36, oi_36, ef_36_4, ef_36_19, ef_36_20, ef_36_21, ef_36_22, ef_36_23, og_37, oi_37, oq_37, es_37, og_38, oi_38, oq_38, es_38, og_39, oi_39, oq_39, es_39, og_40, oi_40, oq_40, es_40, og_41, oi_41, es_41, og_42, oi_42, oq_42, es_42, og_43, oi_43, oq_43, es_43, og_44, oi_44, oq_44, es_44, og_45, oi_45, oq_45, es_45, og_46, oi_46, oq_46, es_46, og_47, oi_47, oq_47, es_47, og_48, oi_48, oq_48, es_48, og_49, oi_49, oq_49, es_49, og_50, oi_50, oq_50, es_50, og_51, oi_51, es_51, og_52, oi_52, oq_52, es_52, og_53, oi_53, oq_53, es_53, og_54, oi_54, oq_54, es_54, og_55, oi_55, oq_55, es_55, og_56, oi_56, oq_56, es_56, og_57, oi_57, oq_57, es_57, og_58, oi_58, oq_58, es_58]
        refine ⟨fun q => absurd q (nI_ge (a := 0) (b := n) (by omega) (by omega)), fun _ => ⟨fun q => absurd q i01, fun _ => ⟨fun q => absurd ((nI_leI (b := 255) hb31 (by decide)).mp q) (by omega), fun _ => bad hf⟩⟩⟩
