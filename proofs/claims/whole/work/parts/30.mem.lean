/-! Memory, the class's. -/
theorem kn_16 : (16 : Int32) = nI 16 := rfl
theorem ix_16 (p q : Nat) : nI p * 16 + nI q = nI (p * 16 + q) := by rw [kn_16, pk_mul, nI_add]
theorem dv_16 {a : Nat} (h : a < 2 ^ 31) : nI a / 16 = nI (a / 16) := by rw [kn_16]; exact pk_div h (by decide) (by decide)
theorem dv_8 {a : Nat} (h : a < 2 ^ 31) : nI a / 8 = nI (a / 8) := by rw [show (8 : Int32) = nI 8 from rfl]; exact pk_div h (by decide) (by decide)
theorem rm_16 {a : Nat} (h : a < 2 ^ 31) : nI a - nI (a / 16) * 16 = nI (a % 16) := by rw [← dv_16 h, kn_16]; exact pk_rem h (by decide) (by decide)
theorem c_entry (G : oG) (σ : oT) {p q : Nat} (hp : p < 3) (hq : q < 16) : Mt G m_M_entry [.ref 2, .int (nI p), .int (nI q)] (enc σ) 0 0 (fun v h' => v = some (.int (σ.1 3 (p * 16 + q))) ∧ h' = enc σ) := by
  refine Mt.of (by decide) (Nat.le_of_ble_eq_true rfl) (s_M_entry_0 _ _ _ _ _ ?_)
  simp only [k_M_entry_0, o_iconst, o_lconst, o_iload, o_lload, o_aload, o_istore, o_lstore, o_astore, o_iinc, o_iadd, o_isub, o_imul, o_iand, o_ior, o_idiv, o_irem, o_lor, o_lushr, o_lshl, o_i2l, o_l2i, o_lcmp, o_dup, o_pop, o_dup2, o_ifeq, o_ifne, o_iflt, o_ifge, o_ifgt, o_ifle, o_icmpeq, o_icmpne, o_icmplt, o_icmpge, o_icmpgt, o_icmple, o_jmp, o_tsw, o_iret, o_zret, o_lret, o_vret, o_getf, o_putfI, o_putfR, o_iald, o_alen, o_lald, o_zald, o_iast, o_last, o_zast, o_aald, o_aast, o_new, o_newa, o_callS, o_callI, o_callV, o_objInit, o_mmax, o_mmin, o_lk, o_up1, o_up2, o_cl1, o_cl2, o_keep, o_c2, List.getElem?_cons_zero, List.getElem?_cons_succ, List.drop_zero, List.drop_succ_cons, List.take_zero, List.take_succ_cons, List.reverse_cons, List.reverse_nil, List.nil_append, List.cons_append, List.map_cons, List.map_nil, List.sum_cons, List.sum_nil, Value.category, List.length_cons, List.length_nil, List.set_cons_zero, List.set_cons_succ, Option.toList_some, Option.toList_none, lv_args, ↓reduceIte, Nat.reduceAdd, Nat.reduceSub, Nat.reduceMul, Nat.reduceEqDiff, Nat.reduceLeDiff, Nat.reduceLT, reduceCtorEq, Bool.false_eq_true, and_true, true_and, and_self, and_false, false_and, Nat.zero_add, Nat.le_refl, Nat.zero_le, true_or, or_true, not_true_eq_false, not_false_eq_true, forall_const, false_implies, implies_true, true_implies, Int32.reduceAdd, Int32.reduceLE, Int32.reduceLT, Int32.reduceSub, Int32.reduceMul, Int32.reduceToNatClampNeg, og_0, oi_0, ef_0_8, og_1, oi_1, og_2, oi_2, oq_2, es_2, og_3, oi_3, oq_3, es_3, og_4, oi_4, oq_4, es_4, og_5, oi_5, ef_5_2, og_6, oi_6, es_6, og_7, oi_7, oq_7, es_7, og_8, oi_8, og_9, oi_9, oq_9, es_9, og_10, oi_10, oq_10, es_10, og_11, oi_11, oq_11, es_11, og_12, oi_12, oq_12, es_12, og_13, oi_13, oq_13, es_13, og_14, oi_14, og_15, oi_15, og_16, oi_16, ef_16_2, og_17, oi_17, oq_17, es_17, og_18, oi_18, oq_18, es_18, og_19, oi_19, oq_19, es_19, og_20, oi_20, ef_20_1, og_21, oi_21, oq_21, es_21, og_22, oi_22, ef_22_1, og_23, oi_23, oq_23, es_23, og_24, oi_24, ef_24_1, og_25, oi_25, oq_25, es_25, og_26, oi_26, ef_26_1, og_27, oi_27, oq_27, es_27, og_28, oi_28, ef_28_1, og_29, oi_29, oq_29, es_29, og_30, oi_30, ef_30_1, og_31, oi_31, oq_31, es_31, og_32, oi_32, ef_32_1, og_33, oi_33, oq_33, es_33, og_34, oi_34, ef_34_1, og_35, oi_35, oq_35, es_35, ix_16, nI_clamp (show p * 16 + q < 2 ^ 31 by omega)]
  exact vp_in_nI (by omega) (by decide)
theorem c_setEntry (G : oG) (σ : oT) {p q : Nat} (x : Int32) (hp : p < 3) (hq : q < 16) : Mt G m_M_setEntry [.ref 2, .int (nI p), .int (nI q), .int x] (enc σ) 0 0 (fun v h' => v = none ∧ h' = enc (sI σ 3 (upd (σ.1 3) (p * 16 + q) x))) := by
  refine Mt.of (by decide) (Nat.le_of_ble_eq_true rfl) (s_M_setEntry_0 _ _ _ _ _ ?_)
  simp only [k_M_setEntry_0, o_iconst, o_lconst, o_iload, o_lload, o_aload, o_istore, o_lstore, o_astore, o_iinc, o_iadd, o_isub, o_imul, o_iand, o_ior, o_idiv, o_irem, o_lor, o_lushr, o_lshl, o_i2l, o_l2i, o_lcmp, o_dup, o_pop, o_dup2, o_ifeq, o_ifne, o_iflt, o_ifge, o_ifgt, o_ifle, o_icmpeq, o_icmpne, o_icmplt, o_icmpge, o_icmpgt, o_icmple, o_jmp, o_tsw, o_iret, o_zret, o_lret, o_vret, o_getf, o_putfI, o_putfR, o_iald, o_alen, o_lald, o_zald, o_iast, o_last, o_zast, o_aald, o_aast, o_new, o_newa, o_callS, o_callI, o_callV, o_objInit, o_mmax, o_mmin, o_lk, o_up1, o_up2, o_cl1, o_cl2, o_keep, o_c2, List.getElem?_cons_zero, List.getElem?_cons_succ, List.drop_zero, List.drop_succ_cons, List.take_zero, List.take_succ_cons, List.reverse_cons, List.reverse_nil, List.nil_append, List.cons_append, List.map_cons, List.map_nil, List.sum_cons, List.sum_nil, Value.category, List.length_cons, List.length_nil, List.set_cons_zero, List.set_cons_succ, Option.toList_some, Option.toList_none, lv_args, ↓reduceIte, Nat.reduceAdd, Nat.reduceSub, Nat.reduceMul, Nat.reduceEqDiff, Nat.reduceLeDiff, Nat.reduceLT, reduceCtorEq, Bool.false_eq_true, and_true, true_and, and_self, and_false, false_and, Nat.zero_add, Nat.le_refl, Nat.zero_le, true_or, or_true, not_true_eq_false, not_false_eq_true, forall_const, false_implies, implies_true, true_implies, Int32.reduceAdd, Int32.reduceLE, Int32.reduceLT, Int32.reduceSub, Int32.reduceMul, Int32.reduceToNatClampNeg, og_0, oi_0, ef_0_8, og_1, oi_1, og_2, oi_2, oq_2, es_2, og_3, oi_3, oq_3, es_3, og_4, oi_4, oq_4, es_4, og_5, oi_5, ef_5_2, og_6, oi_6, es_6, og_7, oi_7, oq_7, es_7, og_8, oi_8, og_9, oi_9, oq_9, es_9, og_10, oi_10, oq_10, es_10, og_11, oi_11, oq_11, es_11, og_12, oi_12, oq_12, es_12, og_13, oi_13, oq_13, es_13, og_14, oi_14, og_15, oi_15, og_16, oi_16, ef_16_2, og_17, oi_17, oq_17, es_17, og_18, oi_18, oq_18, es_18, og_19, oi_19, oq_19, es_19, og_20, oi_20, ef_20_1, og_21, oi_21, oq_21, es_21, og_22, oi_22, ef_22_1, og_23, oi_23, oq_23, es_23, og_24, oi_24, ef_24_1, og_25, oi_25, oq_25, es_25, og_26, oi_26, ef_26_1, og_27, oi_27, oq_27, es_27, og_28, oi_28, ef_28_1, og_29, oi_29, oq_29, es_29, og_30, oi_30, ef_30_1, og_31, oi_31, oq_31, es_31, og_32, oi_32, ef_32_1, og_33, oi_33, oq_33, es_33, og_34, oi_34, ef_34_1, og_35, oi_35, oq_35, es_35, ix_16, nI_clamp (show p * 16 + q < 2 ^ 31 by omega)]
  exact vp_in_nI (by omega) (by decide)
theorem pgv_div {m : MS} (hO : OkM m) {k : Nat} (hne : q_pg m k ≠ 0) : pgv (q_pg m k) = nI (q_pg m k - 1) ∧ q_pg m k - 1 < 160 := by
  have h := hO k
  cases e : q_pg m k with
  | zero => exact absurd e hne
  | succ x => exact ⟨rfl, by omega⟩
theorem q_pok_ne {m : MS} {p q g : Nat} (h : q_pok m p q g = true) : q_pg m (p * 16 + q) ≠ 0 := by
  unfold q_pok at h
  simp only [Bool.and_eq_true, decide_eq_true_eq] at h
  exact h.1
theorem q_loc_lt {m : MS} (hO : OkM m) (p a : Nat) : q_loc m p a < 320 := by
  have h := hO (p * 16 + a / 16)
  unfold q_loc
  omega
theorem c_load (G : oG) (σ : oT) (m : MS) (hO : OkM m) (hR : RCg m σ) {p a : Nat} (hp : p < 3) (ha : a < 256) (hne : q_pg m (p * 16 + a / 16) ≠ 0) : Mt G m_M_load [.ref 2, .int (nI p), .int (nI a)] (enc σ) 0 0 (fun v h' => v = some (.int (σ.1 2 (q_loc m p a))) ∧ h' = enc σ) := by
  obtain ⟨e1, e2⟩ := pgv_div hO hne
  have hl := q_loc_lt hO p a
  have e3 : σ.1 3 (p * 16 + a / 16) = nI (q_pg m (p * 16 + a / 16) - 1) := by rw [hR _ (by omega), e1]
  have hl2 : (q_pg m (p * 16 + a / 16) - 1) / 8 * 16 + a % 16 < 320 := hl
  refine Mt.of (by decide) (Nat.le_of_ble_eq_true rfl) (s_M_load_0 _ _ _ _ _ ?_)
  simp only [k_M_load_0, o_iconst, o_lconst, o_iload, o_lload, o_aload, o_istore, o_lstore, o_astore, o_iinc, o_iadd, o_isub, o_imul, o_iand, o_ior, o_idiv, o_irem, o_lor, o_lushr, o_lshl, o_i2l, o_l2i, o_lcmp, o_dup, o_pop, o_dup2, o_ifeq, o_ifne, o_iflt, o_ifge, o_ifgt, o_ifle, o_icmpeq, o_icmpne, o_icmplt, o_icmpge, o_icmpgt, o_icmple, o_jmp, o_tsw, o_iret, o_zret, o_lret, o_vret, o_getf, o_putfI, o_putfR, o_iald, o_alen, o_lald, o_zald, o_iast, o_last, o_zast, o_aald, o_aast, o_new, o_newa, o_callS, o_callI, o_callV, o_objInit, o_mmax, o_mmin, o_lk, o_up1, o_up2, o_cl1, o_cl2, o_keep, o_c2, List.getElem?_cons_zero, List.getElem?_cons_succ, List.drop_zero, List.drop_succ_cons, List.take_zero, List.take_succ_cons, List.reverse_cons, List.reverse_nil, List.nil_append, List.cons_append, List.map_cons, List.map_nil, List.sum_cons, List.sum_nil, Value.category, List.length_cons, List.length_nil, List.set_cons_zero, List.set_cons_succ, Option.toList_some, Option.toList_none, lv_args, ↓reduceIte, Nat.reduceAdd, Nat.reduceSub, Nat.reduceMul, Nat.reduceEqDiff, Nat.reduceLeDiff, Nat.reduceLT, reduceCtorEq, Bool.false_eq_true, and_true, true_and, and_self, and_false, false_and, Nat.zero_add, Nat.le_refl, Nat.zero_le, true_or, or_true, not_true_eq_false, not_false_eq_true, forall_const, false_implies, implies_true, true_implies, Int32.reduceAdd, Int32.reduceLE, Int32.reduceLT, Int32.reduceSub, Int32.reduceMul, Int32.reduceToNatClampNeg, og_0, oi_0, ef_0_8, og_1, oi_1, og_2, oi_2, oq_2, es_2, og_3, oi_3, oq_3, es_3, og_4, oi_4, oq_4, es_4, og_5, oi_5, ef_5_2, og_6, oi_6, es_6, og_7, oi_7, oq_7, es_7, og_8, oi_8, og_9, oi_9, oq_9, es_9, og_10, oi_10, oq_10, es_10, og_11, oi_11, oq_11, es_11, og_12, oi_12, oq_12, es_12, og_13, oi_13, oq_13, es_13, og_14, oi_14, og_15, oi_15, og_16, oi_16, ef_16_2, og_17, oi_17, oq_17, es_17, og_18, oi_18, oq_18, es_18, og_19, oi_19, oq_19, es_19, og_20, oi_20, ef_20_1, og_21, oi_21, oq_21, es_21, og_22, oi_22, ef_22_1, og_23, oi_23, oq_23, es_23, og_24, oi_24, ef_24_1, og_25, oi_25, oq_25, es_25, og_26, oi_26, ef_26_1, og_27, oi_27, oq_27, es_27, og_28, oi_28, ef_28_1, og_29, oi_29, oq_29, es_29, og_30, oi_30, ef_30_1, og_31, oi_31, oq_31, es_31, og_32, oi_32, ef_32_1, og_33, oi_33, oq_33, es_33, og_34, oi_34, ef_34_1, og_35, oi_35, oq_35, es_35, dv_16 (show a < 2 ^ 31 by omega), ix_16, nI_clamp (show p * 16 + a / 16 < 2 ^ 31 by omega), e3, dv_8 (show q_pg m (p * 16 + a / 16) - 1 < 2 ^ 31 by omega), rm_16 (show a < 2 ^ 31 by omega), nI_clamp (show (q_pg m (p * 16 + a / 16) - 1) / 8 * 16 + a % 16 < 2 ^ 31 by omega)]
  exact ⟨by decide, vp_in_nI (by omega) (by decide), by decide, by decide, vp_in_nI (by omega) (by decide), rfl⟩
theorem c_store (G : oG) (σ : oT) (m : MS) (hO : OkM m) (hR : RCg m σ) {p a : Nat} (x : Int32) (hp : p < 3) (ha : a < 256) (hne : q_pg m (p * 16 + a / 16) ≠ 0) : Mt G m_M_store [.ref 2, .int (nI p), .int (nI a), .int x] (enc σ) 0 0 (fun v h' => v = none ∧ h' = enc (sI σ 2 (upd (σ.1 2) (q_loc m p a) x))) := by
  obtain ⟨e1, e2⟩ := pgv_div hO hne
  have hl := q_loc_lt hO p a
  have e3 : σ.1 3 (p * 16 + a / 16) = nI (q_pg m (p * 16 + a / 16) - 1) := by rw [hR _ (by omega), e1]
  have hl2 : (q_pg m (p * 16 + a / 16) - 1) / 8 * 16 + a % 16 < 320 := hl
  refine Mt.of (by decide) (Nat.le_of_ble_eq_true rfl) (s_M_store_0 _ _ _ _ _ ?_)
  simp only [k_M_store_0, o_iconst, o_lconst, o_iload, o_lload, o_aload, o_istore, o_lstore, o_astore, o_iinc, o_iadd, o_isub, o_imul, o_iand, o_ior, o_idiv, o_irem, o_lor, o_lushr, o_lshl, o_i2l, o_l2i, o_lcmp, o_dup, o_pop, o_dup2, o_ifeq, o_ifne, o_iflt, o_ifge, o_ifgt, o_ifle, o_icmpeq, o_icmpne, o_icmplt, o_icmpge, o_icmpgt, o_icmple, o_jmp, o_tsw, o_iret, o_zret, o_lret, o_vret, o_getf, o_putfI, o_putfR, o_iald, o_alen, o_lald, o_zald, o_iast, o_last, o_zast, o_aald, o_aast, o_new, o_newa, o_callS, o_callI, o_callV, o_objInit, o_mmax, o_mmin, o_lk, o_up1, o_up2, o_cl1, o_cl2, o_keep, o_c2, List.getElem?_cons_zero, List.getElem?_cons_succ, List.drop_zero, List.drop_succ_cons, List.take_zero, List.take_succ_cons, List.reverse_cons, List.reverse_nil, List.nil_append, List.cons_append, List.map_cons, List.map_nil, List.sum_cons, List.sum_nil, Value.category, List.length_cons, List.length_nil, List.set_cons_zero, List.set_cons_succ, Option.toList_some, Option.toList_none, lv_args, ↓reduceIte, Nat.reduceAdd, Nat.reduceSub, Nat.reduceMul, Nat.reduceEqDiff, Nat.reduceLeDiff, Nat.reduceLT, reduceCtorEq, Bool.false_eq_true, and_true, true_and, and_self, and_false, false_and, Nat.zero_add, Nat.le_refl, Nat.zero_le, true_or, or_true, not_true_eq_false, not_false_eq_true, forall_const, false_implies, implies_true, true_implies, Int32.reduceAdd, Int32.reduceLE, Int32.reduceLT, Int32.reduceSub, Int32.reduceMul, Int32.reduceToNatClampNeg, og_0, oi_0, ef_0_8, og_1, oi_1, og_2, oi_2, oq_2, es_2, og_3, oi_3, oq_3, es_3, og_4, oi_4, oq_4, es_4, og_5, oi_5, ef_5_2, og_6, oi_6, es_6, og_7, oi_7, oq_7, es_7, og_8, oi_8, og_9, oi_9, oq_9, es_9, og_10, oi_10, oq_10, es_10, og_11, oi_11, oq_11, es_11, og_12, oi_12, oq_12, es_12, og_13, oi_13, oq_13, es_13, og_14, oi_14, og_15, oi_15, og_16, oi_16, ef_16_2, og_17, oi_17, oq_17, es_17, og_18, oi_18, oq_18, es_18, og_19, oi_19, oq_19, es_19, og_20, oi_20, ef_20_1, og_21, oi_21, oq_21, es_21, og_22, oi_22, ef_22_1, og_23, oi_23, oq_23, es_23, og_24, oi_24, ef_24_1, og_25, oi_25, oq_25, es_25, og_26, oi_26, ef_26_1, og_27, oi_27, oq_27, es_27, og_28, oi_28, ef_28_1, og_29, oi_29, oq_29, es_29, og_30, oi_30, ef_30_1, og_31, oi_31, oq_31, es_31, og_32, oi_32, ef_32_1, og_33, oi_33, oq_33, es_33, og_34, oi_34, ef_34_1, og_35, oi_35, oq_35, es_35, dv_16 (show a < 2 ^ 31 by omega), ix_16, nI_clamp (show p * 16 + a / 16 < 2 ^ 31 by omega), e3, dv_8 (show q_pg m (p * 16 + a / 16) - 1 < 2 ^ 31 by omega), rm_16 (show a < 2 ^ 31 by omega), nI_clamp (show (q_pg m (p * 16 + a / 16) - 1) / 8 * 16 + a % 16 < 2 ^ 31 by omega)]
  exact ⟨by decide, vp_in_nI (by omega) (by decide), by decide, by decide, vp_in_nI (by omega) (by decide), rfl⟩
theorem bits5 : ∀ e, e < 160 → ((nI e &&& 5 = 5) ↔ (e / 4 % 2 = 1 ∧ e / 1 % 2 = 1)) := by decide +kernel
theorem bits6 : ∀ e, e < 160 → ((nI e &&& 6 = 6) ↔ (e / 4 % 2 = 1 ∧ e / 2 % 2 = 1)) := by decide +kernel
theorem nI_nm1 : ∀ e, e < 160 → ¬ nI e = -1 := by decide +kernel
theorem bits_g {g : Nat} {nd : Int32} (hnd : (g = 1 ∧ nd = 5) ∨ (g = 2 ∧ nd = 6)) {e : Nat} (he : e < 160) : (nI e &&& nd = nd) ↔ (e / 4 % 2 = 1 ∧ e / g % 2 = 1) := by
  rcases hnd with ⟨rfl, rfl⟩ | ⟨rfl, rfl⟩
  · exact bits5 e he
  · exact bits6 e he
theorem allows_loop (G : oG) (σ : oT) (m : MS) (hO : OkM m) (hR : RCg m σ) {p g last : Nat} {nd : Int32} (hp : p < 3) (hnd : (g = 1 ∧ nd = 5) ∨ (g = 2 ∧ nd = 6)) (hl : last < 16) (Post : oP) : ∀ k page : Nat, page + k = last + 1 → Post (some (.int (bz (decide (∀ q, q < last + 1 → page ≤ q → q_pok m p q g = true))))) (enc σ) → Wp G m_M_allows Post 54 0 0 [(0, .ref 2), (1, .int (nI p)), (5, .int (nI last)), (6, .int nd), (7, .int (nI page))] [] (enc σ) := by
  intro k
  induction k with
  | zero =>
    intro page hk hP
    have ht : decide (∀ q, q < last + 1 → page ≤ q → q_pok m p q g = true) = true := by
      rw [decide_eq_true_eq]
      intro q h1 h2
      omega
    rw [ht] at hP
    refine s_M_allows_54 _ _ _ _ _ ?_
    simp only [k_M_allows_54, o_iconst, o_lconst, o_iload, o_lload, o_aload, o_istore, o_lstore, o_astore, o_iinc, o_iadd, o_isub, o_imul, o_iand, o_ior, o_idiv, o_irem, o_lor, o_lushr, o_lshl, o_i2l, o_l2i, o_lcmp, o_dup, o_pop, o_dup2, o_ifeq, o_ifne, o_iflt, o_ifge, o_ifgt, o_ifle, o_icmpeq, o_icmpne, o_icmplt, o_icmpge, o_icmpgt, o_icmple, o_jmp, o_tsw, o_iret, o_zret, o_lret, o_vret, o_getf, o_putfI, o_putfR, o_iald, o_alen, o_lald, o_zald, o_iast, o_last, o_zast, o_aald, o_aast, o_new, o_newa, o_callS, o_callI, o_callV, o_objInit, o_mmax, o_mmin, o_lk, o_up1, o_up2, o_cl1, o_cl2, o_keep, o_c2, List.getElem?_cons_zero, List.getElem?_cons_succ, List.drop_zero, List.drop_succ_cons, List.take_zero, List.take_succ_cons, List.reverse_cons, List.reverse_nil, List.nil_append, List.cons_append, List.map_cons, List.map_nil, List.sum_cons, List.sum_nil, Value.category, List.length_cons, List.length_nil, List.set_cons_zero, List.set_cons_succ, Option.toList_some, Option.toList_none, lv_args, ↓reduceIte, Nat.reduceAdd, Nat.reduceSub, Nat.reduceMul, Nat.reduceEqDiff, Nat.reduceLeDiff, Nat.reduceLT, reduceCtorEq, Bool.false_eq_true, and_true, true_and, and_self, and_false, false_and, Nat.zero_add, Nat.le_refl, Nat.zero_le, true_or, or_true, not_true_eq_false, not_false_eq_true, forall_const, false_implies, implies_true, true_implies, Int32.reduceAdd, Int32.reduceLE, Int32.reduceLT, Int32.reduceSub, Int32.reduceMul, Int32.reduceToNatClampNeg, og_0, oi_0, ef_0_8, og_1, oi_1, og_2, oi_2, oq_2, es_2, og_3, oi_3, oq_3, es_3, og_4, oi_4, oq_4, es_4, og_5, oi_5, ef_5_2, og_6, oi_6, es_6, og_7, oi_7, oq_7, es_7, og_8, oi_8, og_9, oi_9, oq_9, es_9, og_10, oi_10, oq_10, es_10, og_11, oi_11, oq_11, es_11, og_12, oi_12, oq_12, es_12, og_13, oi_13, oq_13, es_13, og_14, oi_14, og_15, oi_15, og_16, oi_16, ef_16_2, og_17, oi_17, oq_17, es_17, og_18, oi_18, oq_18, es_18, og_19, oi_19, oq_19, es_19, og_20, oi_20, ef_20_1, og_21, oi_21, oq_21, es_21, og_22, oi_22, ef_22_1, og_23, oi_23, oq_23, es_23, og_24, oi_24, ef_24_1, og_25, oi_25, oq_25, es_25, og_26, oi_26, ef_26_1, og_27, oi_27, oq_27, es_27, og_28, oi_28, ef_28_1, og_29, oi_29, oq_29, es_29, og_30, oi_30, ef_30_1, og_31, oi_31, oq_31, es_31, og_32, oi_32, ef_32_1, og_33, oi_33, oq_33, es_33, og_34, oi_34, ef_34_1, og_35, oi_35, oq_35, es_35]
    exact ⟨fun _ => hP, fun q => absurd (nI_lt (show last < page by omega) (by omega)) q⟩
  | succ k ih =>
    intro page hk hP
    refine s_M_allows_54 _ _ _ _ _ ?_
    simp only [k_M_allows_54, o_iconst, o_lconst, o_iload, o_lload, o_aload, o_istore, o_lstore, o_astore, o_iinc, o_iadd, o_isub, o_imul, o_iand, o_ior, o_idiv, o_irem, o_lor, o_lushr, o_lshl, o_i2l, o_l2i, o_lcmp, o_dup, o_pop, o_dup2, o_ifeq, o_ifne, o_iflt, o_ifge, o_ifgt, o_ifle, o_icmpeq, o_icmpne, o_icmplt, o_icmpge, o_icmpgt, o_icmple, o_jmp, o_tsw, o_iret, o_zret, o_lret, o_vret, o_getf, o_putfI, o_putfR, o_iald, o_alen, o_lald, o_zald, o_iast, o_last, o_zast, o_aald, o_aast, o_new, o_newa, o_callS, o_callI, o_callV, o_objInit, o_mmax, o_mmin, o_lk, o_up1, o_up2, o_cl1, o_cl2, o_keep, o_c2, List.getElem?_cons_zero, List.getElem?_cons_succ, List.drop_zero, List.drop_succ_cons, List.take_zero, List.take_succ_cons, List.reverse_cons, List.reverse_nil, List.nil_append, List.cons_append, List.map_cons, List.map_nil, List.sum_cons, List.sum_nil, Value.category, List.length_cons, List.length_nil, List.set_cons_zero, List.set_cons_succ, Option.toList_some, Option.toList_none, lv_args, ↓reduceIte, Nat.reduceAdd, Nat.reduceSub, Nat.reduceMul, Nat.reduceEqDiff, Nat.reduceLeDiff, Nat.reduceLT, reduceCtorEq, Bool.false_eq_true, and_true, true_and, and_self, and_false, false_and, Nat.zero_add, Nat.le_refl, Nat.zero_le, true_or, or_true, not_true_eq_false, not_false_eq_true, forall_const, false_implies, implies_true, true_implies, Int32.reduceAdd, Int32.reduceLE, Int32.reduceLT, Int32.reduceSub, Int32.reduceMul, Int32.reduceToNatClampNeg, og_0, oi_0, ef_0_8, og_1, oi_1, og_2, oi_2, oq_2, es_2, og_3, oi_3, oq_3, es_3, og_4, oi_4, oq_4, es_4, og_5, oi_5, ef_5_2, og_6, oi_6, es_6, og_7, oi_7, oq_7, es_7, og_8, oi_8, og_9, oi_9, oq_9, es_9, og_10, oi_10, oq_10, es_10, og_11, oi_11, oq_11, es_11, og_12, oi_12, oq_12, es_12, og_13, oi_13, oq_13, es_13, og_14, oi_14, og_15, oi_15, og_16, oi_16, ef_16_2, og_17, oi_17, oq_17, es_17, og_18, oi_18, oq_18, es_18, og_19, oi_19, oq_19, es_19, og_20, oi_20, ef_20_1, og_21, oi_21, oq_21, es_21, og_22, oi_22, ef_22_1, og_23, oi_23, oq_23, es_23, og_24, oi_24, ef_24_1, og_25, oi_25, oq_25, es_25, og_26, oi_26, ef_26_1, og_27, oi_27, oq_27, es_27, og_28, oi_28, ef_28_1, og_29, oi_29, oq_29, es_29, og_30, oi_30, ef_30_1, og_31, oi_31, oq_31, es_31, og_32, oi_32, ef_32_1, og_33, oi_33, oq_33, es_33, og_34, oi_34, ef_34_1, og_35, oi_35, oq_35, es_35]
    refine ⟨fun q => absurd q (nI_nlt (show page ≤ last by omega) (by omega)), fun _ => ?_⟩
    refine o_use (c_entry G σ hp (show page < 16 by omega)) ?_
    rintro w h' ⟨rfl, rfl⟩
    refine s_M_allows_68 _ _ _ _ _ ?_
    simp only [k_M_allows_68, o_iconst, o_lconst, o_iload, o_lload, o_aload, o_istore, o_lstore, o_astore, o_iinc, o_iadd, o_isub, o_imul, o_iand, o_ior, o_idiv, o_irem, o_lor, o_lushr, o_lshl, o_i2l, o_l2i, o_lcmp, o_dup, o_pop, o_dup2, o_ifeq, o_ifne, o_iflt, o_ifge, o_ifgt, o_ifle, o_icmpeq, o_icmpne, o_icmplt, o_icmpge, o_icmpgt, o_icmple, o_jmp, o_tsw, o_iret, o_zret, o_lret, o_vret, o_getf, o_putfI, o_putfR, o_iald, o_alen, o_lald, o_zald, o_iast, o_last, o_zast, o_aald, o_aast, o_new, o_newa, o_callS, o_callI, o_callV, o_objInit, o_mmax, o_mmin, o_lk, o_up1, o_up2, o_cl1, o_cl2, o_keep, o_c2, List.getElem?_cons_zero, List.getElem?_cons_succ, List.drop_zero, List.drop_succ_cons, List.take_zero, List.take_succ_cons, List.reverse_cons, List.reverse_nil, List.nil_append, List.cons_append, List.map_cons, List.map_nil, List.sum_cons, List.sum_nil, Value.category, List.length_cons, List.length_nil, List.set_cons_zero, List.set_cons_succ, Option.toList_some, Option.toList_none, lv_args, ↓reduceIte, Nat.reduceAdd, Nat.reduceSub, Nat.reduceMul, Nat.reduceEqDiff, Nat.reduceLeDiff, Nat.reduceLT, reduceCtorEq, Bool.false_eq_true, and_true, true_and, and_self, and_false, false_and, Nat.zero_add, Nat.le_refl, Nat.zero_le, true_or, or_true, not_true_eq_false, not_false_eq_true, forall_const, false_implies, implies_true, true_implies, Int32.reduceAdd, Int32.reduceLE, Int32.reduceLT, Int32.reduceSub, Int32.reduceMul, Int32.reduceToNatClampNeg, og_0, oi_0, ef_0_8, og_1, oi_1, og_2, oi_2, oq_2, es_2, og_3, oi_3, oq_3, es_3, og_4, oi_4, oq_4, es_4, og_5, oi_5, ef_5_2, og_6, oi_6, es_6, og_7, oi_7, oq_7, es_7, og_8, oi_8, og_9, oi_9, oq_9, es_9, og_10, oi_10, oq_10, es_10, og_11, oi_11, oq_11, es_11, og_12, oi_12, oq_12, es_12, og_13, oi_13, oq_13, es_13, og_14, oi_14, og_15, oi_15, og_16, oi_16, ef_16_2, og_17, oi_17, oq_17, es_17, og_18, oi_18, oq_18, es_18, og_19, oi_19, oq_19, es_19, og_20, oi_20, ef_20_1, og_21, oi_21, oq_21, es_21, og_22, oi_22, ef_22_1, og_23, oi_23, oq_23, es_23, og_24, oi_24, ef_24_1, og_25, oi_25, oq_25, es_25, og_26, oi_26, ef_26_1, og_27, oi_27, oq_27, es_27, og_28, oi_28, ef_28_1, og_29, oi_29, oq_29, es_29, og_30, oi_30, ef_30_1, og_31, oi_31, oq_31, es_31, og_32, oi_32, ef_32_1, og_33, oi_33, oq_33, es_33, og_34, oi_34, ef_34_1, og_35, oi_35, oq_35, es_35, hR (p * 16 + page) (by omega), nI_1]
    have hno : q_pok m p page g = false → decide (∀ q, q < last + 1 → page ≤ q → q_pok m p q g = true) = false := by
      intro h0
      rw [decide_eq_false_iff_not]
      intro hA
      rw [hA page (by omega) (Nat.le_refl _)] at h0
      cases h0
    by_cases h0 : q_pg m (p * 16 + page) = 0
    · have hf : q_pok m p page g = false := by simp [q_pok, h0]
      rw [hno hf] at hP
      rw [h0]
      exact ⟨fun _ => hP, fun q => absurd rfl q⟩
    · obtain ⟨e1, e2⟩ := pgv_div hO h0
      rw [e1]
      refine ⟨fun q => absurd q (nI_nm1 _ e2), fun _ => ⟨fun q => ?_, fun q => ?_⟩⟩
      · have hq := (bits_g hnd e2).mp q
        refine ih (page + 1) (by omega) ?_
        have hs : (∀ q, q < last + 1 → page ≤ q → q_pok m p q g = true) ↔ ∀ q, q < last + 1 → page + 1 ≤ q → q_pok m p q g = true := by
          refine ⟨fun h q h1 h2 => h q h1 (by omega), fun h q h1 h2 => ?_⟩
          rcases Nat.eq_or_lt_of_le h2 with h3 | h3
          · subst h3
            simp [q_pok, h0, hq.1, hq.2]
          · exact h q h1 h3
        rw [decide_eq_decide.mpr hs] at hP
        exact hP
      · have hf : q_pok m p page g = false := by
          have : ¬ ((q_pg m (p * 16 + page) - 1) / 4 % 2 = 1 ∧ (q_pg m (p * 16 + page) - 1) / g % 2 = 1) := fun hh => q ((bits_g hnd e2).mpr hh)
          cases hz : q_pok m p page g with
          | false => rfl
          | true =>
            unfold q_pok at hz
            simp only [Bool.and_eq_true, decide_eq_true_eq] at hz
            exact absurd hz.2 this
        rw [hno hf] at hP
        exact hP
theorem q_okn_pages {m : MS} {p a n g : Nat} (hn : 0 < n) (ha : a + n ≤ 256) : q_okn m p (nI a) n g = decide (∀ q, q < (a + n - 1) / 16 + 1 → a / 16 ≤ q → q_pok m p q g = true) := by
  have e : (decide (n = 0) || (decide ((0 : Int32) ≤ nI a) && decide (∀ i, i < n → q_ok m p ((nI a).toNatClampNeg + i) g = true))) = decide (∀ i, i < n → q_ok m p (a + i) g = true) := by
    rw [nI_clamp (by omega)]
    simp [Nat.ne_of_gt hn, nI_pos' (show a < 2 ^ 31 by omega)]
  unfold q_okn
  rw [e]
  apply decide_eq_decide.mpr
  constructor
  · intro h q h1 h2
    by_cases hc : a / 16 = q
    · have := h 0 hn
      unfold q_ok at this
      rw [Bool.and_eq_true] at this
      rw [Nat.add_zero, hc] at this
      exact this.2
    · have := h (q * 16 - a) (by omega)
      unfold q_ok at this
      rw [Bool.and_eq_true] at this
      have e2 : (a + (q * 16 - a)) / 16 = q := by omega
      rw [e2] at this
      exact this.2
  · intro h i hi
    unfold q_ok
    rw [Bool.and_eq_true, decide_eq_true_eq]
    exact ⟨by omega, h _ (by omega) (by omega)⟩
theorem c_allows (G : oG) (σ : oT) (m : MS) (hO : OkM m) (hR : RCg m σ) {p n g : Nat} {a : Int32} (hp : p < 3) (hn : n ≤ 256) (hg : g = 1 ∨ g = 2) : Mt G m_M_allows [.ref 2, .int (nI p), .int a, .int (nI n), .int (nI g)] (enc σ) 0 0 (fun v h' => v = some (.int (bz (q_okn m p a n g))) ∧ h' = enc σ) := by
  refine Mt.of (by decide) (Nat.le_of_ble_eq_true rfl) (s_M_allows_0 _ _ _ _ _ ?_)
  simp only [k_M_allows_0, o_iconst, o_lconst, o_iload, o_lload, o_aload, o_istore, o_lstore, o_astore, o_iinc, o_iadd, o_isub, o_imul, o_iand, o_ior, o_idiv, o_irem, o_lor, o_lushr, o_lshl, o_i2l, o_l2i, o_lcmp, o_dup, o_pop, o_dup2, o_ifeq, o_ifne, o_iflt, o_ifge, o_ifgt, o_ifle, o_icmpeq, o_icmpne, o_icmplt, o_icmpge, o_icmpgt, o_icmple, o_jmp, o_tsw, o_iret, o_zret, o_lret, o_vret, o_getf, o_putfI, o_putfR, o_iald, o_alen, o_lald, o_zald, o_iast, o_last, o_zast, o_aald, o_aast, o_new, o_newa, o_callS, o_callI, o_callV, o_objInit, o_mmax, o_mmin, o_lk, o_up1, o_up2, o_cl1, o_cl2, o_keep, o_c2, List.getElem?_cons_zero, List.getElem?_cons_succ, List.drop_zero, List.drop_succ_cons, List.take_zero, List.take_succ_cons, List.reverse_cons, List.reverse_nil, List.nil_append, List.cons_append, List.map_cons, List.map_nil, List.sum_cons, List.sum_nil, Value.category, List.length_cons, List.length_nil, List.set_cons_zero, List.set_cons_succ, Option.toList_some, Option.toList_none, lv_args, ↓reduceIte, Nat.reduceAdd, Nat.reduceSub, Nat.reduceMul, Nat.reduceEqDiff, Nat.reduceLeDiff, Nat.reduceLT, reduceCtorEq, Bool.false_eq_true, and_true, true_and, and_self, and_false, false_and, Nat.zero_add, Nat.le_refl, Nat.zero_le, true_or, or_true, not_true_eq_false, not_false_eq_true, forall_const, false_implies, implies_true, true_implies, Int32.reduceAdd, Int32.reduceLE, Int32.reduceLT, Int32.reduceSub, Int32.reduceMul, Int32.reduceToNatClampNeg, og_0, oi_0, ef_0_8, og_1, oi_1, og_2, oi_2, oq_2, es_2, og_3, oi_3, oq_3, es_3, og_4, oi_4, oq_4, es_4, og_5, oi_5, ef_5_2, og_6, oi_6, es_6, og_7, oi_7, oq_7, es_7, og_8, oi_8, og_9, oi_9, oq_9, es_9, og_10, oi_10, oq_10, es_10, og_11, oi_11, oq_11, es_11, og_12, oi_12, oq_12, es_12, og_13, oi_13, oq_13, es_13, og_14, oi_14, og_15, oi_15, og_16, oi_16, ef_16_2, og_17, oi_17, oq_17, es_17, og_18, oi_18, oq_18, es_18, og_19, oi_19, oq_19, es_19, og_20, oi_20, ef_20_1, og_21, oi_21, oq_21, es_21, og_22, oi_22, ef_22_1, og_23, oi_23, oq_23, es_23, og_24, oi_24, ef_24_1, og_25, oi_25, oq_25, es_25, og_26, oi_26, ef_26_1, og_27, oi_27, oq_27, es_27, og_28, oi_28, ef_28_1, og_29, oi_29, oq_29, es_29, og_30, oi_30, ef_30_1, og_31, oi_31, oq_31, es_31, og_32, oi_32, ef_32_1, og_33, oi_33, oq_33, es_33, og_34, oi_34, ef_34_1, og_35, oi_35, oq_35, es_35]
  refine ⟨fun h0 => ?_, fun h0 => ?_⟩
  · have hn0 : 0 < n := by
      rcases Nat.eq_zero_or_pos n with e | e
      · subst e; exact absurd rfl h0
      · exact e
    refine s_M_allows_6 _ _ _ _ _ ?_
    simp only [k_M_allows_6, o_iconst, o_lconst, o_iload, o_lload, o_aload, o_istore, o_lstore, o_astore, o_iinc, o_iadd, o_isub, o_imul, o_iand, o_ior, o_idiv, o_irem, o_lor, o_lushr, o_lshl, o_i2l, o_l2i, o_lcmp, o_dup, o_pop, o_dup2, o_ifeq, o_ifne, o_iflt, o_ifge, o_ifgt, o_ifle, o_icmpeq, o_icmpne, o_icmplt, o_icmpge, o_icmpgt, o_icmple, o_jmp, o_tsw, o_iret, o_zret, o_lret, o_vret, o_getf, o_putfI, o_putfR, o_iald, o_alen, o_lald, o_zald, o_iast, o_last, o_zast, o_aald, o_aast, o_new, o_newa, o_callS, o_callI, o_callV, o_objInit, o_mmax, o_mmin, o_lk, o_up1, o_up2, o_cl1, o_cl2, o_keep, o_c2, List.getElem?_cons_zero, List.getElem?_cons_succ, List.drop_zero, List.drop_succ_cons, List.take_zero, List.take_succ_cons, List.reverse_cons, List.reverse_nil, List.nil_append, List.cons_append, List.map_cons, List.map_nil, List.sum_cons, List.sum_nil, Value.category, List.length_cons, List.length_nil, List.set_cons_zero, List.set_cons_succ, Option.toList_some, Option.toList_none, lv_args, ↓reduceIte, Nat.reduceAdd, Nat.reduceSub, Nat.reduceMul, Nat.reduceEqDiff, Nat.reduceLeDiff, Nat.reduceLT, reduceCtorEq, Bool.false_eq_true, and_true, true_and, and_self, and_false, false_and, Nat.zero_add, Nat.le_refl, Nat.zero_le, true_or, or_true, not_true_eq_false, not_false_eq_true, forall_const, false_implies, implies_true, true_implies, Int32.reduceAdd, Int32.reduceLE, Int32.reduceLT, Int32.reduceSub, Int32.reduceMul, Int32.reduceToNatClampNeg, og_0, oi_0, ef_0_8, og_1, oi_1, og_2, oi_2, oq_2, es_2, og_3, oi_3, oq_3, es_3, og_4, oi_4, oq_4, es_4, og_5, oi_5, ef_5_2, og_6, oi_6, es_6, og_7, oi_7, oq_7, es_7, og_8, oi_8, og_9, oi_9, oq_9, es_9, og_10, oi_10, oq_10, es_10, og_11, oi_11, oq_11, es_11, og_12, oi_12, oq_12, es_12, og_13, oi_13, oq_13, es_13, og_14, oi_14, og_15, oi_15, og_16, oi_16, ef_16_2, og_17, oi_17, oq_17, es_17, og_18, oi_18, oq_18, es_18, og_19, oi_19, oq_19, es_19, og_20, oi_20, ef_20_1, og_21, oi_21, oq_21, es_21, og_22, oi_22, ef_22_1, og_23, oi_23, oq_23, es_23, og_24, oi_24, ef_24_1, og_25, oi_25, oq_25, es_25, og_26, oi_26, ef_26_1, og_27, oi_27, oq_27, es_27, og_28, oi_28, ef_28_1, og_29, oi_29, oq_29, es_29, og_30, oi_30, ef_30_1, og_31, oi_31, oq_31, es_31, og_32, oi_32, ef_32_1, og_33, oi_33, oq_33, es_33, og_34, oi_34, ef_34_1, og_35, oi_35, oq_35, es_35]
    refine ⟨fun q => absurd q (nI_pos (by omega)), fun _ => ⟨fun q => absurd q (nI_nlt (a := 256) hn (by decide)), fun _ => ⟨fun q => ?_, fun q => ⟨fun q2 => ?_, fun q2 => ?_⟩⟩⟩⟩
    · simp [q_okn, Nat.ne_of_gt hn0, i_nle q, bz]
    · obtain ⟨b, hb, rfl⟩ := nI_of q
      rw [show (256 : Int32) = nI 256 from rfl, pk_sub hn] at q2
      have q3 := (nI_leI hb (by omega)).mp q2
      have hab : b + n ≤ 256 := by omega
      refine s_M_allows_32 _ _ _ _ _ ?_
      have e1 : nI b + nI n - 1 = nI (b + n - 1) := by rw [nI_add, show (1 : Int32) = nI 1 from rfl, pk_sub (by omega)]
      simp only [k_M_allows_32, o_iconst, o_lconst, o_iload, o_lload, o_aload, o_istore, o_lstore, o_astore, o_iinc, o_iadd, o_isub, o_imul, o_iand, o_ior, o_idiv, o_irem, o_lor, o_lushr, o_lshl, o_i2l, o_l2i, o_lcmp, o_dup, o_pop, o_dup2, o_ifeq, o_ifne, o_iflt, o_ifge, o_ifgt, o_ifle, o_icmpeq, o_icmpne, o_icmplt, o_icmpge, o_icmpgt, o_icmple, o_jmp, o_tsw, o_iret, o_zret, o_lret, o_vret, o_getf, o_putfI, o_putfR, o_iald, o_alen, o_lald, o_zald, o_iast, o_last, o_zast, o_aald, o_aast, o_new, o_newa, o_callS, o_callI, o_callV, o_objInit, o_mmax, o_mmin, o_lk, o_up1, o_up2, o_cl1, o_cl2, o_keep, o_c2, List.getElem?_cons_zero, List.getElem?_cons_succ, List.drop_zero, List.drop_succ_cons, List.take_zero, List.take_succ_cons, List.reverse_cons, List.reverse_nil, List.nil_append, List.cons_append, List.map_cons, List.map_nil, List.sum_cons, List.sum_nil, Value.category, List.length_cons, List.length_nil, List.set_cons_zero, List.set_cons_succ, Option.toList_some, Option.toList_none, lv_args, ↓reduceIte, Nat.reduceAdd, Nat.reduceSub, Nat.reduceMul, Nat.reduceEqDiff, Nat.reduceLeDiff, Nat.reduceLT, reduceCtorEq, Bool.false_eq_true, and_true, true_and, and_self, and_false, false_and, Nat.zero_add, Nat.le_refl, Nat.zero_le, true_or, or_true, not_true_eq_false, not_false_eq_true, forall_const, false_implies, implies_true, true_implies, Int32.reduceAdd, Int32.reduceLE, Int32.reduceLT, Int32.reduceSub, Int32.reduceMul, Int32.reduceToNatClampNeg, og_0, oi_0, ef_0_8, og_1, oi_1, og_2, oi_2, oq_2, es_2, og_3, oi_3, oq_3, es_3, og_4, oi_4, oq_4, es_4, og_5, oi_5, ef_5_2, og_6, oi_6, es_6, og_7, oi_7, oq_7, es_7, og_8, oi_8, og_9, oi_9, oq_9, es_9, og_10, oi_10, oq_10, es_10, og_11, oi_11, oq_11, es_11, og_12, oi_12, oq_12, es_12, og_13, oi_13, oq_13, es_13, og_14, oi_14, og_15, oi_15, og_16, oi_16, ef_16_2, og_17, oi_17, oq_17, es_17, og_18, oi_18, oq_18, es_18, og_19, oi_19, oq_19, es_19, og_20, oi_20, ef_20_1, og_21, oi_21, oq_21, es_21, og_22, oi_22, ef_22_1, og_23, oi_23, oq_23, es_23, og_24, oi_24, ef_24_1, og_25, oi_25, oq_25, es_25, og_26, oi_26, ef_26_1, og_27, oi_27, oq_27, es_27, og_28, oi_28, ef_28_1, og_29, oi_29, oq_29, es_29, og_30, oi_30, ef_30_1, og_31, oi_31, oq_31, es_31, og_32, oi_32, ef_32_1, og_33, oi_33, oq_33, es_33, og_34, oi_34, ef_34_1, og_35, oi_35, oq_35, es_35, e1, dv_16 (show b + n - 1 < 2 ^ 31 by omega), dv_16 (show b < 2 ^ 31 by omega)]
      refine ⟨by decide, by decide, ?_⟩
      refine allows_loop G σ m hO hR (g := g) hp (by rcases hg with rfl | rfl; exact Or.inl ⟨rfl, by decide⟩; exact Or.inr ⟨rfl, by decide⟩) (by omega) _ ((b + n - 1) / 16 + 1 - b / 16) (b / 16) (by omega) ?_
      exact ⟨by rw [q_okn_pages hn0 hab], rfl⟩
    · obtain ⟨b, hb, rfl⟩ := nI_of q
      rw [show (256 : Int32) = nI 256 from rfl, pk_sub hn] at q2
      have q3 : ¬ b ≤ 256 - n := fun h => q2 ((nI_leI hb (by omega)).mpr h)
      have hf : decide (∀ i, i < n → q_ok m p ((nI b).toNatClampNeg + i) g = true) = false := by
        rw [decide_eq_false_iff_not, nI_clamp hb]
        intro h
        have := h (n - 1) (by omega)
        unfold q_ok at this
        rw [Bool.and_eq_true, decide_eq_true_eq] at this
        omega
      simp [q_okn, Nat.ne_of_gt hn0, hf, bz]
  · have hn0 : n = 0 := by
      rcases Nat.eq_zero_or_pos n with e | e
      · exact e
      · exact absurd h0 (nI_ne0 e (by omega))
    subst hn0
    simp [q_okn, bz]
