/-! Files and pipes by their numbers; the methods that move their bytes. -/
theorem og_file {f : Nat} (hf : f < 6) (σ : oT) : o_get (enc σ) (.ref (21 + 2 * f)) = some (.inr (5, [.ref (22 + 2 * f), .int (σ.2.2 (20 + 2 * f) 1)])) := match f, hf with
  | 0, _ => rfl
  | 1, _ => rfl
  | 2, _ => rfl
  | 3, _ => rfl
  | 4, _ => rfl
  | 5, _ => rfl
theorem og_fileb {f : Nat} (hf : f < 6) (σ : oT) : o_get (enc σ) (.ref (22 + 2 * f)) = some (.inl (0, 24, .inl (σ.1 (21 + 2 * f)))) := match f, hf with
  | 0, _ => rfl
  | 1, _ => rfl
  | 2, _ => rfl
  | 3, _ => rfl
  | 4, _ => rfl
  | 5, _ => rfl
theorem oq_fileb {f : Nat} (hf : f < 6) (G : oG) (σ : oT) : o_ints G (enc σ) (.ref (22 + 2 * f)) = some (24, σ.1 (21 + 2 * f)) := match f, hf with
  | 0, _ => rfl
  | 1, _ => rfl
  | 2, _ => rfl
  | 3, _ => rfl
  | 4, _ => rfl
  | 5, _ => rfl
theorem es_fileb {f : Nat} (hf : f < 6) (σ : oT) (g : Nat → Int32) : (enc σ).set (o_ix (.ref (22 + 2 * f))) (.inl (0, 24, .inl g)) = enc (sI σ (21 + 2 * f) g) := match f, hf with
  | 0, _ => rfl
  | 1, _ => rfl
  | 2, _ => rfl
  | 3, _ => rfl
  | 4, _ => rfl
  | 5, _ => rfl
theorem ef_file {f : Nat} (hf : f < 6) (σ : oT) (x : Int32) : (enc σ).set (o_ix (.ref (21 + 2 * f))) (.inr (5, [.ref (22 + 2 * f), .int x])) = enc (sF σ (20 + 2 * f) 1 x) := match f, hf with
  | 0, _ => rfl
  | 1, _ => rfl
  | 2, _ => rfl
  | 3, _ => rfl
  | 4, _ => rfl
  | 5, _ => rfl
theorem fa_file {f : Nat} (hf : f < 6) : (va_up (va_up (va_up (va_up (va_up (va_up (fun _ => none) 0 (some 21)) 1 (some 23)) 2 (some 25)) 3 (some 27)) 4 (some 29)) 5 (some 31)) f = some (21 + 2 * f) := match f, hf with
  | 0, _ => rfl
  | 1, _ => rfl
  | 2, _ => rfl
  | 3, _ => rfl
  | 4, _ => rfl
  | 5, _ => rfl
theorem og_pipe {f : Nat} (hf : f < 2) (σ : oT) : o_get (enc σ) (.ref (33 + 2 * f)) = some (.inr (3, [.ref (34 + 2 * f), .int (σ.2.2 (32 + 2 * f) 1)])) := match f, hf with
  | 0, _ => rfl
  | 1, _ => rfl
theorem og_pipeb {f : Nat} (hf : f < 2) (σ : oT) : o_get (enc σ) (.ref (34 + 2 * f)) = some (.inl (0, 8, .inl (σ.1 (33 + 2 * f)))) := match f, hf with
  | 0, _ => rfl
  | 1, _ => rfl
theorem oq_pipeb {f : Nat} (hf : f < 2) (G : oG) (σ : oT) : o_ints G (enc σ) (.ref (34 + 2 * f)) = some (8, σ.1 (33 + 2 * f)) := match f, hf with
  | 0, _ => rfl
  | 1, _ => rfl
theorem es_pipeb {f : Nat} (hf : f < 2) (σ : oT) (g : Nat → Int32) : (enc σ).set (o_ix (.ref (34 + 2 * f))) (.inl (0, 8, .inl g)) = enc (sI σ (33 + 2 * f) g) := match f, hf with
  | 0, _ => rfl
  | 1, _ => rfl
theorem ef_pipe {f : Nat} (hf : f < 2) (σ : oT) (x : Int32) : (enc σ).set (o_ix (.ref (33 + 2 * f))) (.inr (3, [.ref (34 + 2 * f), .int x])) = enc (sF σ (32 + 2 * f) 1 x) := match f, hf with
  | 0, _ => rfl
  | 1, _ => rfl
theorem fa_pipe {f : Nat} (hf : f < 2) : (va_up (va_up (fun _ => none) 0 (some 33)) 1 (some 35)) f = some (33 + 2 * f) := match f, hf with
  | 0, _ => rfl
  | 1, _ => rfl
theorem copyOut_loop (G : oG) (σ : oT) {f pos n : Nat} (hf : f < 6) (hn : pos + n ≤ 24) (Post : oP) (hP : ∀ g : Nat → Int32, (∀ i, i < n → g i = σ.1 (21 + 2 * f) (pos + i)) → Post none (enc (sI σ 19 g))) : ∀ k i : Nat, i + k = n → ∀ g : Nat → Int32, (∀ j, j < i → g j = σ.1 (21 + 2 * f) (pos + j)) → Wp G m_F_copyOut Post 3 0 0 [(0, .ref (21 + 2 * f)), (1, .int (nI pos)), (2, .ref 20), (3, .int (nI n)), (4, .int (nI i))] [] (enc (sI σ 19 g)) := by
  intro k
  induction k with
  | zero =>
    intro i hk g hg
    have e : i = n := by omega
    subst e
    refine s_F_copyOut_3 _ _ _ _ _ ?_
    simp only [k_F_copyOut_3, o_iconst, o_lconst, o_iload, o_lload, o_aload, o_istore, o_lstore, o_astore, o_iinc, o_iadd, o_isub, o_imul, o_iand, o_ior, o_idiv, o_irem, o_lor, o_lushr, o_lshl, o_i2l, o_l2i, o_lcmp, o_dup, o_pop, o_dup2, o_ifeq, o_ifne, o_iflt, o_ifge, o_ifgt, o_ifle, o_icmpeq, o_icmpne, o_icmplt, o_icmpge, o_icmpgt, o_icmple, o_jmp, o_tsw, o_iret, o_zret, o_lret, o_vret, o_getf, o_putfI, o_putfR, o_iald, o_alen, o_lald, o_zald, o_iast, o_last, o_zast, o_aald, o_aast, o_new, o_newa, o_callS, o_callI, o_callV, o_objInit, o_mmax, o_mmin, o_lk, o_up1, o_up2, o_cl1, o_cl2, o_keep, o_c2, List.getElem?_cons_zero, List.getElem?_cons_succ, List.drop_zero, List.drop_succ_cons, List.take_zero, List.take_succ_cons, List.reverse_cons, List.reverse_nil, List.nil_append, List.cons_append, List.map_cons, List.map_nil, List.sum_cons, List.sum_nil, Value.category, List.length_cons, List.length_nil, List.set_cons_zero, List.set_cons_succ, Option.toList_some, Option.toList_none, lv_args, ↓reduceIte, Nat.reduceAdd, Nat.reduceSub, Nat.reduceMul, Nat.reduceEqDiff, Nat.reduceLeDiff, Nat.reduceLT, reduceCtorEq, Bool.false_eq_true, and_true, true_and, and_self, and_false, false_and, Nat.zero_add, Nat.le_refl, Nat.zero_le, true_or, or_true, not_true_eq_false, not_false_eq_true, forall_const, false_implies, implies_true, true_implies, Int32.reduceAdd, Int32.reduceLE, Int32.reduceLT, Int32.reduceSub, Int32.reduceMul, Int32.reduceToNatClampNeg, og_0, oi_0, ef_0_8, og_1, oi_1, og_2, oi_2, oq_2, es_2, og_3, oi_3, oq_3, es_3, og_4, oi_4, oq_4, es_4, og_5, oi_5, ef_5_2, og_6, oi_6, es_6, og_7, oi_7, oq_7, es_7, og_8, oi_8, og_9, oi_9, oq_9, es_9, og_10, oi_10, oq_10, es_10, og_11, oi_11, oq_11, es_11, og_12, oi_12, oq_12, es_12, og_13, oi_13, oq_13, es_13, og_14, oi_14, og_15, oi_15, og_16, oi_16, ef_16_2, og_17, oi_17, oq_17, es_17, og_18, oi_18, oq_18, es_18, og_19, oi_19, oq_19, es_19, og_20, oi_20, ef_20_1, og_21, oi_21, oq_21, es_21, og_22, oi_22, ef_22_1, og_23, oi_23, oq_23, es_23, og_24, oi_24, ef_24_1, og_25, oi_25, oq_25, es_25, og_26, oi_26, ef_26_1, og_27, oi_27, oq_27, es_27, og_28, oi_28, ef_28_1, og_29, oi_29, oq_29, es_29, og_30, oi_30, ef_30_1, og_31, oi_31, oq_31, es_31, og_32, oi_32, ef_32_1, og_33, oi_33, oq_33, es_33, og_34, oi_34, ef_34_1, og_35, oi_35, oq_35, es_35]
    exact ⟨fun _ => hP g hg, fun q => absurd (nI_le (Nat.le_refl i) (by omega)) q⟩
  | succ k ih =>
    intro i hk g hg
    have hne : ¬ 21 + 2 * f = 19 := by omega
    refine s_F_copyOut_3 _ _ _ _ _ ?_
    simp only [k_F_copyOut_3, o_iconst, o_lconst, o_iload, o_lload, o_aload, o_istore, o_lstore, o_astore, o_iinc, o_iadd, o_isub, o_imul, o_iand, o_ior, o_idiv, o_irem, o_lor, o_lushr, o_lshl, o_i2l, o_l2i, o_lcmp, o_dup, o_pop, o_dup2, o_ifeq, o_ifne, o_iflt, o_ifge, o_ifgt, o_ifle, o_icmpeq, o_icmpne, o_icmplt, o_icmpge, o_icmpgt, o_icmple, o_jmp, o_tsw, o_iret, o_zret, o_lret, o_vret, o_getf, o_putfI, o_putfR, o_iald, o_alen, o_lald, o_zald, o_iast, o_last, o_zast, o_aald, o_aast, o_new, o_newa, o_callS, o_callI, o_callV, o_objInit, o_mmax, o_mmin, o_lk, o_up1, o_up2, o_cl1, o_cl2, o_keep, o_c2, List.getElem?_cons_zero, List.getElem?_cons_succ, List.drop_zero, List.drop_succ_cons, List.take_zero, List.take_succ_cons, List.reverse_cons, List.reverse_nil, List.nil_append, List.cons_append, List.map_cons, List.map_nil, List.sum_cons, List.sum_nil, Value.category, List.length_cons, List.length_nil, List.set_cons_zero, List.set_cons_succ, Option.toList_some, Option.toList_none, lv_args, ↓reduceIte, Nat.reduceAdd, Nat.reduceSub, Nat.reduceMul, Nat.reduceEqDiff, Nat.reduceLeDiff, Nat.reduceLT, reduceCtorEq, Bool.false_eq_true, and_true, true_and, and_self, and_false, false_and, Nat.zero_add, Nat.le_refl, Nat.zero_le, true_or, or_true, not_true_eq_false, not_false_eq_true, forall_const, false_implies, implies_true, true_implies, Int32.reduceAdd, Int32.reduceLE, Int32.reduceLT, Int32.reduceSub, Int32.reduceMul, Int32.reduceToNatClampNeg, og_0, oi_0, ef_0_8, og_1, oi_1, og_2, oi_2, oq_2, es_2, og_3, oi_3, oq_3, es_3, og_4, oi_4, oq_4, es_4, og_5, oi_5, ef_5_2, og_6, oi_6, es_6, og_7, oi_7, oq_7, es_7, og_8, oi_8, og_9, oi_9, oq_9, es_9, og_10, oi_10, oq_10, es_10, og_11, oi_11, oq_11, es_11, og_12, oi_12, oq_12, es_12, og_13, oi_13, oq_13, es_13, og_14, oi_14, og_15, oi_15, og_16, oi_16, ef_16_2, og_17, oi_17, oq_17, es_17, og_18, oi_18, oq_18, es_18, og_19, oi_19, oq_19, es_19, og_20, oi_20, ef_20_1, og_21, oi_21, oq_21, es_21, og_22, oi_22, ef_22_1, og_23, oi_23, oq_23, es_23, og_24, oi_24, ef_24_1, og_25, oi_25, oq_25, es_25, og_26, oi_26, ef_26_1, og_27, oi_27, oq_27, es_27, og_28, oi_28, ef_28_1, og_29, oi_29, oq_29, es_29, og_30, oi_30, ef_30_1, og_31, oi_31, oq_31, es_31, og_32, oi_32, ef_32_1, og_33, oi_33, oq_33, es_33, og_34, oi_34, ef_34_1, og_35, oi_35, oq_35, es_35, og_file hf, oq_fileb hf, sI_1, sI_2, if_neg hne, nI_add, nI_1, nI_clamp (show pos + i < 2 ^ 31 by omega), nI_clamp (show i < 2 ^ 31 by omega), sI_sI]
    refine ⟨fun q => absurd q (nI_ge (show i < n by omega) (by omega)), fun _ => ⟨vp_in_nI (by omega) (by decide), vp_in_nI (by omega) (by decide), ?_⟩⟩
    refine ih (i + 1) (by omega) _ ?_
    intro j hj
    simp only [upd]
    by_cases h : j = i
    · rw [if_pos h, h]
    · rw [if_neg h]
      exact hg j (by omega)
theorem sI_id (σ : oT) (k : Nat) : sI σ k (σ.1 k) = σ := by
  unfold sI
  refine Prod.ext ?_ rfl
  funext j
  by_cases h : j = k
  · rw [h]; simp
  · simp [h]
theorem c_copyOut (G : oG) (σ : oT) {f pos n : Nat} (hf : f < 6) (hn : pos + n ≤ 24) : Mt G m_F_copyOut [.ref (21 + 2 * f), .int (nI pos), .ref 20, .int (nI n)] (enc σ) 0 0 (fun v h' => v = none ∧ ∃ g : Nat → Int32, h' = enc (sI σ 19 g) ∧ ∀ i, i < n → g i = σ.1 (21 + 2 * f) (pos + i)) := by
  refine Mt.of (by decide) (Nat.le_of_ble_eq_true rfl) (s_F_copyOut_0 _ _ _ _ _ ?_)
  simp only [k_F_copyOut_0, o_iconst, o_lconst, o_iload, o_lload, o_aload, o_istore, o_lstore, o_astore, o_iinc, o_iadd, o_isub, o_imul, o_iand, o_ior, o_idiv, o_irem, o_lor, o_lushr, o_lshl, o_i2l, o_l2i, o_lcmp, o_dup, o_pop, o_dup2, o_ifeq, o_ifne, o_iflt, o_ifge, o_ifgt, o_ifle, o_icmpeq, o_icmpne, o_icmplt, o_icmpge, o_icmpgt, o_icmple, o_jmp, o_tsw, o_iret, o_zret, o_lret, o_vret, o_getf, o_putfI, o_putfR, o_iald, o_alen, o_lald, o_zald, o_iast, o_last, o_zast, o_aald, o_aast, o_new, o_newa, o_callS, o_callI, o_callV, o_objInit, o_mmax, o_mmin, o_lk, o_up1, o_up2, o_cl1, o_cl2, o_keep, o_c2, List.getElem?_cons_zero, List.getElem?_cons_succ, List.drop_zero, List.drop_succ_cons, List.take_zero, List.take_succ_cons, List.reverse_cons, List.reverse_nil, List.nil_append, List.cons_append, List.map_cons, List.map_nil, List.sum_cons, List.sum_nil, Value.category, List.length_cons, List.length_nil, List.set_cons_zero, List.set_cons_succ, Option.toList_some, Option.toList_none, lv_args, ↓reduceIte, Nat.reduceAdd, Nat.reduceSub, Nat.reduceMul, Nat.reduceEqDiff, Nat.reduceLeDiff, Nat.reduceLT, reduceCtorEq, Bool.false_eq_true, and_true, true_and, and_self, and_false, false_and, Nat.zero_add, Nat.le_refl, Nat.zero_le, true_or, or_true, not_true_eq_false, not_false_eq_true, forall_const, false_implies, implies_true, true_implies, Int32.reduceAdd, Int32.reduceLE, Int32.reduceLT, Int32.reduceSub, Int32.reduceMul, Int32.reduceToNatClampNeg]
  have h := copyOut_loop G σ hf hn (fun v h' => v = none ∧ ∃ g : Nat → Int32, h' = enc (sI σ 19 g) ∧ ∀ i, i < n → g i = σ.1 (21 + 2 * f) (pos + i)) (fun g hg => ⟨rfl, g, rfl, hg⟩) n 0 (by omega) (σ.1 19) (fun j hj => absurd hj (Nat.not_lt_zero _))
  rw [sI_id] at h
  exact h
def piF (σ : oT) (f L pos n : Nat) (i : Nat) : Int32 := if pos ≤ i ∧ i < pos + n then σ.1 19 (i - pos) else if L ≤ i ∧ i < pos then 0 else σ.1 (21 + 2 * f) i
theorem putIn_loop2 (G : oG) (σ : oT) {f L pos n : Nat} (hf : f < 6) (hL : L ≤ 24) (hs : σ.2.2 (20 + 2 * f) 1 = nI L) (hn : pos + n ≤ 24) (Post : oP) (hP : ∀ g : Nat → Int32, (∀ i, i < 24 → g i = piF σ f L pos n i) → Post none (enc (sF (sI σ (21 + 2 * f) g) (20 + 2 * f) 1 (nI (max L (pos + n)))))) : ∀ k i : Nat, i + k = n → ∀ g : Nat → Int32, (∀ j, j < 24 → g j = piF σ f L pos i j) → Wp G m_F_putIn Post 29 0 0 [(0, .ref (21 + 2 * f)), (1, .int (nI pos)), (2, .ref 20), (3, .int (nI n)), (4, .int (nI i))] [] (enc (sI σ (21 + 2 * f) g)) := by
  intro k
  have hne : ¬ 19 = 21 + 2 * f := by omega
  induction k with
  | zero =>
    intro i hk g hg
    have e : i = n := by omega
    subst e
    have em : (if nI L < nI (pos + i) then nI (pos + i) else nI L) = nI (max L (pos + i)) := by
      by_cases h : L < pos + i
      · rw [if_pos ((nI_ltI (by omega) (by omega)).mpr h), Nat.max_eq_right (by omega)]
      · rw [if_neg (fun q => h ((nI_ltI (by omega) (by omega)).mp q)), Nat.max_eq_left (by omega)]
    refine s_F_putIn_29 _ _ _ _ _ ?_
    simp only [k_F_putIn_29, o_iconst, o_lconst, o_iload, o_lload, o_aload, o_istore, o_lstore, o_astore, o_iinc, o_iadd, o_isub, o_imul, o_iand, o_ior, o_idiv, o_irem, o_lor, o_lushr, o_lshl, o_i2l, o_l2i, o_lcmp, o_dup, o_pop, o_dup2, o_ifeq, o_ifne, o_iflt, o_ifge, o_ifgt, o_ifle, o_icmpeq, o_icmpne, o_icmplt, o_icmpge, o_icmpgt, o_icmple, o_jmp, o_tsw, o_iret, o_zret, o_lret, o_vret, o_getf, o_putfI, o_putfR, o_iald, o_alen, o_lald, o_zald, o_iast, o_last, o_zast, o_aald, o_aast, o_new, o_newa, o_callS, o_callI, o_callV, o_objInit, o_mmax, o_mmin, o_lk, o_up1, o_up2, o_cl1, o_cl2, o_keep, o_c2, List.getElem?_cons_zero, List.getElem?_cons_succ, List.drop_zero, List.drop_succ_cons, List.take_zero, List.take_succ_cons, List.reverse_cons, List.reverse_nil, List.nil_append, List.cons_append, List.map_cons, List.map_nil, List.sum_cons, List.sum_nil, Value.category, List.length_cons, List.length_nil, List.set_cons_zero, List.set_cons_succ, Option.toList_some, Option.toList_none, lv_args, ↓reduceIte, Nat.reduceAdd, Nat.reduceSub, Nat.reduceMul, Nat.reduceEqDiff, Nat.reduceLeDiff, Nat.reduceLT, reduceCtorEq, Bool.false_eq_true, and_true, true_and, and_self, and_false, false_and, Nat.zero_add, Nat.le_refl, Nat.zero_le, true_or, or_true, not_true_eq_false, not_false_eq_true, forall_const, false_implies, implies_true, true_implies, Int32.reduceAdd, Int32.reduceLE, Int32.reduceLT, Int32.reduceSub, Int32.reduceMul, Int32.reduceToNatClampNeg, og_0, oi_0, ef_0_8, og_1, oi_1, og_2, oi_2, oq_2, es_2, og_3, oi_3, oq_3, es_3, og_4, oi_4, oq_4, es_4, og_5, oi_5, ef_5_2, og_6, oi_6, es_6, og_7, oi_7, oq_7, es_7, og_8, oi_8, og_9, oi_9, oq_9, es_9, og_10, oi_10, oq_10, es_10, og_11, oi_11, oq_11, es_11, og_12, oi_12, oq_12, es_12, og_13, oi_13, oq_13, es_13, og_14, oi_14, og_15, oi_15, og_16, oi_16, ef_16_2, og_17, oi_17, oq_17, es_17, og_18, oi_18, oq_18, es_18, og_19, oi_19, oq_19, es_19, og_20, oi_20, ef_20_1, og_21, oi_21, oq_21, es_21, og_22, oi_22, ef_22_1, og_23, oi_23, oq_23, es_23, og_24, oi_24, ef_24_1, og_25, oi_25, oq_25, es_25, og_26, oi_26, ef_26_1, og_27, oi_27, oq_27, es_27, og_28, oi_28, ef_28_1, og_29, oi_29, oq_29, es_29, og_30, oi_30, ef_30_1, og_31, oi_31, oq_31, es_31, og_32, oi_32, ef_32_1, og_33, oi_33, oq_33, es_33, og_34, oi_34, ef_34_1, og_35, oi_35, oq_35, es_35, og_file hf, ef_file hf, sI_2, hs, nI_add, em]
    exact ⟨fun _ => hP g hg, fun q => absurd (nI_le (Nat.le_refl i) (by omega)) q⟩
  | succ k ih =>
    intro i hk g hg
    refine s_F_putIn_29 _ _ _ _ _ ?_
    simp only [k_F_putIn_29, o_iconst, o_lconst, o_iload, o_lload, o_aload, o_istore, o_lstore, o_astore, o_iinc, o_iadd, o_isub, o_imul, o_iand, o_ior, o_idiv, o_irem, o_lor, o_lushr, o_lshl, o_i2l, o_l2i, o_lcmp, o_dup, o_pop, o_dup2, o_ifeq, o_ifne, o_iflt, o_ifge, o_ifgt, o_ifle, o_icmpeq, o_icmpne, o_icmplt, o_icmpge, o_icmpgt, o_icmple, o_jmp, o_tsw, o_iret, o_zret, o_lret, o_vret, o_getf, o_putfI, o_putfR, o_iald, o_alen, o_lald, o_zald, o_iast, o_last, o_zast, o_aald, o_aast, o_new, o_newa, o_callS, o_callI, o_callV, o_objInit, o_mmax, o_mmin, o_lk, o_up1, o_up2, o_cl1, o_cl2, o_keep, o_c2, List.getElem?_cons_zero, List.getElem?_cons_succ, List.drop_zero, List.drop_succ_cons, List.take_zero, List.take_succ_cons, List.reverse_cons, List.reverse_nil, List.nil_append, List.cons_append, List.map_cons, List.map_nil, List.sum_cons, List.sum_nil, Value.category, List.length_cons, List.length_nil, List.set_cons_zero, List.set_cons_succ, Option.toList_some, Option.toList_none, lv_args, ↓reduceIte, Nat.reduceAdd, Nat.reduceSub, Nat.reduceMul, Nat.reduceEqDiff, Nat.reduceLeDiff, Nat.reduceLT, reduceCtorEq, Bool.false_eq_true, and_true, true_and, and_self, and_false, false_and, Nat.zero_add, Nat.le_refl, Nat.zero_le, true_or, or_true, not_true_eq_false, not_false_eq_true, forall_const, false_implies, implies_true, true_implies, Int32.reduceAdd, Int32.reduceLE, Int32.reduceLT, Int32.reduceSub, Int32.reduceMul, Int32.reduceToNatClampNeg, og_0, oi_0, ef_0_8, og_1, oi_1, og_2, oi_2, oq_2, es_2, og_3, oi_3, oq_3, es_3, og_4, oi_4, oq_4, es_4, og_5, oi_5, ef_5_2, og_6, oi_6, es_6, og_7, oi_7, oq_7, es_7, og_8, oi_8, og_9, oi_9, oq_9, es_9, og_10, oi_10, oq_10, es_10, og_11, oi_11, oq_11, es_11, og_12, oi_12, oq_12, es_12, og_13, oi_13, oq_13, es_13, og_14, oi_14, og_15, oi_15, og_16, oi_16, ef_16_2, og_17, oi_17, oq_17, es_17, og_18, oi_18, oq_18, es_18, og_19, oi_19, oq_19, es_19, og_20, oi_20, ef_20_1, og_21, oi_21, oq_21, es_21, og_22, oi_22, ef_22_1, og_23, oi_23, oq_23, es_23, og_24, oi_24, ef_24_1, og_25, oi_25, oq_25, es_25, og_26, oi_26, ef_26_1, og_27, oi_27, oq_27, es_27, og_28, oi_28, ef_28_1, og_29, oi_29, oq_29, es_29, og_30, oi_30, ef_30_1, og_31, oi_31, oq_31, es_31, og_32, oi_32, ef_32_1, og_33, oi_33, oq_33, es_33, og_34, oi_34, ef_34_1, og_35, oi_35, oq_35, es_35, og_file hf, og_fileb hf, es_fileb hf, sI_1, sI_2, if_neg hne, nI_add, nI_1, nI_clamp (show pos + i < 2 ^ 31 by omega), nI_clamp (show i < 2 ^ 31 by omega), sI_sI]
    refine ⟨fun q => absurd q (nI_ge (show i < n by omega) (by omega)), fun _ => ⟨vp_in_nI (by omega) (by decide), vp_in_nI (by omega) (by decide), ?_⟩⟩
    refine ih (i + 1) (by omega) _ ?_
    intro j hj
    simp only [upd]
    by_cases h : j = pos + i
    · rw [if_pos h, h]
      unfold piF
      rw [if_pos (by omega), show pos + i - pos = i by omega]
    · rw [if_neg h, hg j hj]
      unfold piF
      by_cases h1 : pos ≤ j ∧ j < pos + i
      · rw [if_pos h1, if_pos (by omega)]
      · rw [if_neg h1, if_neg (show ¬ (pos ≤ j ∧ j < pos + (i + 1)) by omega)]
theorem putIn_loop1 (G : oG) (σ : oT) {f L pos n : Nat} (hf : f < 6) (hL : L ≤ 24) (hs : σ.2.2 (20 + 2 * f) 1 = nI L) (hn : pos + n ≤ 24) (Post : oP) (hP : ∀ g : Nat → Int32, (∀ i, i < 24 → g i = piF σ f L pos n i) → Post none (enc (sF (sI σ (21 + 2 * f) g) (20 + 2 * f) 1 (nI (max L (pos + n)))))) : ∀ k i : Nat, (i + k = pos ∨ (k = 0 ∧ pos ≤ i)) → i < 2 ^ 31 → L ≤ i → ∀ g : Nat → Int32, (∀ j, j < 24 → g j = if L ≤ j ∧ j < i ∧ j < pos then 0 else σ.1 (21 + 2 * f) j) → Wp G m_F_putIn Post 6 0 0 [(0, .ref (21 + 2 * f)), (1, .int (nI pos)), (2, .ref 20), (3, .int (nI n)), (4, .int (nI i))] [] (enc (sI σ (21 + 2 * f) g)) := by
  intro k
  induction k with
  | zero =>
    intro i hk hi hLi g hg
    have hge : pos ≤ i := by omega
    refine s_F_putIn_6 _ _ _ _ _ ?_
    simp only [k_F_putIn_6, o_iconst, o_lconst, o_iload, o_lload, o_aload, o_istore, o_lstore, o_astore, o_iinc, o_iadd, o_isub, o_imul, o_iand, o_ior, o_idiv, o_irem, o_lor, o_lushr, o_lshl, o_i2l, o_l2i, o_lcmp, o_dup, o_pop, o_dup2, o_ifeq, o_ifne, o_iflt, o_ifge, o_ifgt, o_ifle, o_icmpeq, o_icmpne, o_icmplt, o_icmpge, o_icmpgt, o_icmple, o_jmp, o_tsw, o_iret, o_zret, o_lret, o_vret, o_getf, o_putfI, o_putfR, o_iald, o_alen, o_lald, o_zald, o_iast, o_last, o_zast, o_aald, o_aast, o_new, o_newa, o_callS, o_callI, o_callV, o_objInit, o_mmax, o_mmin, o_lk, o_up1, o_up2, o_cl1, o_cl2, o_keep, o_c2, List.getElem?_cons_zero, List.getElem?_cons_succ, List.drop_zero, List.drop_succ_cons, List.take_zero, List.take_succ_cons, List.reverse_cons, List.reverse_nil, List.nil_append, List.cons_append, List.map_cons, List.map_nil, List.sum_cons, List.sum_nil, Value.category, List.length_cons, List.length_nil, List.set_cons_zero, List.set_cons_succ, Option.toList_some, Option.toList_none, lv_args, ↓reduceIte, Nat.reduceAdd, Nat.reduceSub, Nat.reduceMul, Nat.reduceEqDiff, Nat.reduceLeDiff, Nat.reduceLT, reduceCtorEq, Bool.false_eq_true, and_true, true_and, and_self, and_false, false_and, Nat.zero_add, Nat.le_refl, Nat.zero_le, true_or, or_true, not_true_eq_false, not_false_eq_true, forall_const, false_implies, implies_true, true_implies, Int32.reduceAdd, Int32.reduceLE, Int32.reduceLT, Int32.reduceSub, Int32.reduceMul, Int32.reduceToNatClampNeg, og_0, oi_0, ef_0_8, og_1, oi_1, og_2, oi_2, oq_2, es_2, og_3, oi_3, oq_3, es_3, og_4, oi_4, oq_4, es_4, og_5, oi_5, ef_5_2, og_6, oi_6, es_6, og_7, oi_7, oq_7, es_7, og_8, oi_8, og_9, oi_9, oq_9, es_9, og_10, oi_10, oq_10, es_10, og_11, oi_11, oq_11, es_11, og_12, oi_12, oq_12, es_12, og_13, oi_13, oq_13, es_13, og_14, oi_14, og_15, oi_15, og_16, oi_16, ef_16_2, og_17, oi_17, oq_17, es_17, og_18, oi_18, oq_18, es_18, og_19, oi_19, oq_19, es_19, og_20, oi_20, ef_20_1, og_21, oi_21, oq_21, es_21, og_22, oi_22, ef_22_1, og_23, oi_23, oq_23, es_23, og_24, oi_24, ef_24_1, og_25, oi_25, oq_25, es_25, og_26, oi_26, ef_26_1, og_27, oi_27, oq_27, es_27, og_28, oi_28, ef_28_1, og_29, oi_29, oq_29, es_29, og_30, oi_30, ef_30_1, og_31, oi_31, oq_31, es_31, og_32, oi_32, ef_32_1, og_33, oi_33, oq_33, es_33, og_34, oi_34, ef_34_1, og_35, oi_35, oq_35, es_35]
    refine ⟨fun _ => ?_, fun q => absurd (nI_le hge hi) q⟩
    refine putIn_loop2 G σ hf hL hs hn Post hP n 0 (by omega) g ?_
    intro j hj
    rw [hg j hj]
    unfold piF
    rw [if_neg (show ¬ (pos ≤ j ∧ j < pos + 0) by omega)]
    by_cases h : L ≤ j ∧ j < pos
    · rw [if_pos h, if_pos (by omega)]
    · rw [if_neg h, if_neg (by omega)]
  | succ k ih =>
    intro i hk hi hLi g hg
    have hlt : i < pos := by omega
    refine s_F_putIn_6 _ _ _ _ _ ?_
    simp only [k_F_putIn_6, o_iconst, o_lconst, o_iload, o_lload, o_aload, o_istore, o_lstore, o_astore, o_iinc, o_iadd, o_isub, o_imul, o_iand, o_ior, o_idiv, o_irem, o_lor, o_lushr, o_lshl, o_i2l, o_l2i, o_lcmp, o_dup, o_pop, o_dup2, o_ifeq, o_ifne, o_iflt, o_ifge, o_ifgt, o_ifle, o_icmpeq, o_icmpne, o_icmplt, o_icmpge, o_icmpgt, o_icmple, o_jmp, o_tsw, o_iret, o_zret, o_lret, o_vret, o_getf, o_putfI, o_putfR, o_iald, o_alen, o_lald, o_zald, o_iast, o_last, o_zast, o_aald, o_aast, o_new, o_newa, o_callS, o_callI, o_callV, o_objInit, o_mmax, o_mmin, o_lk, o_up1, o_up2, o_cl1, o_cl2, o_keep, o_c2, List.getElem?_cons_zero, List.getElem?_cons_succ, List.drop_zero, List.drop_succ_cons, List.take_zero, List.take_succ_cons, List.reverse_cons, List.reverse_nil, List.nil_append, List.cons_append, List.map_cons, List.map_nil, List.sum_cons, List.sum_nil, Value.category, List.length_cons, List.length_nil, List.set_cons_zero, List.set_cons_succ, Option.toList_some, Option.toList_none, lv_args, ↓reduceIte, Nat.reduceAdd, Nat.reduceSub, Nat.reduceMul, Nat.reduceEqDiff, Nat.reduceLeDiff, Nat.reduceLT, reduceCtorEq, Bool.false_eq_true, and_true, true_and, and_self, and_false, false_and, Nat.zero_add, Nat.le_refl, Nat.zero_le, true_or, or_true, not_true_eq_false, not_false_eq_true, forall_const, false_implies, implies_true, true_implies, Int32.reduceAdd, Int32.reduceLE, Int32.reduceLT, Int32.reduceSub, Int32.reduceMul, Int32.reduceToNatClampNeg, og_0, oi_0, ef_0_8, og_1, oi_1, og_2, oi_2, oq_2, es_2, og_3, oi_3, oq_3, es_3, og_4, oi_4, oq_4, es_4, og_5, oi_5, ef_5_2, og_6, oi_6, es_6, og_7, oi_7, oq_7, es_7, og_8, oi_8, og_9, oi_9, oq_9, es_9, og_10, oi_10, oq_10, es_10, og_11, oi_11, oq_11, es_11, og_12, oi_12, oq_12, es_12, og_13, oi_13, oq_13, es_13, og_14, oi_14, og_15, oi_15, og_16, oi_16, ef_16_2, og_17, oi_17, oq_17, es_17, og_18, oi_18, oq_18, es_18, og_19, oi_19, oq_19, es_19, og_20, oi_20, ef_20_1, og_21, oi_21, oq_21, es_21, og_22, oi_22, ef_22_1, og_23, oi_23, oq_23, es_23, og_24, oi_24, ef_24_1, og_25, oi_25, oq_25, es_25, og_26, oi_26, ef_26_1, og_27, oi_27, oq_27, es_27, og_28, oi_28, ef_28_1, og_29, oi_29, oq_29, es_29, og_30, oi_30, ef_30_1, og_31, oi_31, oq_31, es_31, og_32, oi_32, ef_32_1, og_33, oi_33, oq_33, es_33, og_34, oi_34, ef_34_1, og_35, oi_35, oq_35, es_35, og_file hf, og_fileb hf, es_fileb hf, sI_1, sI_2, nI_1, nI_clamp (show i < 2 ^ 31 by omega), sI_sI]
    refine ⟨fun q => absurd q (nI_ge hlt (by omega)), fun _ => ⟨vp_in_nI (by omega) (by decide), ?_⟩⟩
    refine ih (i + 1) (by omega) (by omega) (by omega) _ ?_
    intro j hj
    simp only [upd]
    by_cases h : j = i
    · rw [if_pos h, if_pos (by omega)]
    · rw [if_neg h, hg j hj]
      by_cases h1 : L ≤ j ∧ j < i ∧ j < pos
      · rw [if_pos h1, if_pos (by omega)]
      · rw [if_neg h1, if_neg (by omega)]
theorem c_putIn (G : oG) (σ : oT) {f L pos n : Nat} (hf : f < 6) (hL : L ≤ 24) (hs : σ.2.2 (20 + 2 * f) 1 = nI L) (hn : pos + n ≤ 24) : Mt G m_F_putIn [.ref (21 + 2 * f), .int (nI pos), .ref 20, .int (nI n)] (enc σ) 0 0 (fun v h' => v = none ∧ ∃ g : Nat → Int32, h' = enc (sF (sI σ (21 + 2 * f) g) (20 + 2 * f) 1 (nI (max L (pos + n)))) ∧ ∀ i, i < 24 → g i = piF σ f L pos n i) := by
  refine Mt.of (by decide) (Nat.le_of_ble_eq_true rfl) (s_F_putIn_0 _ _ _ _ _ ?_)
  simp only [k_F_putIn_0, o_iconst, o_lconst, o_iload, o_lload, o_aload, o_istore, o_lstore, o_astore, o_iinc, o_iadd, o_isub, o_imul, o_iand, o_ior, o_idiv, o_irem, o_lor, o_lushr, o_lshl, o_i2l, o_l2i, o_lcmp, o_dup, o_pop, o_dup2, o_ifeq, o_ifne, o_iflt, o_ifge, o_ifgt, o_ifle, o_icmpeq, o_icmpne, o_icmplt, o_icmpge, o_icmpgt, o_icmple, o_jmp, o_tsw, o_iret, o_zret, o_lret, o_vret, o_getf, o_putfI, o_putfR, o_iald, o_alen, o_lald, o_zald, o_iast, o_last, o_zast, o_aald, o_aast, o_new, o_newa, o_callS, o_callI, o_callV, o_objInit, o_mmax, o_mmin, o_lk, o_up1, o_up2, o_cl1, o_cl2, o_keep, o_c2, List.getElem?_cons_zero, List.getElem?_cons_succ, List.drop_zero, List.drop_succ_cons, List.take_zero, List.take_succ_cons, List.reverse_cons, List.reverse_nil, List.nil_append, List.cons_append, List.map_cons, List.map_nil, List.sum_cons, List.sum_nil, Value.category, List.length_cons, List.length_nil, List.set_cons_zero, List.set_cons_succ, Option.toList_some, Option.toList_none, lv_args, ↓reduceIte, Nat.reduceAdd, Nat.reduceSub, Nat.reduceMul, Nat.reduceEqDiff, Nat.reduceLeDiff, Nat.reduceLT, reduceCtorEq, Bool.false_eq_true, and_true, true_and, and_self, and_false, false_and, Nat.zero_add, Nat.le_refl, Nat.zero_le, true_or, or_true, not_true_eq_false, not_false_eq_true, forall_const, false_implies, implies_true, true_implies, Int32.reduceAdd, Int32.reduceLE, Int32.reduceLT, Int32.reduceSub, Int32.reduceMul, Int32.reduceToNatClampNeg, og_0, oi_0, ef_0_8, og_1, oi_1, og_2, oi_2, oq_2, es_2, og_3, oi_3, oq_3, es_3, og_4, oi_4, oq_4, es_4, og_5, oi_5, ef_5_2, og_6, oi_6, es_6, og_7, oi_7, oq_7, es_7, og_8, oi_8, og_9, oi_9, oq_9, es_9, og_10, oi_10, oq_10, es_10, og_11, oi_11, oq_11, es_11, og_12, oi_12, oq_12, es_12, og_13, oi_13, oq_13, es_13, og_14, oi_14, og_15, oi_15, og_16, oi_16, ef_16_2, og_17, oi_17, oq_17, es_17, og_18, oi_18, oq_18, es_18, og_19, oi_19, oq_19, es_19, og_20, oi_20, ef_20_1, og_21, oi_21, oq_21, es_21, og_22, oi_22, ef_22_1, og_23, oi_23, oq_23, es_23, og_24, oi_24, ef_24_1, og_25, oi_25, oq_25, es_25, og_26, oi_26, ef_26_1, og_27, oi_27, oq_27, es_27, og_28, oi_28, ef_28_1, og_29, oi_29, oq_29, es_29, og_30, oi_30, ef_30_1, og_31, oi_31, oq_31, es_31, og_32, oi_32, ef_32_1, og_33, oi_33, oq_33, es_33, og_34, oi_34, ef_34_1, og_35, oi_35, oq_35, es_35, og_file hf, hs]
  have h := putIn_loop1 G σ hf hL hs hn (fun v h' => v = none ∧ ∃ g : Nat → Int32, h' = enc (sF (sI σ (21 + 2 * f) g) (20 + 2 * f) 1 (nI (max L (pos + n)))) ∧ ∀ i, i < 24 → g i = piF σ f L pos n i) (fun g hg => ⟨rfl, g, rfl, hg⟩) (pos - L) L (by omega) (by omega) (Nat.le_refl _) (σ.1 (21 + 2 * f)) (fun j hj => by rw [if_neg (by omega)])
  rw [sI_id] at h
  exact h
theorem pputIn_loop (G : oG) (σ : oT) {f s n : Nat} (hf : f < 2) (hs : σ.2.2 (32 + 2 * f) 1 = nI s) (hn : s + n ≤ 8) (Post : oP) (hP : ∀ g : Nat → Int32, (∀ i, i < 8 → g i = if s ≤ i ∧ i < s + n then σ.1 19 (i - s) else σ.1 (33 + 2 * f) i) → Post none (enc (sF (sI σ (33 + 2 * f) g) (32 + 2 * f) 1 (nI (s + n))))) : ∀ k i : Nat, i + k = n → ∀ g : Nat → Int32, (∀ j, j < 8 → g j = if s ≤ j ∧ j < s + i then σ.1 19 (j - s) else σ.1 (33 + 2 * f) j) → Wp G m_P_putIn Post 2 0 0 [(0, .ref (33 + 2 * f)), (1, .ref 20), (2, .int (nI n)), (3, .int (nI i))] [] (enc (sI σ (33 + 2 * f) g)) := by
  intro k
  have hne : ¬ 19 = 33 + 2 * f := by omega
  induction k with
  | zero =>
    intro i hk g hg
    have e : i = n := by omega
    subst e
    refine s_P_putIn_2 _ _ _ _ _ ?_
    simp only [k_P_putIn_2, o_iconst, o_lconst, o_iload, o_lload, o_aload, o_istore, o_lstore, o_astore, o_iinc, o_iadd, o_isub, o_imul, o_iand, o_ior, o_idiv, o_irem, o_lor, o_lushr, o_lshl, o_i2l, o_l2i, o_lcmp, o_dup, o_pop, o_dup2, o_ifeq, o_ifne, o_iflt, o_ifge, o_ifgt, o_ifle, o_icmpeq, o_icmpne, o_icmplt, o_icmpge, o_icmpgt, o_icmple, o_jmp, o_tsw, o_iret, o_zret, o_lret, o_vret, o_getf, o_putfI, o_putfR, o_iald, o_alen, o_lald, o_zald, o_iast, o_last, o_zast, o_aald, o_aast, o_new, o_newa, o_callS, o_callI, o_callV, o_objInit, o_mmax, o_mmin, o_lk, o_up1, o_up2, o_cl1, o_cl2, o_keep, o_c2, List.getElem?_cons_zero, List.getElem?_cons_succ, List.drop_zero, List.drop_succ_cons, List.take_zero, List.take_succ_cons, List.reverse_cons, List.reverse_nil, List.nil_append, List.cons_append, List.map_cons, List.map_nil, List.sum_cons, List.sum_nil, Value.category, List.length_cons, List.length_nil, List.set_cons_zero, List.set_cons_succ, Option.toList_some, Option.toList_none, lv_args, ↓reduceIte, Nat.reduceAdd, Nat.reduceSub, Nat.reduceMul, Nat.reduceEqDiff, Nat.reduceLeDiff, Nat.reduceLT, reduceCtorEq, Bool.false_eq_true, and_true, true_and, and_self, and_false, false_and, Nat.zero_add, Nat.le_refl, Nat.zero_le, true_or, or_true, not_true_eq_false, not_false_eq_true, forall_const, false_implies, implies_true, true_implies, Int32.reduceAdd, Int32.reduceLE, Int32.reduceLT, Int32.reduceSub, Int32.reduceMul, Int32.reduceToNatClampNeg, og_0, oi_0, ef_0_8, og_1, oi_1, og_2, oi_2, oq_2, es_2, og_3, oi_3, oq_3, es_3, og_4, oi_4, oq_4, es_4, og_5, oi_5, ef_5_2, og_6, oi_6, es_6, og_7, oi_7, oq_7, es_7, og_8, oi_8, og_9, oi_9, oq_9, es_9, og_10, oi_10, oq_10, es_10, og_11, oi_11, oq_11, es_11, og_12, oi_12, oq_12, es_12, og_13, oi_13, oq_13, es_13, og_14, oi_14, og_15, oi_15, og_16, oi_16, ef_16_2, og_17, oi_17, oq_17, es_17, og_18, oi_18, oq_18, es_18, og_19, oi_19, oq_19, es_19, og_20, oi_20, ef_20_1, og_21, oi_21, oq_21, es_21, og_22, oi_22, ef_22_1, og_23, oi_23, oq_23, es_23, og_24, oi_24, ef_24_1, og_25, oi_25, oq_25, es_25, og_26, oi_26, ef_26_1, og_27, oi_27, oq_27, es_27, og_28, oi_28, ef_28_1, og_29, oi_29, oq_29, es_29, og_30, oi_30, ef_30_1, og_31, oi_31, oq_31, es_31, og_32, oi_32, ef_32_1, og_33, oi_33, oq_33, es_33, og_34, oi_34, ef_34_1, og_35, oi_35, oq_35, es_35, og_pipe hf, ef_pipe hf, sI_2, hs, nI_add]
    exact ⟨fun _ => hP g hg, fun q => absurd (nI_le (Nat.le_refl i) (by omega)) q⟩
  | succ k ih =>
    intro i hk g hg
    refine s_P_putIn_2 _ _ _ _ _ ?_
    simp only [k_P_putIn_2, o_iconst, o_lconst, o_iload, o_lload, o_aload, o_istore, o_lstore, o_astore, o_iinc, o_iadd, o_isub, o_imul, o_iand, o_ior, o_idiv, o_irem, o_lor, o_lushr, o_lshl, o_i2l, o_l2i, o_lcmp, o_dup, o_pop, o_dup2, o_ifeq, o_ifne, o_iflt, o_ifge, o_ifgt, o_ifle, o_icmpeq, o_icmpne, o_icmplt, o_icmpge, o_icmpgt, o_icmple, o_jmp, o_tsw, o_iret, o_zret, o_lret, o_vret, o_getf, o_putfI, o_putfR, o_iald, o_alen, o_lald, o_zald, o_iast, o_last, o_zast, o_aald, o_aast, o_new, o_newa, o_callS, o_callI, o_callV, o_objInit, o_mmax, o_mmin, o_lk, o_up1, o_up2, o_cl1, o_cl2, o_keep, o_c2, List.getElem?_cons_zero, List.getElem?_cons_succ, List.drop_zero, List.drop_succ_cons, List.take_zero, List.take_succ_cons, List.reverse_cons, List.reverse_nil, List.nil_append, List.cons_append, List.map_cons, List.map_nil, List.sum_cons, List.sum_nil, Value.category, List.length_cons, List.length_nil, List.set_cons_zero, List.set_cons_succ, Option.toList_some, Option.toList_none, lv_args, ↓reduceIte, Nat.reduceAdd, Nat.reduceSub, Nat.reduceMul, Nat.reduceEqDiff, Nat.reduceLeDiff, Nat.reduceLT, reduceCtorEq, Bool.false_eq_true, and_true, true_and, and_self, and_false, false_and, Nat.zero_add, Nat.le_refl, Nat.zero_le, true_or, or_true, not_true_eq_false, not_false_eq_true, forall_const, false_implies, implies_true, true_implies, Int32.reduceAdd, Int32.reduceLE, Int32.reduceLT, Int32.reduceSub, Int32.reduceMul, Int32.reduceToNatClampNeg, og_0, oi_0, ef_0_8, og_1, oi_1, og_2, oi_2, oq_2, es_2, og_3, oi_3, oq_3, es_3, og_4, oi_4, oq_4, es_4, og_5, oi_5, ef_5_2, og_6, oi_6, es_6, og_7, oi_7, oq_7, es_7, og_8, oi_8, og_9, oi_9, oq_9, es_9, og_10, oi_10, oq_10, es_10, og_11, oi_11, oq_11, es_11, og_12, oi_12, oq_12, es_12, og_13, oi_13, oq_13, es_13, og_14, oi_14, og_15, oi_15, og_16, oi_16, ef_16_2, og_17, oi_17, oq_17, es_17, og_18, oi_18, oq_18, es_18, og_19, oi_19, oq_19, es_19, og_20, oi_20, ef_20_1, og_21, oi_21, oq_21, es_21, og_22, oi_22, ef_22_1, og_23, oi_23, oq_23, es_23, og_24, oi_24, ef_24_1, og_25, oi_25, oq_25, es_25, og_26, oi_26, ef_26_1, og_27, oi_27, oq_27, es_27, og_28, oi_28, ef_28_1, og_29, oi_29, oq_29, es_29, og_30, oi_30, ef_30_1, og_31, oi_31, oq_31, es_31, og_32, oi_32, ef_32_1, og_33, oi_33, oq_33, es_33, og_34, oi_34, ef_34_1, og_35, oi_35, oq_35, es_35, og_pipe hf, og_pipeb hf, es_pipeb hf, sI_1, sI_2, if_neg hne, hs, nI_add, nI_1, nI_clamp (show s + i < 2 ^ 31 by omega), nI_clamp (show i < 2 ^ 31 by omega), sI_sI]
    refine ⟨fun q => absurd q (nI_ge (show i < n by omega) (by omega)), fun _ => ⟨vp_in_nI (by omega) (by decide), vp_in_nI (by omega) (by decide), ?_⟩⟩
    refine ih (i + 1) (by omega) _ ?_
    intro j hj
    simp only [upd]
    by_cases h : j = s + i
    · rw [if_pos h, h, if_pos (by omega), show s + i - s = i by omega]
    · rw [if_neg h, hg j hj]
      by_cases h1 : s ≤ j ∧ j < s + i
      · rw [if_pos h1, if_pos (by omega)]
      · rw [if_neg h1, if_neg (by omega)]
theorem c_pputIn (G : oG) (σ : oT) {f s n : Nat} (hf : f < 2) (hs : σ.2.2 (32 + 2 * f) 1 = nI s) (hn : s + n ≤ 8) : Mt G m_P_putIn [.ref (33 + 2 * f), .ref 20, .int (nI n)] (enc σ) 0 0 (fun v h' => v = none ∧ ∃ g : Nat → Int32, h' = enc (sF (sI σ (33 + 2 * f) g) (32 + 2 * f) 1 (nI (s + n))) ∧ ∀ i, i < 8 → g i = if s ≤ i ∧ i < s + n then σ.1 19 (i - s) else σ.1 (33 + 2 * f) i) := by
  refine Mt.of (by decide) (Nat.le_of_ble_eq_true rfl) (s_P_putIn_0 _ _ _ _ _ ?_)
  simp only [k_P_putIn_0, o_iconst, o_lconst, o_iload, o_lload, o_aload, o_istore, o_lstore, o_astore, o_iinc, o_iadd, o_isub, o_imul, o_iand, o_ior, o_idiv, o_irem, o_lor, o_lushr, o_lshl, o_i2l, o_l2i, o_lcmp, o_dup, o_pop, o_dup2, o_ifeq, o_ifne, o_iflt, o_ifge, o_ifgt, o_ifle, o_icmpeq, o_icmpne, o_icmplt, o_icmpge, o_icmpgt, o_icmple, o_jmp, o_tsw, o_iret, o_zret, o_lret, o_vret, o_getf, o_putfI, o_putfR, o_iald, o_alen, o_lald, o_zald, o_iast, o_last, o_zast, o_aald, o_aast, o_new, o_newa, o_callS, o_callI, o_callV, o_objInit, o_mmax, o_mmin, o_lk, o_up1, o_up2, o_cl1, o_cl2, o_keep, o_c2, List.getElem?_cons_zero, List.getElem?_cons_succ, List.drop_zero, List.drop_succ_cons, List.take_zero, List.take_succ_cons, List.reverse_cons, List.reverse_nil, List.nil_append, List.cons_append, List.map_cons, List.map_nil, List.sum_cons, List.sum_nil, Value.category, List.length_cons, List.length_nil, List.set_cons_zero, List.set_cons_succ, Option.toList_some, Option.toList_none, lv_args, ↓reduceIte, Nat.reduceAdd, Nat.reduceSub, Nat.reduceMul, Nat.reduceEqDiff, Nat.reduceLeDiff, Nat.reduceLT, reduceCtorEq, Bool.false_eq_true, and_true, true_and, and_self, and_false, false_and, Nat.zero_add, Nat.le_refl, Nat.zero_le, true_or, or_true, not_true_eq_false, not_false_eq_true, forall_const, false_implies, implies_true, true_implies, Int32.reduceAdd, Int32.reduceLE, Int32.reduceLT, Int32.reduceSub, Int32.reduceMul, Int32.reduceToNatClampNeg]
  have h := pputIn_loop G σ hf hs hn (fun v h' => v = none ∧ ∃ g : Nat → Int32, h' = enc (sF (sI σ (33 + 2 * f) g) (32 + 2 * f) 1 (nI (s + n))) ∧ ∀ i, i < 8 → g i = if s ≤ i ∧ i < s + n then σ.1 19 (i - s) else σ.1 (33 + 2 * f) i) (fun g hg => ⟨rfl, g, rfl, hg⟩) n 0 (by omega) (σ.1 (33 + 2 * f)) (fun j hj => by rw [if_neg (by omega)])
  rw [sI_id] at h
  exact h
theorem takeOut_loop2 (G : oG) (σ : oT) {f r n : Nat} (hf : f < 2) (hs : σ.2.2 (32 + 2 * f) 1 = nI r) (hn : r + n ≤ 8) (Post : oP) (hP : ∀ g : Nat → Int32, (∀ i, i < r → g i = σ.1 (33 + 2 * f) (i + n)) → Post none (enc (sI σ (33 + 2 * f) g))) : ∀ k i : Nat, i + k = r → ∀ g : Nat → Int32, (∀ j, j < i → g j = σ.1 (33 + 2 * f) (j + n)) → (∀ j, i ≤ j → g j = σ.1 (33 + 2 * f) j) → Wp G m_P_takeOut Post 34 0 0 [(0, .ref (33 + 2 * f)), (2, .int (nI n)), (3, .int (nI i))] [] (enc (sI σ (33 + 2 * f) g)) := by
  intro k
  induction k with
  | zero =>
    intro i hk g hg hg2
    have e : i = r := by omega
    subst e
    refine s_P_takeOut_34 _ _ _ _ _ ?_
    simp only [k_P_takeOut_34, o_iconst, o_lconst, o_iload, o_lload, o_aload, o_istore, o_lstore, o_astore, o_iinc, o_iadd, o_isub, o_imul, o_iand, o_ior, o_idiv, o_irem, o_lor, o_lushr, o_lshl, o_i2l, o_l2i, o_lcmp, o_dup, o_pop, o_dup2, o_ifeq, o_ifne, o_iflt, o_ifge, o_ifgt, o_ifle, o_icmpeq, o_icmpne, o_icmplt, o_icmpge, o_icmpgt, o_icmple, o_jmp, o_tsw, o_iret, o_zret, o_lret, o_vret, o_getf, o_putfI, o_putfR, o_iald, o_alen, o_lald, o_zald, o_iast, o_last, o_zast, o_aald, o_aast, o_new, o_newa, o_callS, o_callI, o_callV, o_objInit, o_mmax, o_mmin, o_lk, o_up1, o_up2, o_cl1, o_cl2, o_keep, o_c2, List.getElem?_cons_zero, List.getElem?_cons_succ, List.drop_zero, List.drop_succ_cons, List.take_zero, List.take_succ_cons, List.reverse_cons, List.reverse_nil, List.nil_append, List.cons_append, List.map_cons, List.map_nil, List.sum_cons, List.sum_nil, Value.category, List.length_cons, List.length_nil, List.set_cons_zero, List.set_cons_succ, Option.toList_some, Option.toList_none, lv_args, ↓reduceIte, Nat.reduceAdd, Nat.reduceSub, Nat.reduceMul, Nat.reduceEqDiff, Nat.reduceLeDiff, Nat.reduceLT, reduceCtorEq, Bool.false_eq_true, and_true, true_and, and_self, and_false, false_and, Nat.zero_add, Nat.le_refl, Nat.zero_le, true_or, or_true, not_true_eq_false, not_false_eq_true, forall_const, false_implies, implies_true, true_implies, Int32.reduceAdd, Int32.reduceLE, Int32.reduceLT, Int32.reduceSub, Int32.reduceMul, Int32.reduceToNatClampNeg, og_0, oi_0, ef_0_8, og_1, oi_1, og_2, oi_2, oq_2, es_2, og_3, oi_3, oq_3, es_3, og_4, oi_4, oq_4, es_4, og_5, oi_5, ef_5_2, og_6, oi_6, es_6, og_7, oi_7, oq_7, es_7, og_8, oi_8, og_9, oi_9, oq_9, es_9, og_10, oi_10, oq_10, es_10, og_11, oi_11, oq_11, es_11, og_12, oi_12, oq_12, es_12, og_13, oi_13, oq_13, es_13, og_14, oi_14, og_15, oi_15, og_16, oi_16, ef_16_2, og_17, oi_17, oq_17, es_17, og_18, oi_18, oq_18, es_18, og_19, oi_19, oq_19, es_19, og_20, oi_20, ef_20_1, og_21, oi_21, oq_21, es_21, og_22, oi_22, ef_22_1, og_23, oi_23, oq_23, es_23, og_24, oi_24, ef_24_1, og_25, oi_25, oq_25, es_25, og_26, oi_26, ef_26_1, og_27, oi_27, oq_27, es_27, og_28, oi_28, ef_28_1, og_29, oi_29, oq_29, es_29, og_30, oi_30, ef_30_1, og_31, oi_31, oq_31, es_31, og_32, oi_32, ef_32_1, og_33, oi_33, oq_33, es_33, og_34, oi_34, ef_34_1, og_35, oi_35, oq_35, es_35, og_pipe hf, sI_2, hs]
    exact ⟨fun _ => hP g hg, fun q => absurd (nI_le (Nat.le_refl i) (by omega)) q⟩
  | succ k ih =>
    intro i hk g hg hg2
    refine s_P_takeOut_34 _ _ _ _ _ ?_
    simp only [k_P_takeOut_34, o_iconst, o_lconst, o_iload, o_lload, o_aload, o_istore, o_lstore, o_astore, o_iinc, o_iadd, o_isub, o_imul, o_iand, o_ior, o_idiv, o_irem, o_lor, o_lushr, o_lshl, o_i2l, o_l2i, o_lcmp, o_dup, o_pop, o_dup2, o_ifeq, o_ifne, o_iflt, o_ifge, o_ifgt, o_ifle, o_icmpeq, o_icmpne, o_icmplt, o_icmpge, o_icmpgt, o_icmple, o_jmp, o_tsw, o_iret, o_zret, o_lret, o_vret, o_getf, o_putfI, o_putfR, o_iald, o_alen, o_lald, o_zald, o_iast, o_last, o_zast, o_aald, o_aast, o_new, o_newa, o_callS, o_callI, o_callV, o_objInit, o_mmax, o_mmin, o_lk, o_up1, o_up2, o_cl1, o_cl2, o_keep, o_c2, List.getElem?_cons_zero, List.getElem?_cons_succ, List.drop_zero, List.drop_succ_cons, List.take_zero, List.take_succ_cons, List.reverse_cons, List.reverse_nil, List.nil_append, List.cons_append, List.map_cons, List.map_nil, List.sum_cons, List.sum_nil, Value.category, List.length_cons, List.length_nil, List.set_cons_zero, List.set_cons_succ, Option.toList_some, Option.toList_none, lv_args, ↓reduceIte, Nat.reduceAdd, Nat.reduceSub, Nat.reduceMul, Nat.reduceEqDiff, Nat.reduceLeDiff, Nat.reduceLT, reduceCtorEq, Bool.false_eq_true, and_true, true_and, and_self, and_false, false_and, Nat.zero_add, Nat.le_refl, Nat.zero_le, true_or, or_true, not_true_eq_false, not_false_eq_true, forall_const, false_implies, implies_true, true_implies, Int32.reduceAdd, Int32.reduceLE, Int32.reduceLT, Int32.reduceSub, Int32.reduceMul, Int32.reduceToNatClampNeg, og_0, oi_0, ef_0_8, og_1, oi_1, og_2, oi_2, oq_2, es_2, og_3, oi_3, oq_3, es_3, og_4, oi_4, oq_4, es_4, og_5, oi_5, ef_5_2, og_6, oi_6, es_6, og_7, oi_7, oq_7, es_7, og_8, oi_8, og_9, oi_9, oq_9, es_9, og_10, oi_10, oq_10, es_10, og_11, oi_11, oq_11, es_11, og_12, oi_12, oq_12, es_12, og_13, oi_13, oq_13, es_13, og_14, oi_14, og_15, oi_15, og_16, oi_16, ef_16_2, og_17, oi_17, oq_17, es_17, og_18, oi_18, oq_18, es_18, og_19, oi_19, oq_19, es_19, og_20, oi_20, ef_20_1, og_21, oi_21, oq_21, es_21, og_22, oi_22, ef_22_1, og_23, oi_23, oq_23, es_23, og_24, oi_24, ef_24_1, og_25, oi_25, oq_25, es_25, og_26, oi_26, ef_26_1, og_27, oi_27, oq_27, es_27, og_28, oi_28, ef_28_1, og_29, oi_29, oq_29, es_29, og_30, oi_30, ef_30_1, og_31, oi_31, oq_31, es_31, og_32, oi_32, ef_32_1, og_33, oi_33, oq_33, es_33, og_34, oi_34, ef_34_1, og_35, oi_35, oq_35, es_35, og_pipe hf, og_pipeb hf, oq_pipeb hf, es_pipeb hf, sI_1, sI_2, hs, nI_add, nI_1, nI_clamp (show i + n < 2 ^ 31 by omega), nI_clamp (show i < 2 ^ 31 by omega), sI_sI]
    refine ⟨fun q => absurd q (nI_ge (show i < r by omega) (by omega)), fun _ => ⟨vp_in_nI (by omega) (by decide), vp_in_nI (by omega) (by decide), ?_⟩⟩
    refine ih (i + 1) (by omega) _ ?_ ?_
    · intro j hj
      simp only [upd]
      by_cases h : j = i
      · rw [if_pos h, h]
        exact hg2 _ (by omega)
      · rw [if_neg h]
        exact hg j (by omega)
    · intro j hj
      simp only [upd]
      rw [if_neg (by omega)]
      exact hg2 j (by omega)
theorem takeOut_loop1 (G : oG) (σ : oT) {f s n : Nat} (hf : f < 2) (hs : σ.2.2 (32 + 2 * f) 1 = nI s) (hn : n ≤ s) (h8 : s ≤ 8) (Post : oP) (hP : ∀ g b : Nat → Int32, (∀ i, i < n → g i = σ.1 (33 + 2 * f) i) → (∀ i, i < s - n → b i = σ.1 (33 + 2 * f) (i + n)) → Post none (enc (sI (sF (sI σ 19 g) (32 + 2 * f) 1 (nI (s - n))) (33 + 2 * f) b))) : ∀ k i : Nat, i + k = n → ∀ g : Nat → Int32, (∀ j, j < i → g j = σ.1 (33 + 2 * f) j) → Wp G m_P_takeOut Post 2 0 0 [(0, .ref (33 + 2 * f)), (1, .ref 20), (2, .int (nI n)), (3, .int (nI i))] [] (enc (sI σ 19 g)) := by
  intro k
  have hne : ¬ 33 + 2 * f = 19 := by omega
  induction k with
  | zero =>
    intro i hk g hg
    have e : i = n := by omega
    subst e
    refine s_P_takeOut_2 _ _ _ _ _ ?_
    simp only [k_P_takeOut_2, o_iconst, o_lconst, o_iload, o_lload, o_aload, o_istore, o_lstore, o_astore, o_iinc, o_iadd, o_isub, o_imul, o_iand, o_ior, o_idiv, o_irem, o_lor, o_lushr, o_lshl, o_i2l, o_l2i, o_lcmp, o_dup, o_pop, o_dup2, o_ifeq, o_ifne, o_iflt, o_ifge, o_ifgt, o_ifle, o_icmpeq, o_icmpne, o_icmplt, o_icmpge, o_icmpgt, o_icmple, o_jmp, o_tsw, o_iret, o_zret, o_lret, o_vret, o_getf, o_putfI, o_putfR, o_iald, o_alen, o_lald, o_zald, o_iast, o_last, o_zast, o_aald, o_aast, o_new, o_newa, o_callS, o_callI, o_callV, o_objInit, o_mmax, o_mmin, o_lk, o_up1, o_up2, o_cl1, o_cl2, o_keep, o_c2, List.getElem?_cons_zero, List.getElem?_cons_succ, List.drop_zero, List.drop_succ_cons, List.take_zero, List.take_succ_cons, List.reverse_cons, List.reverse_nil, List.nil_append, List.cons_append, List.map_cons, List.map_nil, List.sum_cons, List.sum_nil, Value.category, List.length_cons, List.length_nil, List.set_cons_zero, List.set_cons_succ, Option.toList_some, Option.toList_none, lv_args, ↓reduceIte, Nat.reduceAdd, Nat.reduceSub, Nat.reduceMul, Nat.reduceEqDiff, Nat.reduceLeDiff, Nat.reduceLT, reduceCtorEq, Bool.false_eq_true, and_true, true_and, and_self, and_false, false_and, Nat.zero_add, Nat.le_refl, Nat.zero_le, true_or, or_true, not_true_eq_false, not_false_eq_true, forall_const, false_implies, implies_true, true_implies, Int32.reduceAdd, Int32.reduceLE, Int32.reduceLT, Int32.reduceSub, Int32.reduceMul, Int32.reduceToNatClampNeg, og_0, oi_0, ef_0_8, og_1, oi_1, og_2, oi_2, oq_2, es_2, og_3, oi_3, oq_3, es_3, og_4, oi_4, oq_4, es_4, og_5, oi_5, ef_5_2, og_6, oi_6, es_6, og_7, oi_7, oq_7, es_7, og_8, oi_8, og_9, oi_9, oq_9, es_9, og_10, oi_10, oq_10, es_10, og_11, oi_11, oq_11, es_11, og_12, oi_12, oq_12, es_12, og_13, oi_13, oq_13, es_13, og_14, oi_14, og_15, oi_15, og_16, oi_16, ef_16_2, og_17, oi_17, oq_17, es_17, og_18, oi_18, oq_18, es_18, og_19, oi_19, oq_19, es_19, og_20, oi_20, ef_20_1, og_21, oi_21, oq_21, es_21, og_22, oi_22, ef_22_1, og_23, oi_23, oq_23, es_23, og_24, oi_24, ef_24_1, og_25, oi_25, oq_25, es_25, og_26, oi_26, ef_26_1, og_27, oi_27, oq_27, es_27, og_28, oi_28, ef_28_1, og_29, oi_29, oq_29, es_29, og_30, oi_30, ef_30_1, og_31, oi_31, oq_31, es_31, og_32, oi_32, ef_32_1, og_33, oi_33, oq_33, es_33, og_34, oi_34, ef_34_1, og_35, oi_35, oq_35, es_35, og_pipe hf, ef_pipe hf, sI_2, hs, pk_sub hn]
    refine ⟨fun _ => ?_, fun q => absurd (nI_le (Nat.le_refl i) (by omega)) q⟩
    have e2 : (sF (sI σ 19 g) (32 + 2 * f) 1 (nI (s - i))).1 (33 + 2 * f) = σ.1 (33 + 2 * f) := by rw [sF_1, sI_1, if_neg hne]
    have h := takeOut_loop2 G (sF (sI σ 19 g) (32 + 2 * f) 1 (nI (s - i))) (r := s - i) (n := i) hf (by rw [sF_3, if_pos rfl, if_pos rfl]) (by omega) Post (fun b hb => hP g b hg (fun j hj => by rw [hb j hj, e2])) (s - i) 0 (by omega) _ (fun j hj => absurd hj (Nat.not_lt_zero _)) (fun j _ => rfl)
    rw [sI_id] at h
    exact h
  | succ k ih =>
    intro i hk g hg
    refine s_P_takeOut_2 _ _ _ _ _ ?_
    simp only [k_P_takeOut_2, o_iconst, o_lconst, o_iload, o_lload, o_aload, o_istore, o_lstore, o_astore, o_iinc, o_iadd, o_isub, o_imul, o_iand, o_ior, o_idiv, o_irem, o_lor, o_lushr, o_lshl, o_i2l, o_l2i, o_lcmp, o_dup, o_pop, o_dup2, o_ifeq, o_ifne, o_iflt, o_ifge, o_ifgt, o_ifle, o_icmpeq, o_icmpne, o_icmplt, o_icmpge, o_icmpgt, o_icmple, o_jmp, o_tsw, o_iret, o_zret, o_lret, o_vret, o_getf, o_putfI, o_putfR, o_iald, o_alen, o_lald, o_zald, o_iast, o_last, o_zast, o_aald, o_aast, o_new, o_newa, o_callS, o_callI, o_callV, o_objInit, o_mmax, o_mmin, o_lk, o_up1, o_up2, o_cl1, o_cl2, o_keep, o_c2, List.getElem?_cons_zero, List.getElem?_cons_succ, List.drop_zero, List.drop_succ_cons, List.take_zero, List.take_succ_cons, List.reverse_cons, List.reverse_nil, List.nil_append, List.cons_append, List.map_cons, List.map_nil, List.sum_cons, List.sum_nil, Value.category, List.length_cons, List.length_nil, List.set_cons_zero, List.set_cons_succ, Option.toList_some, Option.toList_none, lv_args, ↓reduceIte, Nat.reduceAdd, Nat.reduceSub, Nat.reduceMul, Nat.reduceEqDiff, Nat.reduceLeDiff, Nat.reduceLT, reduceCtorEq, Bool.false_eq_true, and_true, true_and, and_self, and_false, false_and, Nat.zero_add, Nat.le_refl, Nat.zero_le, true_or, or_true, not_true_eq_false, not_false_eq_true, forall_const, false_implies, implies_true, true_implies, Int32.reduceAdd, Int32.reduceLE, Int32.reduceLT, Int32.reduceSub, Int32.reduceMul, Int32.reduceToNatClampNeg, og_0, oi_0, ef_0_8, og_1, oi_1, og_2, oi_2, oq_2, es_2, og_3, oi_3, oq_3, es_3, og_4, oi_4, oq_4, es_4, og_5, oi_5, ef_5_2, og_6, oi_6, es_6, og_7, oi_7, oq_7, es_7, og_8, oi_8, og_9, oi_9, oq_9, es_9, og_10, oi_10, oq_10, es_10, og_11, oi_11, oq_11, es_11, og_12, oi_12, oq_12, es_12, og_13, oi_13, oq_13, es_13, og_14, oi_14, og_15, oi_15, og_16, oi_16, ef_16_2, og_17, oi_17, oq_17, es_17, og_18, oi_18, oq_18, es_18, og_19, oi_19, oq_19, es_19, og_20, oi_20, ef_20_1, og_21, oi_21, oq_21, es_21, og_22, oi_22, ef_22_1, og_23, oi_23, oq_23, es_23, og_24, oi_24, ef_24_1, og_25, oi_25, oq_25, es_25, og_26, oi_26, ef_26_1, og_27, oi_27, oq_27, es_27, og_28, oi_28, ef_28_1, og_29, oi_29, oq_29, es_29, og_30, oi_30, ef_30_1, og_31, oi_31, oq_31, es_31, og_32, oi_32, ef_32_1, og_33, oi_33, oq_33, es_33, og_34, oi_34, ef_34_1, og_35, oi_35, oq_35, es_35, og_pipe hf, oq_pipeb hf, sI_1, sI_2, if_neg hne, nI_1, nI_clamp (show i < 2 ^ 31 by omega), sI_sI]
    refine ⟨fun q => absurd q (nI_ge (show i < n by omega) (by omega)), fun _ => ⟨vp_in_nI (by omega) (by decide), vp_in_nI (by omega) (by decide), ?_⟩⟩
    refine ih (i + 1) (by omega) _ ?_
    intro j hj
    simp only [upd]
    by_cases h : j = i
    · rw [if_pos h, h]
    · rw [if_neg h]
      exact hg j (by omega)
theorem c_takeOut (G : oG) (σ : oT) {f s n : Nat} (hf : f < 2) (hs : σ.2.2 (32 + 2 * f) 1 = nI s) (hn : n ≤ s) (h8 : s ≤ 8) : Mt G m_P_takeOut [.ref (33 + 2 * f), .ref 20, .int (nI n)] (enc σ) 0 0 (fun v h' => v = none ∧ ∃ g b : Nat → Int32, h' = enc (sI (sF (sI σ 19 g) (32 + 2 * f) 1 (nI (s - n))) (33 + 2 * f) b) ∧ (∀ i, i < n → g i = σ.1 (33 + 2 * f) i) ∧ ∀ i, i < s - n → b i = σ.1 (33 + 2 * f) (i + n)) := by
  refine Mt.of (by decide) (Nat.le_of_ble_eq_true rfl) (s_P_takeOut_0 _ _ _ _ _ ?_)
  simp only [k_P_takeOut_0, o_iconst, o_lconst, o_iload, o_lload, o_aload, o_istore, o_lstore, o_astore, o_iinc, o_iadd, o_isub, o_imul, o_iand, o_ior, o_idiv, o_irem, o_lor, o_lushr, o_lshl, o_i2l, o_l2i, o_lcmp, o_dup, o_pop, o_dup2, o_ifeq, o_ifne, o_iflt, o_ifge, o_ifgt, o_ifle, o_icmpeq, o_icmpne, o_icmplt, o_icmpge, o_icmpgt, o_icmple, o_jmp, o_tsw, o_iret, o_zret, o_lret, o_vret, o_getf, o_putfI, o_putfR, o_iald, o_alen, o_lald, o_zald, o_iast, o_last, o_zast, o_aald, o_aast, o_new, o_newa, o_callS, o_callI, o_callV, o_objInit, o_mmax, o_mmin, o_lk, o_up1, o_up2, o_cl1, o_cl2, o_keep, o_c2, List.getElem?_cons_zero, List.getElem?_cons_succ, List.drop_zero, List.drop_succ_cons, List.take_zero, List.take_succ_cons, List.reverse_cons, List.reverse_nil, List.nil_append, List.cons_append, List.map_cons, List.map_nil, List.sum_cons, List.sum_nil, Value.category, List.length_cons, List.length_nil, List.set_cons_zero, List.set_cons_succ, Option.toList_some, Option.toList_none, lv_args, ↓reduceIte, Nat.reduceAdd, Nat.reduceSub, Nat.reduceMul, Nat.reduceEqDiff, Nat.reduceLeDiff, Nat.reduceLT, reduceCtorEq, Bool.false_eq_true, and_true, true_and, and_self, and_false, false_and, Nat.zero_add, Nat.le_refl, Nat.zero_le, true_or, or_true, not_true_eq_false, not_false_eq_true, forall_const, false_implies, implies_true, true_implies, Int32.reduceAdd, Int32.reduceLE, Int32.reduceLT, Int32.reduceSub, Int32.reduceMul, Int32.reduceToNatClampNeg]
  have h := takeOut_loop1 G σ hf hs hn h8 (fun v h' => v = none ∧ ∃ g b : Nat → Int32, h' = enc (sI (sF (sI σ 19 g) (32 + 2 * f) 1 (nI (s - n))) (33 + 2 * f) b) ∧ (∀ i, i < n → g i = σ.1 (33 + 2 * f) i) ∧ ∀ i, i < s - n → b i = σ.1 (33 + 2 * f) (i + n)) (fun g b hg hb => ⟨rfl, g, b, rfl, hg, hb⟩) n 0 (by omega) (σ.1 19) (fun j hj => absurd hj (Nat.not_lt_zero _))
  rw [sI_id] at h
  exact h
