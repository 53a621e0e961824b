/-! READ and WRITE of the first side, from the checked ranges on. -/
theorem md3 : ∀ d, d < 4 → 0 < d → ¬ d &&& 3 = 0 := by decide
theorem opn_op {m : MS} {o : Nat} (hO : OkD m) (ho : o < 8) (hh : has (q_ds m) o = true) : 0 < opn m (q_tg m o) 3 := by
  obtain ⟨k1, k2, k3, k4, k5⟩ := hO.2 o ho hh
  unfold opn
  refine cnt_pos (j := o) ho ?_
  unfold opF
  rw [hh, decide_eq_true rfl, decide_eq_false (md3 _ k3 k2)]
  rfl
theorem fex_op {m : MS} {o : Nat} (hO : OkD m) (ho : o < 8) (hh : has (q_ds m) o = true) : fex m (q_tg m o) = true := by
  unfold fex
  rw [decide_eq_true (opn_op hO ho hh), Bool.or_true]
theorem pex_op {m : MS} {o : Nat} (hO : OkD m) (ho : o < 8) (hh : has (q_ds m) o = true) (h6 : 6 ≤ q_tg m o) : pex m (q_tg m o - 6) = true := by
  unfold pex
  rw [show 6 + (q_tg m o - 6) = q_tg m o by omega]
  exact decide_eq_true (opn_op hO ho hh)
theorem RCr_sF {rs : List (Int32 × Nat)} {σ : oT} {k j : Nat} {x : Int32} (h : RCr rs σ) (h1 : 16 ≠ k) : RCr rs (sF σ k j x) := by
  refine ⟨h.1, ?_, h.2.2⟩
  rw [sF_3, if_neg h1]
  exact h.2.1
theorem neg_sub : ∀ L, L < 25 → ∀ p, p < 25 → L < p → nI L - nI p < 0 := by decide +kernel
theorem rd_n {w L p : Nat} (hw : w < 2 ^ 31) (hL : L ≤ 24) (hp : p ≤ 24) : (if (0 : Int32) < (if nI L - nI p < nI w then nI L - nI p else nI w) then (if nI L - nI p < nI w then nI L - nI p else nI w) else 0) = nI (min w (L - p)) := by
  have key : ∀ n, n < 2 ^ 31 → (if (0 : Int32) < nI n then nI n else 0) = nI n := fun n hn => by
    by_cases h : n = 0
    · subst h; rfl
    · have h0 : (0 : Int32) < nI n := (nI_ltI (a := 0) (by decide) hn).mpr (by omega)
      rw [if_pos h0]
  by_cases h : p ≤ L
  · rw [pk_sub h]
    by_cases h2 : L - p < w
    · rw [if_pos ((nI_ltI (by omega) hw).mpr h2), key _ (by omega), Nat.min_eq_right (by omega)]
    · rw [if_neg (fun q => h2 ((nI_ltI (by omega) hw).mp q)), key _ hw, Nat.min_eq_left (by omega)]
  · have hn := neg_sub L (by omega) p (by omega) (by omega)
    rw [if_pos (Int32.lt_of_lt_of_le hn (nI_pos' hw)), if_neg (fun q => i_nle hn (Int32.le_of_lt q)), show L - p = 0 by omega, Nat.min_zero]
    rfl
theorem mn_n {w L : Nat} (hw : w < 2 ^ 31) (hL : L < 2 ^ 31) : (if nI L < nI w then nI L else nI w) = nI (min w L) := by
  by_cases h2 : L < w
  · rw [if_pos ((nI_ltI hL hw).mpr h2), Nat.min_eq_right (by omega)]
  · rw [if_neg (fun q => h2 ((nI_ltI hL hw).mp q)), Nat.min_eq_left (by omega)]
theorem c_takeFromFile (G : oG) (σ : oT) (m : MS) (hO : Ok m) (hR : RC m σ) {o w : Nat} (ho : o < 8) (hh : has (q_ds m) o = true) (hf : q_tg m o < 6) (hw : w < 2 ^ 31) : Mt G m_T_takeFromFile [.ref 1, .int (nI o), .int (nI w)] (enc σ) 0 0 (fun v h' => v = some (.int (nI (min w (q_sz m (q_tg m o) - q_ps m o)))) ∧ ∃ τ : oT, h' = enc τ ∧ RC (q_sps m (va_up (q_ps m) o (q_ps m o + min w (q_sz m (q_tg m o) - q_ps m o)))) τ ∧ frC σ τ ∧ (∀ rs, RCr rs σ → RCr rs τ) ∧ ∀ i, i < min w (q_sz m (q_tg m o) - q_ps m o) → τ.1 19 i = nI (q_dat m (q_tg m o) (q_ps m o + i))) := by
  obtain ⟨k1, k2, k3, k4, k5⟩ := hO.2.2.2.1.2 o ho hh
  obtain ⟨r1, r2, r3⟩ := hR.2.2.2.2.2.2.1 o ho hh
  have hx := fex_op hO.2.2.2.1 ho hh
  obtain ⟨s1, s2⟩ := hR.2.2.2.2.2.2.2.1 _ hf hx
  obtain ⟨t1, t2⟩ := hO.2.2.2.2.1 _ hf hx
  have hv : vp_in (nI o) 8 := vp_in_nI ho (by decide)
  refine Mt.of (by decide) (Nat.le_of_ble_eq_true rfl) (s_T_takeFromFile_0 _ _ _ _ _ ?_)
  simp only [k_T_takeFromFile_0, o_iconst, o_lconst, o_iload, o_lload, o_aload, o_istore, o_lstore, o_astore, o_iinc, o_iadd, o_isub, o_imul, o_iand, o_ior, o_idiv, o_irem, o_lor, o_lushr, o_lshl, o_i2l, o_l2i, o_lcmp, o_dup, o_pop, o_dup2, o_ifeq, o_ifne, o_iflt, o_ifge, o_ifgt, o_ifle, o_icmpeq, o_icmpne, o_icmplt, o_icmpge, o_icmpgt, o_icmple, o_jmp, o_tsw, o_iret, o_zret, o_lret, o_vret, o_getf, o_putfI, o_putfR, o_iald, o_alen, o_lald, o_zald, o_iast, o_last, o_zast, o_aald, o_aast, o_new, o_newa, o_callS, o_callI, o_callV, o_objInit, o_mmax, o_mmin, o_lk, o_up1, o_up2, o_cl1, o_cl2, o_keep, o_c2, List.getElem?_cons_zero, List.getElem?_cons_succ, List.drop_zero, List.drop_succ_cons, List.take_zero, List.take_succ_cons, List.reverse_cons, List.reverse_nil, List.nil_append, List.cons_append, List.map_cons, List.map_nil, List.sum_cons, List.sum_nil, Value.category, List.length_cons, List.length_nil, List.set_cons_zero, List.set_cons_succ, Option.toList_some, Option.toList_none, lv_args, ↓reduceIte, Nat.reduceAdd, Nat.reduceSub, Nat.reduceMul, Nat.reduceEqDiff, Nat.reduceLeDiff, Nat.reduceLT, reduceCtorEq, Bool.false_eq_true, and_true, true_and, and_self, and_false, false_and, Nat.zero_add, Nat.le_refl, Nat.zero_le, true_or, or_true, not_true_eq_false, not_false_eq_true, forall_const, false_implies, implies_true, true_implies, Int32.reduceAdd, Int32.reduceLE, Int32.reduceLT, Int32.reduceSub, Int32.reduceMul, Int32.reduceToNatClampNeg, og_0, oi_0, ef_0_8, og_1, oi_1, og_2, oi_2, oq_2, es_2, og_3, oi_3, oq_3, es_3, og_4, oi_4, oq_4, es_4, og_5, oi_5, ef_5_2, og_6, oi_6, es_6, og_7, oi_7, oq_7, es_7, og_8, oi_8, og_9, oi_9, oq_9, es_9, og_10, oi_10, oq_10, es_10, og_11, oi_11, oq_11, es_11, og_12, oi_12, oq_12, es_12, og_13, oi_13, oq_13, es_13, og_14, oi_14, og_15, oi_15, og_16, oi_16, ef_16_2, og_17, oi_17, oq_17, es_17, og_18, oi_18, oq_18, es_18, og_19, oi_19, oq_19, es_19, og_20, oi_20, ef_20_1, og_21, oi_21, oq_21, es_21, og_22, oi_22, ef_22_1, og_23, oi_23, oq_23, es_23, og_24, oi_24, ef_24_1, og_25, oi_25, oq_25, es_25, og_26, oi_26, ef_26_1, og_27, oi_27, oq_27, es_27, og_28, oi_28, ef_28_1, og_29, oi_29, oq_29, es_29, og_30, oi_30, ef_30_1, og_31, oi_31, oq_31, es_31, og_32, oi_32, ef_32_1, og_33, oi_33, oq_33, es_33, og_34, oi_34, ef_34_1, og_35, oi_35, oq_35, es_35, nI_clamp (show o < 2 ^ 31 by omega), r1, r3, nI_clamp (show q_tg m o < 2 ^ 31 by omega), fa_file hf, og_file hf, s1, rd_n hw t1 k4]
  refine ⟨hv, vp_in_nI hf (by decide), hv, ?_⟩
  refine o_use (c_copyOut G σ (f := q_tg m o) (pos := q_ps m o) (n := min w (q_sz m (q_tg m o) - q_ps m o)) hf (by omega)) ?_
  rintro v h' ⟨rfl, g, rfl, hg⟩
  refine s_T_takeFromFile_55 _ _ _ _ _ ?_
  simp only [k_T_takeFromFile_55, o_iconst, o_lconst, o_iload, o_lload, o_aload, o_istore, o_lstore, o_astore, o_iinc, o_iadd, o_isub, o_imul, o_iand, o_ior, o_idiv, o_irem, o_lor, o_lushr, o_lshl, o_i2l, o_l2i, o_lcmp, o_dup, o_pop, o_dup2, o_ifeq, o_ifne, o_iflt, o_ifge, o_ifgt, o_ifle, o_icmpeq, o_icmpne, o_icmplt, o_icmpge, o_icmpgt, o_icmple, o_jmp, o_tsw, o_iret, o_zret, o_lret, o_vret, o_getf, o_putfI, o_putfR, o_iald, o_alen, o_lald, o_zald, o_iast, o_last, o_zast, o_aald, o_aast, o_new, o_newa, o_callS, o_callI, o_callV, o_objInit, o_mmax, o_mmin, o_lk, o_up1, o_up2, o_cl1, o_cl2, o_keep, o_c2, List.getElem?_cons_zero, List.getElem?_cons_succ, List.drop_zero, List.drop_succ_cons, List.take_zero, List.take_succ_cons, List.reverse_cons, List.reverse_nil, List.nil_append, List.cons_append, List.map_cons, List.map_nil, List.sum_cons, List.sum_nil, Value.category, List.length_cons, List.length_nil, List.set_cons_zero, List.set_cons_succ, Option.toList_some, Option.toList_none, lv_args, ↓reduceIte, Nat.reduceAdd, Nat.reduceSub, Nat.reduceMul, Nat.reduceEqDiff, Nat.reduceLeDiff, Nat.reduceLT, reduceCtorEq, Bool.false_eq_true, and_true, true_and, and_self, and_false, false_and, Nat.zero_add, Nat.le_refl, Nat.zero_le, true_or, or_true, not_true_eq_false, not_false_eq_true, forall_const, false_implies, implies_true, true_implies, Int32.reduceAdd, Int32.reduceLE, Int32.reduceLT, Int32.reduceSub, Int32.reduceMul, Int32.reduceToNatClampNeg, og_0, oi_0, ef_0_8, og_1, oi_1, og_2, oi_2, oq_2, es_2, og_3, oi_3, oq_3, es_3, og_4, oi_4, oq_4, es_4, og_5, oi_5, ef_5_2, og_6, oi_6, es_6, og_7, oi_7, oq_7, es_7, og_8, oi_8, og_9, oi_9, oq_9, es_9, og_10, oi_10, oq_10, es_10, og_11, oi_11, oq_11, es_11, og_12, oi_12, oq_12, es_12, og_13, oi_13, oq_13, es_13, og_14, oi_14, og_15, oi_15, og_16, oi_16, ef_16_2, og_17, oi_17, oq_17, es_17, og_18, oi_18, oq_18, es_18, og_19, oi_19, oq_19, es_19, og_20, oi_20, ef_20_1, og_21, oi_21, oq_21, es_21, og_22, oi_22, ef_22_1, og_23, oi_23, oq_23, es_23, og_24, oi_24, ef_24_1, og_25, oi_25, oq_25, es_25, og_26, oi_26, ef_26_1, og_27, oi_27, oq_27, es_27, og_28, oi_28, ef_28_1, og_29, oi_29, oq_29, es_29, og_30, oi_30, ef_30_1, og_31, oi_31, oq_31, es_31, og_32, oi_32, ef_32_1, og_33, oi_33, oq_33, es_33, og_34, oi_34, ef_34_1, og_35, oi_35, oq_35, es_35, nI_clamp (show o < 2 ^ 31 by omega), nI_add]
  refine ⟨hv, _, rfl, RC_ps (RC_19 g hR), frC_sI (frC_sI (frC_r σ) (by decide)) (by decide), fun rs h => RCr_sI (RCr_sI h (by decide) (by decide)) (by decide) (by decide), fun i hi => ?_⟩
  show g i = _
  rw [hg i hi, s2 _ (by omega)]
theorem RC_q {m : MS} {σ : oT} {q n : Nat} {pb : Nat → Nat} {b : Nat → Int32} (h : RC m σ) (hq : q < 2) (hb : ∀ i, i < n → b i = nI (pb i)) : RC (q_shl (q_spb m (va_up (q_pb m) q pb)) (va_up (q_hl m) q n)) (sI (sF σ (32 + 2 * q) 1 (nI n)) (33 + 2 * q) b) := by
  have a : ∀ k, k < 32 → (sI (sF σ (32 + 2 * q) 1 (nI n)) (33 + 2 * q) b).1 k = σ.1 k := fun k hk => by rw [sI_1, if_neg (by omega), sF_1]
  have c : ∀ k, k < 32 → (sI (sF σ (32 + 2 * q) 1 (nI n)) (33 + 2 * q) b).2.2 k = σ.2.2 k := fun k hk => by
    rw [sI_2]
    funext x
    rw [sF_3, if_neg (by omega)]
  refine ⟨fun k hk => ?_, fun k hk => ?_, fun k hk => ?_, ?_, ?_, ?_, ?_, ?_, ?_⟩
  · rw [a 3 (by decide)]; exact h.1 k hk
  · rw [a 2 (by decide)]; exact h.2.1 k hk
  · rw [a 4 (by decide)]; exact h.2.2.1 k hk
  · rw [c 0 (by decide)]; exact h.2.2.2.1
  · have h5 := h.2.2.2.2.1
    unfold RCn at h5 ⊢
    rw [a 7 (by decide), c 5 (by decide)]
    exact h5
  · have h5 := h.2.2.2.2.2.1
    unfold RCd at h5 ⊢
    rw [a 9 (by decide), a 10 (by decide)]
    exact h5
  · have h5 := h.2.2.2.2.2.2.1
    unfold RCo at h5 ⊢
    rw [a 11 (by decide), a 12 (by decide), a 13 (by decide)]
    exact h5
  · exact RCf_sI (RCf_sF h.2.2.2.2.2.2.2.1 (by omega)) (by omega)
  · intro q' hq' he
    by_cases e : q' = q
    · subst e
      have e1 : q_hl (q_shl (q_spb m (va_up (q_pb m) q' pb)) (va_up (q_hl m) q' n)) q' = n := by
        show va_up (q_hl m) q' n q' = n
        simp [va_up]
      rw [e1]
      refine ⟨?_, fun i hi => ?_⟩
      · rw [sI_2, sF_3, if_pos rfl, if_pos rfl]
      · rw [sI_1, if_pos rfl, hb i hi]
        show nI (pb i) = nI (va_up (q_pb m) q' pb q' i)
        simp [va_up]
    · have hh := h.2.2.2.2.2.2.2.2 q' hq' he
      have e1 : q_hl (q_shl (q_spb m (va_up (q_pb m) q pb)) (va_up (q_hl m) q n)) q' = q_hl m q' := by
        show va_up (q_hl m) q n q' = _
        simp [va_up, e]
      rw [e1]
      refine ⟨?_, fun i hi => ?_⟩
      · rw [sI_2, sF_3, if_neg (by omega)]; exact hh.1
      · rw [sI_1, if_neg (by omega), sF_1, hh.2 i hi]
        show _ = nI (va_up (q_pb m) q pb q' i)
        simp [va_up, e]
