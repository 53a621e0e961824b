/-! The second side reads from a file or a pipe. -/
theorem sI_4 (σ : oT) (a b : Nat) (f g f' g' : Nat → Int32) : sI (sI (sI (sI σ a f) b g) a f') b g' = sI (sI σ a f') b g' := by
  refine Prod.ext ?_ rfl
  funext j
  simp only [sI_1]
  by_cases h : j = b
  · simp only [h, if_true]
  · by_cases h2 : j = a
    · simp only [h, h2, if_true, if_false]
    · simp only [h, h2, if_false]
theorem ix24 (p q : Nat) : (24 : Int32) * nI p + nI q = nI (24 * p + q) := by rw [show (24 : Int32) = nI 24 from rfl, pk_mul, nI_add]
theorem ff_loop (G : oG) (σ τ : oT) (m : MS) (hR : RMp m τ) (hfr : frX σ τ) {o f len N : Nat} {lc : Nat → Nat} (o8 : o < 8) (f6 : f < 6) (hsz : q_sz m f ≤ 24) (h42 : τ.1 42 f = nI (q_sz m f)) (h43 : ∀ i, i < q_sz m f → τ.1 43 (24 * f + i) = nI (q_dat m f i)) (hps : q_ps m o ≤ 24) (h23 : τ.2.2 36 23 = nI len) (hlen : len ≤ 1024) (hl : ∀ j, j < len → lc j < 320 ∧ τ.1 55 j = nI (lc j)) (hN : N = min len (q_sz m f - q_ps m o)) : ∀ k i : Nat, i + k = N → ∀ (g u : Nat → Int32), (∀ k, k < 320 → g k = nI (q_wr (q_mem m) lc (fun j => q_dat m f (q_ps m o + j)) i k)) → u = upd (τ.1 49) o (nI (q_ps m o + i)) → Wp G m_X_fromFile (XP σ (nI N, q_smem (q_sps m (va_up (q_ps m) o (q_ps m o + N))) (q_wr (q_mem m) lc (fun j => q_dat m f (q_ps m o + j)) N))) 9 0 0 [(0, .ref 37), (1, .int (nI o)), (2, .int (nI f)), (3, .int (nI i))] [] (enc (sI (sI τ 37 g) 49 u)) := by
  have vo : vp_in (nI o) 8 := vp_in_nI o8 (by decide)
  have vf : vp_in (nI f) 6 := vp_in_nI f6 (by decide)
  have uu : ∀ (h : Nat → Int32) (y : Int32), upd h o y o = y := fun h y => by simp [upd]
  intro k
  induction k with
  | zero =>
    intro i hk g u hg hu
    have e : i = N := by omega
    subst e
    have hdone : XP σ (nI i, q_smem (q_sps m (va_up (q_ps m) o (q_ps m o + i))) (q_wr (q_mem m) lc (fun j => q_dat m f (q_ps m o + j)) i)) (some (.int (nI i))) (enc (sI (sI τ 37 g) 49 u)) := by
      refine XP.mk ?_ (frX_t hfr (frX_sI (frX_sI (frX_r τ) (by decide)) (by decide)))
      rw [hu]
      have h := RMp_ps (o := o) (x := q_ps m o + i) (RMp_b hR hg)
      exact h
    refine s_X_fromFile_9 _ _ _ _ _ ?_
    have e1 := nI_leI (a := len) (b := i) (by omega) (by omega)
    have e2 := nI_leI (a := q_sz m f) (b := q_ps m o + i) (by omega) (by omega)
    simp only [k_X_fromFile_9, o_iconst, o_lconst, o_iload, o_lload, o_aload, o_istore, o_lstore, o_astore, o_iinc, o_iadd, o_isub, o_imul, o_iand, o_ior, o_idiv, o_irem, o_lor, o_lushr, o_lshl, o_i2l, o_l2i, o_lcmp, o_dup, o_pop, o_dup2, o_ifeq, o_ifne, o_iflt, o_ifge, o_ifgt, o_ifle, o_icmpeq, o_icmpne, o_icmplt, o_icmpge, o_icmpgt, o_icmple, o_jmp, o_tsw, o_iret, o_zret, o_lret, o_vret, o_getf, o_putfI, o_putfR, o_iald, o_alen, o_lald, o_zald, o_iast, o_last, o_zast, o_aald, o_aast, o_new, o_newa, o_callS, o_callI, o_callV, o_objInit, o_mmax, o_mmin, o_lk, o_up1, o_up2, o_cl1, o_cl2, o_keep, o_c2, List.getElem?_cons_zero, List.getElem?_cons_succ, List.drop_zero, List.drop_succ_cons, List.take_zero, List.take_succ_cons, List.reverse_cons, List.reverse_nil, List.nil_append, List.cons_append, List.map_cons, List.map_nil, List.sum_cons, List.sum_nil, Value.category, List.length_cons, List.length_nil, List.set_cons_zero, List.set_cons_succ, Option.toList_some, Option.toList_none, lv_args, ↓reduceIte, Nat.reduceAdd, Nat.reduceSub, Nat.reduceMul, Nat.reduceEqDiff, Nat.reduceLeDiff, Nat.reduceLT, reduceCtorEq, Bool.false_eq_true, and_true, true_and, and_self, and_false, false_and, Nat.zero_add, Nat.le_refl, Nat.zero_le, true_or, or_true, not_true_eq_false, not_false_eq_true, forall_const, false_implies, implies_true, true_implies, Int32.reduceAdd, Int32.reduceLE, Int32.reduceLT, Int32.reduceSub, Int32.reduceMul, Int32.reduceToNatClampNeg, og_36, oi_36, ef_36_4, ef_36_19, ef_36_20, ef_36_21, ef_36_22, ef_36_23, og_37, oi_37, oq_37, es_37, og_38, oi_38, oq_38, es_38, og_39, oi_39, oq_39, es_39, og_40, oi_40, oq_40, es_40, og_41, oi_41, es_41, og_42, oi_42, oq_42, es_42, og_43, oi_43, oq_43, es_43, og_44, oi_44, oq_44, es_44, og_45, oi_45, oq_45, es_45, og_46, oi_46, oq_46, es_46, og_47, oi_47, oq_47, es_47, og_48, oi_48, oq_48, es_48, og_49, oi_49, oq_49, es_49, og_50, oi_50, oq_50, es_50, og_51, oi_51, es_51, og_52, oi_52, oq_52, es_52, og_53, oi_53, oq_53, es_53, og_54, oi_54, oq_54, es_54, og_55, oi_55, oq_55, es_55, og_56, oi_56, oq_56, es_56, og_57, oi_57, oq_57, es_57, og_58, oi_58, oq_58, es_58, sI_1, sI_2, sL_1, sL_2, sL_3, sF_1, sF_2, sF_3, h23, nI_clamp (show o < 2 ^ 31 by omega), nI_clamp (show f < 2 ^ 31 by omega), h42, hu, uu]
    rw [← hu]
    refine ⟨fun _ => hdone, fun q => ⟨vo, vf, fun _ => hdone, fun q2 => ?_⟩⟩
    have c1 : ¬ len ≤ i := fun h => q (e1.mpr h)
    have c2 : ¬ q_sz m f ≤ q_ps m o + i := fun h => q2 (e2.mpr h)
    omega
  | succ k ih =>
    intro i hk g u hg hu
    have c1 : i < len := by omega
    have c2 : q_ps m o + i < q_sz m f := by omega
    obtain ⟨h1, h2⟩ := hl i c1
    refine s_X_fromFile_9 _ _ _ _ _ ?_
    simp only [k_X_fromFile_9, o_iconst, o_lconst, o_iload, o_lload, o_aload, o_istore, o_lstore, o_astore, o_iinc, o_iadd, o_isub, o_imul, o_iand, o_ior, o_idiv, o_irem, o_lor, o_lushr, o_lshl, o_i2l, o_l2i, o_lcmp, o_dup, o_pop, o_dup2, o_ifeq, o_ifne, o_iflt, o_ifge, o_ifgt, o_ifle, o_icmpeq, o_icmpne, o_icmplt, o_icmpge, o_icmpgt, o_icmple, o_jmp, o_tsw, o_iret, o_zret, o_lret, o_vret, o_getf, o_putfI, o_putfR, o_iald, o_alen, o_lald, o_zald, o_iast, o_last, o_zast, o_aald, o_aast, o_new, o_newa, o_callS, o_callI, o_callV, o_objInit, o_mmax, o_mmin, o_lk, o_up1, o_up2, o_cl1, o_cl2, o_keep, o_c2, List.getElem?_cons_zero, List.getElem?_cons_succ, List.drop_zero, List.drop_succ_cons, List.take_zero, List.take_succ_cons, List.reverse_cons, List.reverse_nil, List.nil_append, List.cons_append, List.map_cons, List.map_nil, List.sum_cons, List.sum_nil, Value.category, List.length_cons, List.length_nil, List.set_cons_zero, List.set_cons_succ, Option.toList_some, Option.toList_none, lv_args, ↓reduceIte, Nat.reduceAdd, Nat.reduceSub, Nat.reduceMul, Nat.reduceEqDiff, Nat.reduceLeDiff, Nat.reduceLT, reduceCtorEq, Bool.false_eq_true, and_true, true_and, and_self, and_false, false_and, Nat.zero_add, Nat.le_refl, Nat.zero_le, true_or, or_true, not_true_eq_false, not_false_eq_true, forall_const, false_implies, implies_true, true_implies, Int32.reduceAdd, Int32.reduceLE, Int32.reduceLT, Int32.reduceSub, Int32.reduceMul, Int32.reduceToNatClampNeg, og_36, oi_36, ef_36_4, ef_36_19, ef_36_20, ef_36_21, ef_36_22, ef_36_23, og_37, oi_37, oq_37, es_37, og_38, oi_38, oq_38, es_38, og_39, oi_39, oq_39, es_39, og_40, oi_40, oq_40, es_40, og_41, oi_41, es_41, og_42, oi_42, oq_42, es_42, og_43, oi_43, oq_43, es_43, og_44, oi_44, oq_44, es_44, og_45, oi_45, oq_45, es_45, og_46, oi_46, oq_46, es_46, og_47, oi_47, oq_47, es_47, og_48, oi_48, oq_48, es_48, og_49, oi_49, oq_49, es_49, og_50, oi_50, oq_50, es_50, og_51, oi_51, es_51, og_52, oi_52, oq_52, es_52, og_53, oi_53, oq_53, es_53, og_54, oi_54, oq_54, es_54, og_55, oi_55, oq_55, es_55, og_56, oi_56, oq_56, es_56, og_57, oi_57, oq_57, es_57, og_58, oi_58, oq_58, es_58, sI_1, sI_2, sL_1, sL_2, sL_3, sF_1, sF_2, sF_3, sI_4, h23, nI_clamp (show o < 2 ^ 31 by omega), nI_clamp (show f < 2 ^ 31 by omega), h42, hu, uu, nI_1, ix24, nI_clamp (show i < 2 ^ 31 by omega), h2, nI_clamp (show 24 * f + (q_ps m o + i) < 2 ^ 31 by omega), h43 (q_ps m o + i) c2, nI_clamp (show lc i < 2 ^ 31 by omega)]
    refine ⟨fun q => absurd q (nI_ge c1 (by omega)), fun _ => ⟨vo, vf, fun q => absurd q (nI_ge c2 (by omega)), fun _ => ⟨vp_in_nI (by omega) (by decide), vo, vp_in_nI (by omega) (by decide), vp_in_nI h1 (by decide), vo, vo, ?_⟩⟩⟩
    refine ih (i + 1) (by omega) _ _ (wr_s hg) ?_
    funext j
    simp only [upd]
    split
    · rw [show q_ps m o + (i + 1) = q_ps m o + i + 1 by omega]
    · rfl
theorem upd_i (g : Nat → Int32) {o : Nat} {y : Int32} (h : g o = y) : upd g o y = g := by
  funext j
  simp only [upd]
  split
  · rename_i e; rw [e, h]
  · rfl
theorem x_fromFile (G : oG) (σ τ : oT) (m : MS) (hO : Ok m) (hR : RMp m τ) (hfr : frX σ τ) {p o len : Nat} {ad : Nat → Nat} (o8 : o < 8) (hh : has (q_ds m) o = true) (h6 : ¬ 6 ≤ q_tg m o) (h23 : τ.2.2 36 23 = nI len) (hlen : len ≤ 1024) (hl : ∀ j, j < len → τ.1 55 j = nI (q_loc m p (ad j))) (h0 : ¬ len = 0) : Mt G m_X_fromFile [.ref 37, .int (nI o)] (enc τ) 0 0 (XP σ (sp_rd m p o ad len)) := by
  obtain ⟨k1, k2, k3, k4, k5⟩ := hO.2.2.2.1.2 o o8 hh
  obtain ⟨r1, r2, r3, r4⟩ := hR.2.2.2.2.2.2.1 o o8 hh
  have hfx : fex m (q_tg m o) = true := by
    unfold fex
    rw [decide_eq_true (show 0 < opn m (q_tg m o) 3 from cnt_pos (f := opF m (q_tg m o) 3) o8 (by
      unfold opF
      rw [hh, decide_eq_true rfl, decide_eq_false (md3 _ k3 k2)]
      rfl)), Bool.or_true]
  obtain ⟨f1, f2, f3⟩ := hR.2.2.2.2.2.2.2.1 (q_tg m o) (by omega) hfx
  obtain ⟨s1, -⟩ := hO.2.2.2.2.1 (q_tg m o) (by omega) hfx
  rw [show ofX (q_tg m o) = q_tg m o by unfold ofX; rw [if_pos (by omega)]] at r2
  unfold sp_rd
  rw [if_neg h0, if_neg h6]
  refine Mt.of (by decide) (Nat.le_of_ble_eq_true rfl) (s_X_fromFile_0 _ _ _ _ _ ?_)
  simp only [k_X_fromFile_0, o_iconst, o_lconst, o_iload, o_lload, o_aload, o_istore, o_lstore, o_astore, o_iinc, o_iadd, o_isub, o_imul, o_iand, o_ior, o_idiv, o_irem, o_lor, o_lushr, o_lshl, o_i2l, o_l2i, o_lcmp, o_dup, o_pop, o_dup2, o_ifeq, o_ifne, o_iflt, o_ifge, o_ifgt, o_ifle, o_icmpeq, o_icmpne, o_icmplt, o_icmpge, o_icmpgt, o_icmple, o_jmp, o_tsw, o_iret, o_zret, o_lret, o_vret, o_getf, o_putfI, o_putfR, o_iald, o_alen, o_lald, o_zald, o_iast, o_last, o_zast, o_aald, o_aast, o_new, o_newa, o_callS, o_callI, o_callV, o_objInit, o_mmax, o_mmin, o_lk, o_up1, o_up2, o_cl1, o_cl2, o_keep, o_c2, List.getElem?_cons_zero, List.getElem?_cons_succ, List.drop_zero, List.drop_succ_cons, List.take_zero, List.take_succ_cons, List.reverse_cons, List.reverse_nil, List.nil_append, List.cons_append, List.map_cons, List.map_nil, List.sum_cons, List.sum_nil, Value.category, List.length_cons, List.length_nil, List.set_cons_zero, List.set_cons_succ, Option.toList_some, Option.toList_none, lv_args, ↓reduceIte, Nat.reduceAdd, Nat.reduceSub, Nat.reduceMul, Nat.reduceEqDiff, Nat.reduceLeDiff, Nat.reduceLT, reduceCtorEq, Bool.false_eq_true, and_true, true_and, and_self, and_false, false_and, Nat.zero_add, Nat.le_refl, Nat.zero_le, true_or, or_true, not_true_eq_false, not_false_eq_true, forall_const, false_implies, implies_true, true_implies, Int32.reduceAdd, Int32.reduceLE, Int32.reduceLT, Int32.reduceSub, Int32.reduceMul, Int32.reduceToNatClampNeg, og_36, oi_36, ef_36_4, ef_36_19, ef_36_20, ef_36_21, ef_36_22, ef_36_23, og_37, oi_37, oq_37, es_37, og_38, oi_38, oq_38, es_38, og_39, oi_39, oq_39, es_39, og_40, oi_40, oq_40, es_40, og_41, oi_41, es_41, og_42, oi_42, oq_42, es_42, og_43, oi_43, oq_43, es_43, og_44, oi_44, oq_44, es_44, og_45, oi_45, oq_45, es_45, og_46, oi_46, oq_46, es_46, og_47, oi_47, oq_47, es_47, og_48, oi_48, oq_48, es_48, og_49, oi_49, oq_49, es_49, og_50, oi_50, oq_50, es_50, og_51, oi_51, es_51, og_52, oi_52, oq_52, es_52, og_53, oi_53, oq_53, es_53, og_54, oi_54, oq_54, es_54, og_55, oi_55, oq_55, es_55, og_56, oi_56, oq_56, es_56, og_57, oi_57, oq_57, es_57, og_58, oi_58, oq_58, es_58, nI_clamp (show o < 2 ^ 31 by omega), r2]
  refine ⟨vp_in_nI o8 (by decide), ?_⟩
  have h := ff_loop G σ τ m hR hfr (lc := fun i => q_loc m p (ad i)) o8 (show q_tg m o < 6 by omega) s1 f2 f3 k4 h23 hlen (fun j hj => ⟨q_loc_lt hO.1 _ _, hl j hj⟩) rfl _ 0 (Nat.zero_add _) (τ.1 37) (τ.1 49) hR.2.1 (upd_i _ (by rw [r3]; rfl)).symm
  have e : sI (sI τ 37 (τ.1 37)) 49 (τ.1 49) = τ := by rw [sI_id, sI_id]
  rw [e] at h
  exact h
theorem fp_89 (G : oG) (σ τ : oT) (m M : MS) (hO : Ok m) (hR : RMp M τ) (hM : ∃ f, M = q_smem m f) (hfr : frX σ τ) {q n : Nat} (q2 : q < 2) (hx : pex m q = true) (hn : n ≤ q_hl m q) : ∀ k i : Nat, i + k = q_hl m q → n ≤ i → ∀ d : Nat → Int32, (∀ j, j < i - n → d (8 * q + j) = nI (q_pb m q (j + n))) → (∀ x, (∀ j, j < i - n → x ≠ 8 * q + j) → d x = τ.1 53 x) → Wp G m_X_fromPipe (XP σ (nI n, q_smem (tkQ m q n) (q_mem M))) 89 0 0 [(0, .ref 37), (1, .int (nI q)), (2, .int (nI n)), (3, .int (nI i))] [] (enc (sI τ 53 d)) := by
  obtain ⟨f, rfl⟩ := hM
  obtain ⟨g1, g2, g3⟩ := hR.2.2.2.2.2.2.2.2 q q2 hx
  obtain ⟨l8, -⟩ := hO.2.2.2.2.2 q q2 hx
  have g2' : τ.1 52 q = nI (q_hl m q) := g2
  have g3' : ∀ i, i < q_hl m q → τ.1 53 (8 * q + i) = nI (q_pb m q i) := g3
  have vq : vp_in (nI q) 2 := vp_in_nI q2 (by decide)
  intro k
  induction k with
  | zero =>
    intro i hk hi d h1 h2
    have e : i = q_hl m q := by omega
    subst e
    refine s_X_fromPipe_89 _ _ _ _ _ ?_
    simp only [k_X_fromPipe_89, o_iconst, o_lconst, o_iload, o_lload, o_aload, o_istore, o_lstore, o_astore, o_iinc, o_iadd, o_isub, o_imul, o_iand, o_ior, o_idiv, o_irem, o_lor, o_lushr, o_lshl, o_i2l, o_l2i, o_lcmp, o_dup, o_pop, o_dup2, o_ifeq, o_ifne, o_iflt, o_ifge, o_ifgt, o_ifle, o_icmpeq, o_icmpne, o_icmplt, o_icmpge, o_icmpgt, o_icmple, o_jmp, o_tsw, o_iret, o_zret, o_lret, o_vret, o_getf, o_putfI, o_putfR, o_iald, o_alen, o_lald, o_zald, o_iast, o_last, o_zast, o_aald, o_aast, o_new, o_newa, o_callS, o_callI, o_callV, o_objInit, o_mmax, o_mmin, o_lk, o_up1, o_up2, o_cl1, o_cl2, o_keep, o_c2, List.getElem?_cons_zero, List.getElem?_cons_succ, List.drop_zero, List.drop_succ_cons, List.take_zero, List.take_succ_cons, List.reverse_cons, List.reverse_nil, List.nil_append, List.cons_append, List.map_cons, List.map_nil, List.sum_cons, List.sum_nil, Value.category, List.length_cons, List.length_nil, List.set_cons_zero, List.set_cons_succ, Option.toList_some, Option.toList_none, lv_args, ↓reduceIte, Nat.reduceAdd, Nat.reduceSub, Nat.reduceMul, Nat.reduceEqDiff, Nat.reduceLeDiff, Nat.reduceLT, reduceCtorEq, Bool.false_eq_true, and_true, true_and, and_self, and_false, false_and, Nat.zero_add, Nat.le_refl, Nat.zero_le, true_or, or_true, not_true_eq_false, not_false_eq_true, forall_const, false_implies, implies_true, true_implies, Int32.reduceAdd, Int32.reduceLE, Int32.reduceLT, Int32.reduceSub, Int32.reduceMul, Int32.reduceToNatClampNeg, og_36, oi_36, ef_36_4, ef_36_19, ef_36_20, ef_36_21, ef_36_22, ef_36_23, og_37, oi_37, oq_37, es_37, og_38, oi_38, oq_38, es_38, og_39, oi_39, oq_39, es_39, og_40, oi_40, oq_40, es_40, og_41, oi_41, es_41, og_42, oi_42, oq_42, es_42, og_43, oi_43, oq_43, es_43, og_44, oi_44, oq_44, es_44, og_45, oi_45, oq_45, es_45, og_46, oi_46, oq_46, es_46, og_47, oi_47, oq_47, es_47, og_48, oi_48, oq_48, es_48, og_49, oi_49, oq_49, es_49, og_50, oi_50, oq_50, es_50, og_51, oi_51, es_51, og_52, oi_52, oq_52, es_52, og_53, oi_53, oq_53, es_53, og_54, oi_54, oq_54, es_54, og_55, oi_55, oq_55, es_55, og_56, oi_56, oq_56, es_56, og_57, oi_57, oq_57, es_57, og_58, oi_58, oq_58, es_58, sI_1, sI_2, sL_1, sL_2, sL_3, sF_1, sF_2, sF_3, nI_clamp (show q < 2 ^ 31 by omega), g2', pk_sub hn]
    refine ⟨vq, fun _ => ⟨vq, vq, ?_⟩, fun q => absurd (nI_le (Nat.le_refl _) (by omega)) q⟩
    refine XP.mk ⟨hR.1, hR.2.1, hR.2.2.1, hR.2.2.2.1, hR.2.2.2.2.1, hR.2.2.2.2.2.1, hR.2.2.2.2.2.2.1, hR.2.2.2.2.2.2.2.1, fun j hj hh => ?_⟩ (frX_t hfr (frX_sI (frX_sI (frX_r τ) (by decide)) (by decide)))
    have hh' : pex m j = true := hh
    obtain ⟨e1, e2, e3⟩ := hR.2.2.2.2.2.2.2.2 j hj hh'
    obtain ⟨j8, -⟩ := hO.2.2.2.2.2 j hj hh'
    show τ.1 51 j = 1 ∧ upd (τ.1 52) q (nI (q_hl m q - n)) j = nI (va_up (q_hl m) q (q_hl m q - n) j) ∧ ∀ i, i < va_up (q_hl m) q (q_hl m q - n) j → d (8 * j + i) = nI (va_up (q_pb m) q (fun i => q_pb m q (i + n)) j i)
    by_cases c : j = q
    · subst c
      rw [va_s, va_s]
      exact ⟨e1, by simp [upd], h1⟩
    · have w : ∀ (y : Nat), va_up (q_hl m) q y j = q_hl m j := fun y => by simp [va_up, c]
      have w2 : ∀ (y : Nat → Nat), va_up (q_pb m) q y j = q_pb m j := fun y => by simp [va_up, c]
      rw [w, w2]
      refine ⟨e1, ?_, fun i hi => ?_⟩
      · simp only [upd]
        rw [if_neg c]
        exact e2
      · rw [h2 (8 * j + i) (fun x hx e => by omega)]
        exact e3 i hi
  | succ k ih =>
    intro i hk hi d h1 h2
    have c : i < q_hl m q := by omega
    have ed : d (8 * q + i) = nI (q_pb m q i) := by
      by_cases c2 : n = 0
      · by_cases c3 : i < i - n
        · omega
        · rw [h2 (8 * q + i) (fun j hj e => by omega)]
          exact g3' i c
      · rw [h2 (8 * q + i) (fun j hj e => by omega)]
        exact g3' i c
    refine s_X_fromPipe_89 _ _ _ _ _ ?_
    simp only [k_X_fromPipe_89, o_iconst, o_lconst, o_iload, o_lload, o_aload, o_istore, o_lstore, o_astore, o_iinc, o_iadd, o_isub, o_imul, o_iand, o_ior, o_idiv, o_irem, o_lor, o_lushr, o_lshl, o_i2l, o_l2i, o_lcmp, o_dup, o_pop, o_dup2, o_ifeq, o_ifne, o_iflt, o_ifge, o_ifgt, o_ifle, o_icmpeq, o_icmpne, o_icmplt, o_icmpge, o_icmpgt, o_icmple, o_jmp, o_tsw, o_iret, o_zret, o_lret, o_vret, o_getf, o_putfI, o_putfR, o_iald, o_alen, o_lald, o_zald, o_iast, o_last, o_zast, o_aald, o_aast, o_new, o_newa, o_callS, o_callI, o_callV, o_objInit, o_mmax, o_mmin, o_lk, o_up1, o_up2, o_cl1, o_cl2, o_keep, o_c2, List.getElem?_cons_zero, List.getElem?_cons_succ, List.drop_zero, List.drop_succ_cons, List.take_zero, List.take_succ_cons, List.reverse_cons, List.reverse_nil, List.nil_append, List.cons_append, List.map_cons, List.map_nil, List.sum_cons, List.sum_nil, Value.category, List.length_cons, List.length_nil, List.set_cons_zero, List.set_cons_succ, Option.toList_some, Option.toList_none, lv_args, ↓reduceIte, Nat.reduceAdd, Nat.reduceSub, Nat.reduceMul, Nat.reduceEqDiff, Nat.reduceLeDiff, Nat.reduceLT, reduceCtorEq, Bool.false_eq_true, and_true, true_and, and_self, and_false, false_and, Nat.zero_add, Nat.le_refl, Nat.zero_le, true_or, or_true, not_true_eq_false, not_false_eq_true, forall_const, false_implies, implies_true, true_implies, Int32.reduceAdd, Int32.reduceLE, Int32.reduceLT, Int32.reduceSub, Int32.reduceMul, Int32.reduceToNatClampNeg, og_36, oi_36, ef_36_4, ef_36_19, ef_36_20, ef_36_21, ef_36_22, ef_36_23, og_37, oi_37, oq_37, es_37, og_38, oi_38, oq_38, es_38, og_39, oi_39, oq_39, es_39, og_40, oi_40, oq_40, es_40, og_41, oi_41, es_41, og_42, oi_42, oq_42, es_42, og_43, oi_43, oq_43, es_43, og_44, oi_44, oq_44, es_44, og_45, oi_45, oq_45, es_45, og_46, oi_46, oq_46, es_46, og_47, oi_47, oq_47, es_47, og_48, oi_48, oq_48, es_48, og_49, oi_49, oq_49, es_49, og_50, oi_50, oq_50, es_50, og_51, oi_51, es_51, og_52, oi_52, oq_52, es_52, og_53, oi_53, oq_53, es_53, og_54, oi_54, oq_54, es_54, og_55, oi_55, oq_55, es_55, og_56, oi_56, oq_56, es_56, og_57, oi_57, oq_57, es_57, og_58, oi_58, oq_58, es_58, sI_1, sI_2, sL_1, sL_2, sL_3, sF_1, sF_2, sF_3, sI_sI, nI_1, nI_clamp (show q < 2 ^ 31 by omega), g2', ix8, pk_sub (show n ≤ 8 * q + i by omega), nI_clamp (show 8 * q + i < 2 ^ 31 by omega), nI_clamp (show 8 * q + i - n < 2 ^ 31 by omega), ed]
    refine ⟨vq, fun q => absurd q (nI_ge c (by omega)), fun _ => ⟨vp_in_nI (by omega) (by decide), vp_in_nI (by omega) (by decide), ?_⟩⟩
    refine ih (i + 1) (by omega) (by omega) _ (fun j hj => ?_) (fun x hx => ?_)
    · simp only [upd]
      by_cases e : j = i - n
      · rw [if_pos (by omega), e, show i - n + n = i by omega]
      · rw [if_neg (by omega)]
        exact h1 j (by omega)
    · simp only [upd]
      rw [if_neg (fun e => hx (i - n) (by omega) (by omega))]
      exact h2 x (fun j hj => hx j (by omega))
theorem fp_54 (G : oG) (σ τ : oT) (m : MS) (hO : Ok m) (hR : RMp m τ) (hfr : frX σ τ) {q n len : Nat} {lc : Nat → Nat} (q2 : q < 2) (hx : pex m q = true) (hn : n ≤ q_hl m q) (hnl : n ≤ len) (hl : ∀ j, j < len → lc j < 320 ∧ τ.1 55 j = nI (lc j)) : ∀ k i : Nat, i + k = n → ∀ g : Nat → Int32, (∀ k, k < 320 → g k = nI (q_wr (q_mem m) lc (q_pb m q) i k)) → Wp G m_X_fromPipe (XP σ (nI n, q_smem (tkQ m q n) (q_wr (q_mem m) lc (q_pb m q) n))) 54 0 0 [(0, .ref 37), (1, .int (nI q)), (2, .int (nI n)), (3, .int (nI i))] [] (enc (sI τ 37 g)) := by
  obtain ⟨g1, g2, g3⟩ := hR.2.2.2.2.2.2.2.2 q q2 hx
  obtain ⟨l8, -⟩ := hO.2.2.2.2.2 q q2 hx
  intro k
  induction k with
  | zero =>
    intro i hk g hg
    have e : i = n := by omega
    subst e
    refine s_X_fromPipe_54 _ _ _ _ _ ?_
    simp only [k_X_fromPipe_54, o_iconst, o_lconst, o_iload, o_lload, o_aload, o_istore, o_lstore, o_astore, o_iinc, o_iadd, o_isub, o_imul, o_iand, o_ior, o_idiv, o_irem, o_lor, o_lushr, o_lshl, o_i2l, o_l2i, o_lcmp, o_dup, o_pop, o_dup2, o_ifeq, o_ifne, o_iflt, o_ifge, o_ifgt, o_ifle, o_icmpeq, o_icmpne, o_icmplt, o_icmpge, o_icmpgt, o_icmple, o_jmp, o_tsw, o_iret, o_zret, o_lret, o_vret, o_getf, o_putfI, o_putfR, o_iald, o_alen, o_lald, o_zald, o_iast, o_last, o_zast, o_aald, o_aast, o_new, o_newa, o_callS, o_callI, o_callV, o_objInit, o_mmax, o_mmin, o_lk, o_up1, o_up2, o_cl1, o_cl2, o_keep, o_c2, List.getElem?_cons_zero, List.getElem?_cons_succ, List.drop_zero, List.drop_succ_cons, List.take_zero, List.take_succ_cons, List.reverse_cons, List.reverse_nil, List.nil_append, List.cons_append, List.map_cons, List.map_nil, List.sum_cons, List.sum_nil, Value.category, List.length_cons, List.length_nil, List.set_cons_zero, List.set_cons_succ, Option.toList_some, Option.toList_none, lv_args, ↓reduceIte, Nat.reduceAdd, Nat.reduceSub, Nat.reduceMul, Nat.reduceEqDiff, Nat.reduceLeDiff, Nat.reduceLT, reduceCtorEq, Bool.false_eq_true, and_true, true_and, and_self, and_false, false_and, Nat.zero_add, Nat.le_refl, Nat.zero_le, true_or, or_true, not_true_eq_false, not_false_eq_true, forall_const, false_implies, implies_true, true_implies, Int32.reduceAdd, Int32.reduceLE, Int32.reduceLT, Int32.reduceSub, Int32.reduceMul, Int32.reduceToNatClampNeg, og_36, oi_36, ef_36_4, ef_36_19, ef_36_20, ef_36_21, ef_36_22, ef_36_23, og_37, oi_37, oq_37, es_37, og_38, oi_38, oq_38, es_38, og_39, oi_39, oq_39, es_39, og_40, oi_40, oq_40, es_40, og_41, oi_41, es_41, og_42, oi_42, oq_42, es_42, og_43, oi_43, oq_43, es_43, og_44, oi_44, oq_44, es_44, og_45, oi_45, oq_45, es_45, og_46, oi_46, oq_46, es_46, og_47, oi_47, oq_47, es_47, og_48, oi_48, oq_48, es_48, og_49, oi_49, oq_49, es_49, og_50, oi_50, oq_50, es_50, og_51, oi_51, es_51, og_52, oi_52, oq_52, es_52, og_53, oi_53, oq_53, es_53, og_54, oi_54, oq_54, es_54, og_55, oi_55, oq_55, es_55, og_56, oi_56, oq_56, es_56, og_57, oi_57, oq_57, es_57, og_58, oi_58, oq_58, es_58, sI_1, sI_2, sL_1, sL_2, sL_3, sF_1, sF_2, sF_3]
    refine ⟨fun _ => ?_, fun q => absurd (nI_le (Nat.le_refl _) (by omega)) q⟩
    have h := fp_89 G σ (sI τ 37 g) m (q_smem m (q_wr (q_mem m) lc (q_pb m q) i)) hO (RMp_b hR hg) ⟨_, rfl⟩ (frX_t hfr (frX_sI (frX_r τ) (by decide))) q2 hx hn (q_hl m q - i) i (by omega) (Nat.le_refl _) (τ.1 53) (fun j hj => by omega) (fun _ _ => rfl)
    have e : sI (sI τ 37 g) 53 (τ.1 53) = sI τ 37 g := sI_id (sI τ 37 g) 53
    rw [e] at h
    exact h
  | succ k ih =>
    intro i hk g hg
    obtain ⟨h1, h2⟩ := hl i (by omega)
    refine s_X_fromPipe_54 _ _ _ _ _ ?_
    simp only [k_X_fromPipe_54, o_iconst, o_lconst, o_iload, o_lload, o_aload, o_istore, o_lstore, o_astore, o_iinc, o_iadd, o_isub, o_imul, o_iand, o_ior, o_idiv, o_irem, o_lor, o_lushr, o_lshl, o_i2l, o_l2i, o_lcmp, o_dup, o_pop, o_dup2, o_ifeq, o_ifne, o_iflt, o_ifge, o_ifgt, o_ifle, o_icmpeq, o_icmpne, o_icmplt, o_icmpge, o_icmpgt, o_icmple, o_jmp, o_tsw, o_iret, o_zret, o_lret, o_vret, o_getf, o_putfI, o_putfR, o_iald, o_alen, o_lald, o_zald, o_iast, o_last, o_zast, o_aald, o_aast, o_new, o_newa, o_callS, o_callI, o_callV, o_objInit, o_mmax, o_mmin, o_lk, o_up1, o_up2, o_cl1, o_cl2, o_keep, o_c2, List.getElem?_cons_zero, List.getElem?_cons_succ, List.drop_zero, List.drop_succ_cons, List.take_zero, List.take_succ_cons, List.reverse_cons, List.reverse_nil, List.nil_append, List.cons_append, List.map_cons, List.map_nil, List.sum_cons, List.sum_nil, Value.category, List.length_cons, List.length_nil, List.set_cons_zero, List.set_cons_succ, Option.toList_some, Option.toList_none, lv_args, ↓reduceIte, Nat.reduceAdd, Nat.reduceSub, Nat.reduceMul, Nat.reduceEqDiff, Nat.reduceLeDiff, Nat.reduceLT, reduceCtorEq, Bool.false_eq_true, and_true, true_and, and_self, and_false, false_and, Nat.zero_add, Nat.le_refl, Nat.zero_le, true_or, or_true, not_true_eq_false, not_false_eq_true, forall_const, false_implies, implies_true, true_implies, Int32.reduceAdd, Int32.reduceLE, Int32.reduceLT, Int32.reduceSub, Int32.reduceMul, Int32.reduceToNatClampNeg, og_36, oi_36, ef_36_4, ef_36_19, ef_36_20, ef_36_21, ef_36_22, ef_36_23, og_37, oi_37, oq_37, es_37, og_38, oi_38, oq_38, es_38, og_39, oi_39, oq_39, es_39, og_40, oi_40, oq_40, es_40, og_41, oi_41, es_41, og_42, oi_42, oq_42, es_42, og_43, oi_43, oq_43, es_43, og_44, oi_44, oq_44, es_44, og_45, oi_45, oq_45, es_45, og_46, oi_46, oq_46, es_46, og_47, oi_47, oq_47, es_47, og_48, oi_48, oq_48, es_48, og_49, oi_49, oq_49, es_49, og_50, oi_50, oq_50, es_50, og_51, oi_51, es_51, og_52, oi_52, oq_52, es_52, og_53, oi_53, oq_53, es_53, og_54, oi_54, oq_54, es_54, og_55, oi_55, oq_55, es_55, og_56, oi_56, oq_56, es_56, og_57, oi_57, oq_57, es_57, og_58, oi_58, oq_58, es_58, sI_1, sI_2, sL_1, sL_2, sL_3, sF_1, sF_2, sF_3, sI_sI, nI_1, ix8, nI_clamp (show i < 2 ^ 31 by omega), h2, nI_clamp (show lc i < 2 ^ 31 by omega), nI_clamp (show 8 * q + i < 2 ^ 31 by omega), g3 i (by omega)]
    refine ⟨fun q => absurd q (nI_ge (show i < n by omega) (by omega)), fun _ => ⟨vp_in_nI (by omega) (by decide), vp_in_nI (by omega) (by decide), vp_in_nI h1 (by decide), ?_⟩⟩
    exact ih (i + 1) (by omega) _ (wr_s hg)
theorem pex_tg {m : MS} (hO : OkD m) {o : Nat} (o8 : o < 8) (hh : has (q_ds m) o = true) (h6 : 6 ≤ q_tg m o) : pex m (q_tg m o - 6) = true := by
  obtain ⟨k1, k2, k3, k4, k5⟩ := hO.2 o o8 hh
  unfold pex
  rw [show 6 + (q_tg m o - 6) = q_tg m o by omega]
  exact decide_eq_true (cnt_pos (f := opF m (q_tg m o) 3) o8 (by
    unfold opF
    rw [hh, decide_eq_true rfl, decide_eq_false (md3 _ k3 k2)]
    rfl))
theorem opn_le (m : MS) (t g : Nat) : opn m t g ≤ 8 := cnt_le _ _
theorem x_fromPipe (G : oG) (σ τ : oT) (m : MS) (hO : Ok m) (hR : RM m τ) (hfr : frX σ τ) {p o len : Nat} {ad : Nat → Nat} (o8 : o < 8) (hh : has (q_ds m) o = true) (h6 : 6 ≤ q_tg m o) (h23 : τ.2.2 36 23 = nI len) (hlen : len ≤ 1024) (hl : ∀ j, j < len → τ.1 55 j = nI (q_loc m p (ad j))) (h0 : ¬ len = 0) : Mt G m_X_fromPipe [.ref 37, .int (nI (q_tg m o - 6))] (enc τ) 0 0 (XP σ (sp_rd m p o ad len)) := by
  obtain ⟨k1, k2, k3, k4, k5⟩ := hO.2.2.2.1.2 o o8 hh
  have hx := pex_tg hO.2.2.2.1 o8 hh h6
  unfold sp_rd
  rw [if_neg h0, if_pos h6]
  have eq : q_tg m o = 6 + (q_tg m o - 6) := by omega
  have q2 : q_tg m o - 6 < 2 := by omega
  generalize q_tg m o - 6 = q at hx eq q2 ⊢
  rw [eq]
  obtain ⟨g1, g2, g3⟩ := hR.1.2.2.2.2.2.2.2.2 q q2 hx
  obtain ⟨l8, -⟩ := hO.2.2.2.2.2 q q2 hx
  have vq : vp_in (nI q) 2 := vp_in_nI q2 (by decide)
  have hz := nI_z (k := q_hl m q) (by omega)
  refine Mt.of (by decide) (Nat.le_of_ble_eq_true rfl) (s_X_fromPipe_0 _ _ _ _ _ ?_)
  simp only [k_X_fromPipe_0, o_iconst, o_lconst, o_iload, o_lload, o_aload, o_istore, o_lstore, o_astore, o_iinc, o_iadd, o_isub, o_imul, o_iand, o_ior, o_idiv, o_irem, o_lor, o_lushr, o_lshl, o_i2l, o_l2i, o_lcmp, o_dup, o_pop, o_dup2, o_ifeq, o_ifne, o_iflt, o_ifge, o_ifgt, o_ifle, o_icmpeq, o_icmpne, o_icmplt, o_icmpge, o_icmpgt, o_icmple, o_jmp, o_tsw, o_iret, o_zret, o_lret, o_vret, o_getf, o_putfI, o_putfR, o_iald, o_alen, o_lald, o_zald, o_iast, o_last, o_zast, o_aald, o_aast, o_new, o_newa, o_callS, o_callI, o_callV, o_objInit, o_mmax, o_mmin, o_lk, o_up1, o_up2, o_cl1, o_cl2, o_keep, o_c2, List.getElem?_cons_zero, List.getElem?_cons_succ, List.drop_zero, List.drop_succ_cons, List.take_zero, List.take_succ_cons, List.reverse_cons, List.reverse_nil, List.nil_append, List.cons_append, List.map_cons, List.map_nil, List.sum_cons, List.sum_nil, Value.category, List.length_cons, List.length_nil, List.set_cons_zero, List.set_cons_succ, Option.toList_some, Option.toList_none, lv_args, ↓reduceIte, Nat.reduceAdd, Nat.reduceSub, Nat.reduceMul, Nat.reduceEqDiff, Nat.reduceLeDiff, Nat.reduceLT, reduceCtorEq, Bool.false_eq_true, and_true, true_and, and_self, and_false, false_and, Nat.zero_add, Nat.le_refl, Nat.zero_le, true_or, or_true, not_true_eq_false, not_false_eq_true, forall_const, false_implies, implies_true, true_implies, Int32.reduceAdd, Int32.reduceLE, Int32.reduceLT, Int32.reduceSub, Int32.reduceMul, Int32.reduceToNatClampNeg, og_36, oi_36, ef_36_4, ef_36_19, ef_36_20, ef_36_21, ef_36_22, ef_36_23, og_37, oi_37, oq_37, es_37, og_38, oi_38, oq_38, es_38, og_39, oi_39, oq_39, es_39, og_40, oi_40, oq_40, es_40, og_41, oi_41, es_41, og_42, oi_42, oq_42, es_42, og_43, oi_43, oq_43, es_43, og_44, oi_44, oq_44, es_44, og_45, oi_45, oq_45, es_45, og_46, oi_46, oq_46, es_46, og_47, oi_47, oq_47, es_47, og_48, oi_48, oq_48, es_48, og_49, oi_49, oq_49, es_49, og_50, oi_50, oq_50, es_50, og_51, oi_51, es_51, og_52, oi_52, oq_52, es_52, og_53, oi_53, oq_53, es_53, og_54, oi_54, oq_54, es_54, og_55, oi_55, oq_55, es_55, og_56, oi_56, oq_56, es_56, og_57, oi_57, oq_57, es_57, og_58, oi_58, oq_58, es_58, nI_clamp (show q < 2 ^ 31 by omega), g2, hz]
  refine ⟨vq, fun qz => ?_, fun qz => ?_⟩
  · rw [if_neg qz]
    have e1 := nI_leI (a := q_hl m q) (b := len) (by omega) (by omega)
    refine s_X_fromPipe_25 _ _ _ _ _ ?_
    simp only [k_X_fromPipe_25, o_iconst, o_lconst, o_iload, o_lload, o_aload, o_istore, o_lstore, o_astore, o_iinc, o_iadd, o_isub, o_imul, o_iand, o_ior, o_idiv, o_irem, o_lor, o_lushr, o_lshl, o_i2l, o_l2i, o_lcmp, o_dup, o_pop, o_dup2, o_ifeq, o_ifne, o_iflt, o_ifge, o_ifgt, o_ifle, o_icmpeq, o_icmpne, o_icmplt, o_icmpge, o_icmpgt, o_icmple, o_jmp, o_tsw, o_iret, o_zret, o_lret, o_vret, o_getf, o_putfI, o_putfR, o_iald, o_alen, o_lald, o_zald, o_iast, o_last, o_zast, o_aald, o_aast, o_new, o_newa, o_callS, o_callI, o_callV, o_objInit, o_mmax, o_mmin, o_lk, o_up1, o_up2, o_cl1, o_cl2, o_keep, o_c2, List.getElem?_cons_zero, List.getElem?_cons_succ, List.drop_zero, List.drop_succ_cons, List.take_zero, List.take_succ_cons, List.reverse_cons, List.reverse_nil, List.nil_append, List.cons_append, List.map_cons, List.map_nil, List.sum_cons, List.sum_nil, Value.category, List.length_cons, List.length_nil, List.set_cons_zero, List.set_cons_succ, Option.toList_some, Option.toList_none, lv_args, ↓reduceIte, Nat.reduceAdd, Nat.reduceSub, Nat.reduceMul, Nat.reduceEqDiff, Nat.reduceLeDiff, Nat.reduceLT, reduceCtorEq, Bool.false_eq_true, and_true, true_and, and_self, and_false, false_and, Nat.zero_add, Nat.le_refl, Nat.zero_le, true_or, or_true, not_true_eq_false, not_false_eq_true, forall_const, false_implies, implies_true, true_implies, Int32.reduceAdd, Int32.reduceLE, Int32.reduceLT, Int32.reduceSub, Int32.reduceMul, Int32.reduceToNatClampNeg, og_36, oi_36, ef_36_4, ef_36_19, ef_36_20, ef_36_21, ef_36_22, ef_36_23, og_37, oi_37, oq_37, es_37, og_38, oi_38, oq_38, es_38, og_39, oi_39, oq_39, es_39, og_40, oi_40, oq_40, es_40, og_41, oi_41, es_41, og_42, oi_42, oq_42, es_42, og_43, oi_43, oq_43, es_43, og_44, oi_44, oq_44, es_44, og_45, oi_45, oq_45, es_45, og_46, oi_46, oq_46, es_46, og_47, oi_47, oq_47, es_47, og_48, oi_48, oq_48, es_48, og_49, oi_49, oq_49, es_49, og_50, oi_50, oq_50, es_50, og_51, oi_51, es_51, og_52, oi_52, oq_52, es_52, og_53, oi_53, oq_53, es_53, og_54, oi_54, oq_54, es_54, og_55, oi_55, oq_55, es_55, og_56, oi_56, oq_56, es_56, og_57, oi_57, oq_57, es_57, og_58, oi_58, oq_58, es_58, nI_clamp (show q < 2 ^ 31 by omega), g2, h23]
    have fin := fun (n : Nat) (hn : n ≤ q_hl m q) (hnl : n ≤ len) => fp_54 G σ τ m hO hR.1 hfr (lc := fun i => q_loc m p (ad i)) q2 hx hn hnl (fun j hj => ⟨q_loc_lt hO.1 _ _, hl j hj⟩) n 0 (by omega) (τ.1 37) hR.1.2.1
    refine ⟨vq, fun c => ⟨vq, ?_⟩, fun c => ?_⟩
    · have c' := e1.mp c
      have h := fin (q_hl m q) (Nat.le_refl _) c'
      rw [sI_id] at h
      rw [Nat.min_eq_right c']
      exact h
    · have c' : ¬ q_hl m q ≤ len := fun h => c (e1.mpr h)
      have h := fin len (by omega) (Nat.le_refl _)
      rw [sI_id] at h
      rw [Nat.min_eq_left (by omega)]
      exact h
  · rw [if_pos qz]
    refine o_use (x_opensW G τ m hO.2.2.2.1 hR.1.2.2.2.2.2.2.1 hR.2.1 q2) ?_
    rintro v h' ⟨rfl, rfl⟩
    have hb := opn_le m (6 + q) 2
    have hle := nI_leZ (k := opn m (6 + q) 2) (by omega)
    refine s_X_fromPipe_15 _ _ _ _ _ ?_
    simp only [k_X_fromPipe_15, o_iconst, o_lconst, o_iload, o_lload, o_aload, o_istore, o_lstore, o_astore, o_iinc, o_iadd, o_isub, o_imul, o_iand, o_ior, o_idiv, o_irem, o_lor, o_lushr, o_lshl, o_i2l, o_l2i, o_lcmp, o_dup, o_pop, o_dup2, o_ifeq, o_ifne, o_iflt, o_ifge, o_ifgt, o_ifle, o_icmpeq, o_icmpne, o_icmplt, o_icmpge, o_icmpgt, o_icmple, o_jmp, o_tsw, o_iret, o_zret, o_lret, o_vret, o_getf, o_putfI, o_putfR, o_iald, o_alen, o_lald, o_zald, o_iast, o_last, o_zast, o_aald, o_aast, o_new, o_newa, o_callS, o_callI, o_callV, o_objInit, o_mmax, o_mmin, o_lk, o_up1, o_up2, o_cl1, o_cl2, o_keep, o_c2, List.getElem?_cons_zero, List.getElem?_cons_succ, List.drop_zero, List.drop_succ_cons, List.take_zero, List.take_succ_cons, List.reverse_cons, List.reverse_nil, List.nil_append, List.cons_append, List.map_cons, List.map_nil, List.sum_cons, List.sum_nil, Value.category, List.length_cons, List.length_nil, List.set_cons_zero, List.set_cons_succ, Option.toList_some, Option.toList_none, lv_args, ↓reduceIte, Nat.reduceAdd, Nat.reduceSub, Nat.reduceMul, Nat.reduceEqDiff, Nat.reduceLeDiff, Nat.reduceLT, reduceCtorEq, Bool.false_eq_true, and_true, true_and, and_self, and_false, false_and, Nat.zero_add, Nat.le_refl, Nat.zero_le, true_or, or_true, not_true_eq_false, not_false_eq_true, forall_const, false_implies, implies_true, true_implies, Int32.reduceAdd, Int32.reduceLE, Int32.reduceLT, Int32.reduceSub, Int32.reduceMul, Int32.reduceToNatClampNeg]
    refine ⟨fun c => ?_, fun c => ?_⟩
    · rw [if_pos (show opn m (6 + q) 2 = 0 by have := hle.mp c; omega)]
      exact XP.mk hR.1 hfr
    · rw [if_neg (fun e => c (hle.mpr (by omega)))]
      exact XP.mk hR.1 hfr
