/-! LIST of the second side. -/
theorem drop_c {a : List Nat} {i : Nat} (h : i < a.length) : a.drop i = a.getD i 0 :: a.drop (i + 1) := by
  rw [List.drop_eq_getElem_cons h]
  congr 1
  simp [List.getD, h]
theorem lxL_pre (a b : List Nat) : ∀ i : Nat, i ≤ a.length → i ≤ b.length → (∀ j, j < i → a.getD j 0 = b.getD j 0) → lxL a b = lxL (a.drop i) (b.drop i) := by
  intro i
  induction i with
  | zero => intro _ _ _; rfl
  | succ i ih =>
    intro h1 h2 h3
    rw [ih (by omega) (by omega) (fun j hj => h3 j (by omega)), drop_c (a := a) (i := i) (by omega), drop_c (a := b) (i := i) (by omega), h3 i (by omega)]
    simp [lxL]
theorem gd_lt {s : List Nat} (hs : ∀ b ∈ s, 0 < b ∧ b < 256) {i : Nat} (h : i < s.length) : s.getD i 0 < 256 := by
  have : s.getD i 0 = s[i] := by simp [List.getD, h]
  rw [this]; exact (hs _ (List.getElem_mem h)).2
theorem bef_53 (G : oG) (σ : oT) {nb : Nat → List Nat} {nf : Nat → Nat} (hx : XNm nb nf σ) {u v i : Nat} (hu : u < 8) (hv : v < 8) (h1 : i ≤ (nb u).length) (h2 : i ≤ (nb v).length) (h3 : ∀ j, j < i → (nb u).getD j 0 = (nb v).getD j 0) (h4 : i < (nb u).length → i < (nb v).length → (nb u).getD i 0 ≠ (nb v).getD i 0) (Post : oP) (hP : Post (some (.int (bz (lxL (nb u) (nb v))))) (enc σ)) : Wp G m_X_before Post 53 0 0 [(0, .ref 37), (1, .int (nI u)), (2, .int (nI v)), (3, .int (nI i))] [] (enc σ) := by
  obtain ⟨a1, a2, a3, a4, -⟩ := hx u hu
  obtain ⟨b1, b2, b3, b4, -⟩ := hx v hv
  have vu : vp_in (nI u) 8 := vp_in_nI hu (by decide)
  have vv : vp_in (nI v) 8 := vp_in_nI hv (by decide)
  rw [lxL_pre (nb u) (nb v) i h1 h2 h3] at hP
  have e1 := nI_eq (a := i) (b := (nb u).length) (by omega) (by omega)
  have e2 := nI_eq (a := i) (b := (nb v).length) (by omega) (by omega)
  have e3 := nI_leI (a := (nb v).length) (b := (nb u).length) (by omega) (by omega)
  have endT : (lxL ((nb u).drop i) ((nb v).drop i) = decide ((nb u).length < (nb v).length)) → vp_in (nI u) 8 ∧ vp_in (nI v) 8 ∧ (nI (nb v).length ≤ nI (nb u).length → Post (some (.int 0)) (enc σ)) ∧ (¬ nI (nb v).length ≤ nI (nb u).length → Post (some (.int 1)) (enc σ)) := fun h => by
    refine ⟨vu, vv, fun q => ?_, fun q => ?_⟩
    · have := e3.mp q
      rw [h, decide_eq_false (by omega)] at hP
      exact hP
    · have : ¬ (nb v).length ≤ (nb u).length := fun h => q (e3.mpr h)
      rw [h, decide_eq_true (by omega)] at hP
      exact hP
  refine s_X_before_53 _ _ _ _ _ ?_
  simp only [k_X_before_53, o_iconst, o_lconst, o_iload, o_lload, o_aload, o_istore, o_lstore, o_astore, o_iinc, o_iadd, o_isub, o_imul, o_iand, o_ior, o_idiv, o_irem, o_lor, o_lushr, o_lshl, o_i2l, o_l2i, o_lcmp, o_dup, o_pop, o_dup2, o_ifeq, o_ifne, o_iflt, o_ifge, o_ifgt, o_ifle, o_icmpeq, o_icmpne, o_icmplt, o_icmpge, o_icmpgt, o_icmple, o_jmp, o_tsw, o_iret, o_zret, o_lret, o_vret, o_getf, o_putfI, o_putfR, o_iald, o_alen, o_lald, o_zald, o_iast, o_last, o_zast, o_aald, o_aast, o_new, o_newa, o_callS, o_callI, o_callV, o_objInit, o_mmax, o_mmin, o_lk, o_up1, o_up2, o_cl1, o_cl2, o_keep, o_c2, List.getElem?_cons_zero, List.getElem?_cons_succ, List.drop_zero, List.drop_succ_cons, List.take_zero, List.take_succ_cons, List.reverse_cons, List.reverse_nil, List.nil_append, List.cons_append, List.map_cons, List.map_nil, List.sum_cons, List.sum_nil, Value.category, List.length_cons, List.length_nil, List.set_cons_zero, List.set_cons_succ, Option.toList_some, Option.toList_none, lv_args, ↓reduceIte, Nat.reduceAdd, Nat.reduceSub, Nat.reduceMul, Nat.reduceEqDiff, Nat.reduceLeDiff, Nat.reduceLT, reduceCtorEq, Bool.false_eq_true, and_true, true_and, and_self, and_false, false_and, Nat.zero_add, Nat.le_refl, Nat.zero_le, true_or, or_true, not_true_eq_false, not_false_eq_true, forall_const, false_implies, implies_true, true_implies, Int32.reduceAdd, Int32.reduceLE, Int32.reduceLT, Int32.reduceSub, Int32.reduceMul, Int32.reduceToNatClampNeg, og_36, oi_36, ef_36_4, ef_36_19, ef_36_20, ef_36_21, ef_36_22, ef_36_23, og_37, oi_37, oq_37, es_37, og_38, oi_38, oq_38, es_38, og_39, oi_39, oq_39, es_39, og_40, oi_40, oq_40, es_40, og_41, oi_41, es_41, og_42, oi_42, oq_42, es_42, og_43, oi_43, oq_43, es_43, og_44, oi_44, oq_44, es_44, og_45, oi_45, oq_45, es_45, og_46, oi_46, oq_46, es_46, og_47, oi_47, oq_47, es_47, og_48, oi_48, oq_48, es_48, og_49, oi_49, oq_49, es_49, og_50, oi_50, oq_50, es_50, og_51, oi_51, es_51, og_52, oi_52, oq_52, es_52, og_53, oi_53, oq_53, es_53, og_54, oi_54, oq_54, es_54, og_55, oi_55, oq_55, es_55, og_56, oi_56, oq_56, es_56, og_57, oi_57, oq_57, es_57, og_58, oi_58, oq_58, es_58, nI_clamp (show u < 2 ^ 31 by omega), nI_clamp (show v < 2 ^ 31 by omega), a3, b3]
  refine ⟨vu, fun q => endT ?_, fun q => ⟨vv, fun q2 => ?_, fun q2 => endT ?_⟩⟩
  · have e := e1.mp q
    rw [e, List.drop_length]
    by_cases c : (nb u).length < (nb v).length
    · rw [drop_c c, decide_eq_true c]
      rfl
    · rw [decide_eq_false c, List.drop_eq_nil_of_le (by omega)]
      rfl
  · have c1 : i < (nb u).length := by
      have : ¬ i = (nb u).length := fun h => q (e1.mpr h)
      omega
    have c2 : i < (nb v).length := by
      have : ¬ i = (nb v).length := fun h => q2 (e2.mpr h)
      omega
    have hne := h4 c1 c2
    have g1 := gd_lt a2 c1
    have g2 := gd_lt b2 c2
    have e4 := nI_leI (a := (nb v).getD i 0) (b := (nb u).getD i 0) (by omega) (by omega)
    rw [drop_c c1, drop_c c2] at hP
    simp only [lxL, decide_eq_false hne, Bool.false_and, Bool.or_false] at hP
    refine s_X_before_94 _ _ _ _ _ ?_
    simp only [k_X_before_94, o_iconst, o_lconst, o_iload, o_lload, o_aload, o_istore, o_lstore, o_astore, o_iinc, o_iadd, o_isub, o_imul, o_iand, o_ior, o_idiv, o_irem, o_lor, o_lushr, o_lshl, o_i2l, o_l2i, o_lcmp, o_dup, o_pop, o_dup2, o_ifeq, o_ifne, o_iflt, o_ifge, o_ifgt, o_ifle, o_icmpeq, o_icmpne, o_icmplt, o_icmpge, o_icmpgt, o_icmple, o_jmp, o_tsw, o_iret, o_zret, o_lret, o_vret, o_getf, o_putfI, o_putfR, o_iald, o_alen, o_lald, o_zald, o_iast, o_last, o_zast, o_aald, o_aast, o_new, o_newa, o_callS, o_callI, o_callV, o_objInit, o_mmax, o_mmin, o_lk, o_up1, o_up2, o_cl1, o_cl2, o_keep, o_c2, List.getElem?_cons_zero, List.getElem?_cons_succ, List.drop_zero, List.drop_succ_cons, List.take_zero, List.take_succ_cons, List.reverse_cons, List.reverse_nil, List.nil_append, List.cons_append, List.map_cons, List.map_nil, List.sum_cons, List.sum_nil, Value.category, List.length_cons, List.length_nil, List.set_cons_zero, List.set_cons_succ, Option.toList_some, Option.toList_none, lv_args, ↓reduceIte, Nat.reduceAdd, Nat.reduceSub, Nat.reduceMul, Nat.reduceEqDiff, Nat.reduceLeDiff, Nat.reduceLT, reduceCtorEq, Bool.false_eq_true, and_true, true_and, and_self, and_false, false_and, Nat.zero_add, Nat.le_refl, Nat.zero_le, true_or, or_true, not_true_eq_false, not_false_eq_true, forall_const, false_implies, implies_true, true_implies, Int32.reduceAdd, Int32.reduceLE, Int32.reduceLT, Int32.reduceSub, Int32.reduceMul, Int32.reduceToNatClampNeg, og_36, oi_36, ef_36_4, ef_36_19, ef_36_20, ef_36_21, ef_36_22, ef_36_23, og_37, oi_37, oq_37, es_37, og_38, oi_38, oq_38, es_38, og_39, oi_39, oq_39, es_39, og_40, oi_40, oq_40, es_40, og_41, oi_41, es_41, og_42, oi_42, oq_42, es_42, og_43, oi_43, oq_43, es_43, og_44, oi_44, oq_44, es_44, og_45, oi_45, oq_45, es_45, og_46, oi_46, oq_46, es_46, og_47, oi_47, oq_47, es_47, og_48, oi_48, oq_48, es_48, og_49, oi_49, oq_49, es_49, og_50, oi_50, oq_50, es_50, og_51, oi_51, es_51, og_52, oi_52, oq_52, es_52, og_53, oi_53, oq_53, es_53, og_54, oi_54, oq_54, es_54, og_55, oi_55, oq_55, es_55, og_56, oi_56, oq_56, es_56, og_57, oi_57, oq_57, es_57, og_58, oi_58, oq_58, es_58, ix8, nI_clamp (show 8 * u + i < 2 ^ 31 by omega), nI_clamp (show 8 * v + i < 2 ^ 31 by omega), a4 i c1, b4 i c2]
    refine ⟨vp_in_nI (by omega) (by decide), vp_in_nI (by omega) (by decide), fun q3 => ?_, fun q3 => ?_⟩
    · have := e4.mp q3
      rw [decide_eq_false (by omega)] at hP
      exact hP
    · have : ¬ (nb v).getD i 0 ≤ (nb u).getD i 0 := fun h => q3 (e4.mpr h)
      rw [decide_eq_true (by omega)] at hP
      exact hP
  · have e := e2.mp q2
    have : ¬ (nb u).length < (nb v).length := by omega
    rw [decide_eq_false this, List.drop_eq_nil_of_le (as := nb v) (by omega)]
    cases (nb u).drop i <;> rfl
theorem bef_loop (G : oG) (σ : oT) {nb : Nat → List Nat} {nf : Nat → Nat} (hx : XNm nb nf σ) {u v : Nat} (hu : u < 8) (hv : v < 8) (Post : oP) (hP : Post (some (.int (bz (lxL (nb u) (nb v))))) (enc σ)) : ∀ k i : Nat, i + k = 8 → i ≤ (nb u).length → i ≤ (nb v).length → (∀ j, j < i → (nb u).getD j 0 = (nb v).getD j 0) → Wp G m_X_before Post 2 0 0 [(0, .ref 37), (1, .int (nI u)), (2, .int (nI v)), (3, .int (nI i))] [] (enc σ) := by
  obtain ⟨a1, a2, a3, a4, -⟩ := hx u hu
  obtain ⟨b1, b2, b3, b4, -⟩ := hx v hv
  intro k
  induction k with
  | zero => intro i hk h1 _ _; omega
  | succ k ih =>
    intro i hk h1 h2 h3
    have e1 := nI_leI (a := (nb u).length) (b := i) (by omega) (by omega)
    have e2 := nI_leI (a := (nb v).length) (b := i) (by omega) (by omega)
    refine s_X_before_2 _ _ _ _ _ ?_
    simp only [k_X_before_2, o_iconst, o_lconst, o_iload, o_lload, o_aload, o_istore, o_lstore, o_astore, o_iinc, o_iadd, o_isub, o_imul, o_iand, o_ior, o_idiv, o_irem, o_lor, o_lushr, o_lshl, o_i2l, o_l2i, o_lcmp, o_dup, o_pop, o_dup2, o_ifeq, o_ifne, o_iflt, o_ifge, o_ifgt, o_ifle, o_icmpeq, o_icmpne, o_icmplt, o_icmpge, o_icmpgt, o_icmple, o_jmp, o_tsw, o_iret, o_zret, o_lret, o_vret, o_getf, o_putfI, o_putfR, o_iald, o_alen, o_lald, o_zald, o_iast, o_last, o_zast, o_aald, o_aast, o_new, o_newa, o_callS, o_callI, o_callV, o_objInit, o_mmax, o_mmin, o_lk, o_up1, o_up2, o_cl1, o_cl2, o_keep, o_c2, List.getElem?_cons_zero, List.getElem?_cons_succ, List.drop_zero, List.drop_succ_cons, List.take_zero, List.take_succ_cons, List.reverse_cons, List.reverse_nil, List.nil_append, List.cons_append, List.map_cons, List.map_nil, List.sum_cons, List.sum_nil, Value.category, List.length_cons, List.length_nil, List.set_cons_zero, List.set_cons_succ, Option.toList_some, Option.toList_none, lv_args, ↓reduceIte, Nat.reduceAdd, Nat.reduceSub, Nat.reduceMul, Nat.reduceEqDiff, Nat.reduceLeDiff, Nat.reduceLT, reduceCtorEq, Bool.false_eq_true, and_true, true_and, and_self, and_false, false_and, Nat.zero_add, Nat.le_refl, Nat.zero_le, true_or, or_true, not_true_eq_false, not_false_eq_true, forall_const, false_implies, implies_true, true_implies, Int32.reduceAdd, Int32.reduceLE, Int32.reduceLT, Int32.reduceSub, Int32.reduceMul, Int32.reduceToNatClampNeg, og_36, oi_36, ef_36_4, ef_36_19, ef_36_20, ef_36_21, ef_36_22, ef_36_23, og_37, oi_37, oq_37, es_37, og_38, oi_38, oq_38, es_38, og_39, oi_39, oq_39, es_39, og_40, oi_40, oq_40, es_40, og_41, oi_41, es_41, og_42, oi_42, oq_42, es_42, og_43, oi_43, oq_43, es_43, og_44, oi_44, oq_44, es_44, og_45, oi_45, oq_45, es_45, og_46, oi_46, oq_46, es_46, og_47, oi_47, oq_47, es_47, og_48, oi_48, oq_48, es_48, og_49, oi_49, oq_49, es_49, og_50, oi_50, oq_50, es_50, og_51, oi_51, es_51, og_52, oi_52, oq_52, es_52, og_53, oi_53, oq_53, es_53, og_54, oi_54, oq_54, es_54, og_55, oi_55, oq_55, es_55, og_56, oi_56, oq_56, es_56, og_57, oi_57, oq_57, es_57, og_58, oi_58, oq_58, es_58, ix8, nI_1, nI_clamp (show u < 2 ^ 31 by omega), nI_clamp (show v < 2 ^ 31 by omega), a3, b3, nI_clamp (show 8 * u + i < 2 ^ 31 by omega), nI_clamp (show 8 * v + i < 2 ^ 31 by omega)]
    refine ⟨vp_in_nI hu (by decide), fun q => ?_, fun q => ⟨vp_in_nI hv (by decide), fun q2 => ?_, fun q2 => ?_⟩⟩
    · have := e1.mp q
      exact bef_53 G σ hx hu hv h1 h2 h3 (fun c1 c2 => by omega) Post hP
    · have := e2.mp q2
      exact bef_53 G σ hx hu hv h1 h2 h3 (fun c1 c2 => by omega) Post hP
    · have c1 : i < (nb u).length := by
        have : ¬ (nb u).length ≤ i := fun h => q (e1.mpr h)
        omega
      have c2 : i < (nb v).length := by
        have : ¬ (nb v).length ≤ i := fun h => q2 (e2.mpr h)
        omega
      have g1 := gd_lt a2 c1
      have g2 := gd_lt b2 c2
      rw [a4 i c1, b4 i c2]
      refine ⟨vp_in_nI (by omega) (by decide), vp_in_nI (by omega) (by decide), fun q3 => ?_, fun q3 => ?_⟩
      · exact bef_53 G σ hx hu hv h1 h2 h3 (fun _ _ e => q3 (by rw [e])) Post hP
      · have e := (nI_eq (by omega) (by omega)).mp q3
        exact ih (i + 1) (by omega) (by omega) (by omega) (fun j hj => by
          by_cases c : j = i
          · rw [c]; exact e
          · exact h3 j (by omega))
theorem x_before (G : oG) (σ : oT) {nb : Nat → List Nat} {nf : Nat → Nat} (hx : XNm nb nf σ) {u v : Nat} (hu : u < 8) (hv : v < 8) : Mt G m_X_before [.ref 37, .int (nI u), .int (nI v)] (enc σ) 0 0 (fun w h' => w = some (.int (bz (lxL (nb u) (nb v)))) ∧ h' = enc σ) := by
  refine Mt.of (by decide) (Nat.le_of_ble_eq_true rfl) (s_X_before_0 _ _ _ _ _ ?_)
  simp only [k_X_before_0, o_iconst, o_lconst, o_iload, o_lload, o_aload, o_istore, o_lstore, o_astore, o_iinc, o_iadd, o_isub, o_imul, o_iand, o_ior, o_idiv, o_irem, o_lor, o_lushr, o_lshl, o_i2l, o_l2i, o_lcmp, o_dup, o_pop, o_dup2, o_ifeq, o_ifne, o_iflt, o_ifge, o_ifgt, o_ifle, o_icmpeq, o_icmpne, o_icmplt, o_icmpge, o_icmpgt, o_icmple, o_jmp, o_tsw, o_iret, o_zret, o_lret, o_vret, o_getf, o_putfI, o_putfR, o_iald, o_alen, o_lald, o_zald, o_iast, o_last, o_zast, o_aald, o_aast, o_new, o_newa, o_callS, o_callI, o_callV, o_objInit, o_mmax, o_mmin, o_lk, o_up1, o_up2, o_cl1, o_cl2, o_keep, o_c2, List.getElem?_cons_zero, List.getElem?_cons_succ, List.drop_zero, List.drop_succ_cons, List.take_zero, List.take_succ_cons, List.reverse_cons, List.reverse_nil, List.nil_append, List.cons_append, List.map_cons, List.map_nil, List.sum_cons, List.sum_nil, Value.category, List.length_cons, List.length_nil, List.set_cons_zero, List.set_cons_succ, Option.toList_some, Option.toList_none, lv_args, ↓reduceIte, Nat.reduceAdd, Nat.reduceSub, Nat.reduceMul, Nat.reduceEqDiff, Nat.reduceLeDiff, Nat.reduceLT, reduceCtorEq, Bool.false_eq_true, and_true, true_and, and_self, and_false, false_and, Nat.zero_add, Nat.le_refl, Nat.zero_le, true_or, or_true, not_true_eq_false, not_false_eq_true, forall_const, false_implies, implies_true, true_implies, Int32.reduceAdd, Int32.reduceLE, Int32.reduceLT, Int32.reduceSub, Int32.reduceMul, Int32.reduceToNatClampNeg]
  exact bef_loop G σ hx hu hv _ ⟨rfl, rfl⟩ 8 0 (by decide) (Nat.zero_le _) (Nat.zero_le _) (fun j hj => absurd hj (Nat.not_lt_zero _))
/-- which places come before place k -/
def erX (nb : Nat → List Nat) (k : Nat) : Nat → Bool := fun u => !(nb u).isEmpty && lxL (nb u) (nb k)
theorem sz_0 {nb : Nat → List Nat} {nf : Nat → Nat} {σ : oT} (hx : XNm nb nf σ) {n : Nat} (hn : n < 8) : (σ.1 44 n ≤ 0 ↔ (nb n).isEmpty = true) := by
  obtain ⟨a1, -, a3, -⟩ := hx n hn
  rw [a3, nI_leZ (by omega)]
  cases nb n <;> simp
theorem ear_loop (G : oG) (σ : oT) {nb : Nat → List Nat} {nf : Nat → Nat} (hx : XNm nb nf σ) {k : Nat} {y : Int32} (hk8 : k < 8) (Post : oP) : ∀ j i c : Nat, i + j = 8 → Wp G m_X_list Post 56 0 0 [(0, .ref 37), (1, .int y), (2, .int (nI k)), (3, .int (nI (c + cntF (erX nb k) i j)))] [] (enc σ) → Wp G m_X_list Post 15 0 0 [(0, .ref 37), (1, .int y), (2, .int (nI k)), (3, .int (nI c)), (4, .int (nI i))] [] (enc σ) := by
  intro j
  induction j with
  | zero =>
    intro i c hk hP
    have e : i = 8 := by omega
    subst e
    refine s_X_list_15 _ _ _ _ _ ?_
    simp only [k_X_list_15, o_iconst, o_lconst, o_iload, o_lload, o_aload, o_istore, o_lstore, o_astore, o_iinc, o_iadd, o_isub, o_imul, o_iand, o_ior, o_idiv, o_irem, o_lor, o_lushr, o_lshl, o_i2l, o_l2i, o_lcmp, o_dup, o_pop, o_dup2, o_ifeq, o_ifne, o_iflt, o_ifge, o_ifgt, o_ifle, o_icmpeq, o_icmpne, o_icmplt, o_icmpge, o_icmpgt, o_icmple, o_jmp, o_tsw, o_iret, o_zret, o_lret, o_vret, o_getf, o_putfI, o_putfR, o_iald, o_alen, o_lald, o_zald, o_iast, o_last, o_zast, o_aald, o_aast, o_new, o_newa, o_callS, o_callI, o_callV, o_objInit, o_mmax, o_mmin, o_lk, o_up1, o_up2, o_cl1, o_cl2, o_keep, o_c2, List.getElem?_cons_zero, List.getElem?_cons_succ, List.drop_zero, List.drop_succ_cons, List.take_zero, List.take_succ_cons, List.reverse_cons, List.reverse_nil, List.nil_append, List.cons_append, List.map_cons, List.map_nil, List.sum_cons, List.sum_nil, Value.category, List.length_cons, List.length_nil, List.set_cons_zero, List.set_cons_succ, Option.toList_some, Option.toList_none, lv_args, ↓reduceIte, Nat.reduceAdd, Nat.reduceSub, Nat.reduceMul, Nat.reduceEqDiff, Nat.reduceLeDiff, Nat.reduceLT, reduceCtorEq, Bool.false_eq_true, and_true, true_and, and_self, and_false, false_and, Nat.zero_add, Nat.le_refl, Nat.zero_le, true_or, or_true, not_true_eq_false, not_false_eq_true, forall_const, false_implies, implies_true, true_implies, Int32.reduceAdd, Int32.reduceLE, Int32.reduceLT, Int32.reduceSub, Int32.reduceMul, Int32.reduceToNatClampNeg, og_36, oi_36, ef_36_4, ef_36_19, ef_36_20, ef_36_21, ef_36_22, ef_36_23, og_37, oi_37, oq_37, es_37, og_38, oi_38, oq_38, es_38, og_39, oi_39, oq_39, es_39, og_40, oi_40, oq_40, es_40, og_41, oi_41, es_41, og_42, oi_42, oq_42, es_42, og_43, oi_43, oq_43, es_43, og_44, oi_44, oq_44, es_44, og_45, oi_45, oq_45, es_45, og_46, oi_46, oq_46, es_46, og_47, oi_47, oq_47, es_47, og_48, oi_48, oq_48, es_48, og_49, oi_49, oq_49, es_49, og_50, oi_50, oq_50, es_50, og_51, oi_51, es_51, og_52, oi_52, oq_52, es_52, og_53, oi_53, oq_53, es_53, og_54, oi_54, oq_54, es_54, og_55, oi_55, oq_55, es_55, og_56, oi_56, oq_56, es_56, og_57, oi_57, oq_57, es_57, og_58, oi_58, oq_58, es_58]
    exact ⟨fun _ => hP, fun q => absurd (nI_le (Nat.le_refl 8) (by decide)) q⟩
  | succ j ih =>
    intro i c hk hP
    have hi : i < 8 := by omega
    have hz := sz_0 hx hi
    have ec : nI c + 0 = nI c := by rw [show (0 : Int32) = nI 0 from rfl, nI_add]; rfl
    refine s_X_list_15 _ _ _ _ _ ?_
    simp only [k_X_list_15, o_iconst, o_lconst, o_iload, o_lload, o_aload, o_istore, o_lstore, o_astore, o_iinc, o_iadd, o_isub, o_imul, o_iand, o_ior, o_idiv, o_irem, o_lor, o_lushr, o_lshl, o_i2l, o_l2i, o_lcmp, o_dup, o_pop, o_dup2, o_ifeq, o_ifne, o_iflt, o_ifge, o_ifgt, o_ifle, o_icmpeq, o_icmpne, o_icmplt, o_icmpge, o_icmpgt, o_icmple, o_jmp, o_tsw, o_iret, o_zret, o_lret, o_vret, o_getf, o_putfI, o_putfR, o_iald, o_alen, o_lald, o_zald, o_iast, o_last, o_zast, o_aald, o_aast, o_new, o_newa, o_callS, o_callI, o_callV, o_objInit, o_mmax, o_mmin, o_lk, o_up1, o_up2, o_cl1, o_cl2, o_keep, o_c2, List.getElem?_cons_zero, List.getElem?_cons_succ, List.drop_zero, List.drop_succ_cons, List.take_zero, List.take_succ_cons, List.reverse_cons, List.reverse_nil, List.nil_append, List.cons_append, List.map_cons, List.map_nil, List.sum_cons, List.sum_nil, Value.category, List.length_cons, List.length_nil, List.set_cons_zero, List.set_cons_succ, Option.toList_some, Option.toList_none, lv_args, ↓reduceIte, Nat.reduceAdd, Nat.reduceSub, Nat.reduceMul, Nat.reduceEqDiff, Nat.reduceLeDiff, Nat.reduceLT, reduceCtorEq, Bool.false_eq_true, and_true, true_and, and_self, and_false, false_and, Nat.zero_add, Nat.le_refl, Nat.zero_le, true_or, or_true, not_true_eq_false, not_false_eq_true, forall_const, false_implies, implies_true, true_implies, Int32.reduceAdd, Int32.reduceLE, Int32.reduceLT, Int32.reduceSub, Int32.reduceMul, Int32.reduceToNatClampNeg, og_36, oi_36, ef_36_4, ef_36_19, ef_36_20, ef_36_21, ef_36_22, ef_36_23, og_37, oi_37, oq_37, es_37, og_38, oi_38, oq_38, es_38, og_39, oi_39, oq_39, es_39, og_40, oi_40, oq_40, es_40, og_41, oi_41, es_41, og_42, oi_42, oq_42, es_42, og_43, oi_43, oq_43, es_43, og_44, oi_44, oq_44, es_44, og_45, oi_45, oq_45, es_45, og_46, oi_46, oq_46, es_46, og_47, oi_47, oq_47, es_47, og_48, oi_48, oq_48, es_48, og_49, oi_49, oq_49, es_49, og_50, oi_50, oq_50, es_50, og_51, oi_51, es_51, og_52, oi_52, oq_52, es_52, og_53, oi_53, oq_53, es_53, og_54, oi_54, oq_54, es_54, og_55, oi_55, oq_55, es_55, og_56, oi_56, oq_56, es_56, og_57, oi_57, oq_57, es_57, og_58, oi_58, oq_58, es_58, nI_1, ec, nI_clamp (show i < 2 ^ 31 by omega)]
    refine ⟨fun q => absurd q (nI_ge (b := 8) hi (by decide)), fun _ => ⟨vp_in_nI hi (by decide), fun q => ?_, fun q => ?_⟩⟩
    · have h : erX nb k i = false := by unfold erX; rw [hz.mp q]; rfl
      rw [cntF_f h] at hP
      exact ih (i + 1) c (by omega) hP
    · have he : (nb i).isEmpty = false := Bool.eq_false_iff.mpr (fun h => q (hz.mpr h))
      refine o_use (x_before G σ hx hi hk8) ?_
      rintro v h' ⟨rfl, rfl⟩
      refine s_X_list_40 _ _ _ _ _ ?_
      cases hl : lxL (nb i) (nb k) with
      | false =>
        have h : erX nb k i = false := by unfold erX; rw [hl, Bool.and_false]
        rw [cntF_f h] at hP
        simp only [k_X_list_40, o_iconst, o_lconst, o_iload, o_lload, o_aload, o_istore, o_lstore, o_astore, o_iinc, o_iadd, o_isub, o_imul, o_iand, o_ior, o_idiv, o_irem, o_lor, o_lushr, o_lshl, o_i2l, o_l2i, o_lcmp, o_dup, o_pop, o_dup2, o_ifeq, o_ifne, o_iflt, o_ifge, o_ifgt, o_ifle, o_icmpeq, o_icmpne, o_icmplt, o_icmpge, o_icmpgt, o_icmple, o_jmp, o_tsw, o_iret, o_zret, o_lret, o_vret, o_getf, o_putfI, o_putfR, o_iald, o_alen, o_lald, o_zald, o_iast, o_last, o_zast, o_aald, o_aast, o_new, o_newa, o_callS, o_callI, o_callV, o_objInit, o_mmax, o_mmin, o_lk, o_up1, o_up2, o_cl1, o_cl2, o_keep, o_c2, List.getElem?_cons_zero, List.getElem?_cons_succ, List.drop_zero, List.drop_succ_cons, List.take_zero, List.take_succ_cons, List.reverse_cons, List.reverse_nil, List.nil_append, List.cons_append, List.map_cons, List.map_nil, List.sum_cons, List.sum_nil, Value.category, List.length_cons, List.length_nil, List.set_cons_zero, List.set_cons_succ, Option.toList_some, Option.toList_none, lv_args, ↓reduceIte, Nat.reduceAdd, Nat.reduceSub, Nat.reduceMul, Nat.reduceEqDiff, Nat.reduceLeDiff, Nat.reduceLT, reduceCtorEq, Bool.false_eq_true, and_true, true_and, and_self, and_false, false_and, Nat.zero_add, Nat.le_refl, Nat.zero_le, true_or, or_true, not_true_eq_false, not_false_eq_true, forall_const, false_implies, implies_true, true_implies, Int32.reduceAdd, Int32.reduceLE, Int32.reduceLT, Int32.reduceSub, Int32.reduceMul, Int32.reduceToNatClampNeg, bz_f, nI_1, ec]
        exact ih (i + 1) c (by omega) hP
      | true =>
        have h : erX nb k i = true := by unfold erX; rw [hl, he]; rfl
        rw [cntF_t h] at hP
        simp only [k_X_list_40, o_iconst, o_lconst, o_iload, o_lload, o_aload, o_istore, o_lstore, o_astore, o_iinc, o_iadd, o_isub, o_imul, o_iand, o_ior, o_idiv, o_irem, o_lor, o_lushr, o_lshl, o_i2l, o_l2i, o_lcmp, o_dup, o_pop, o_dup2, o_ifeq, o_ifne, o_iflt, o_ifge, o_ifgt, o_ifle, o_icmpeq, o_icmpne, o_icmplt, o_icmpge, o_icmpgt, o_icmple, o_jmp, o_tsw, o_iret, o_zret, o_lret, o_vret, o_getf, o_putfI, o_putfR, o_iald, o_alen, o_lald, o_zald, o_iast, o_last, o_zast, o_aald, o_aast, o_new, o_newa, o_callS, o_callI, o_callV, o_objInit, o_mmax, o_mmin, o_lk, o_up1, o_up2, o_cl1, o_cl2, o_keep, o_c2, List.getElem?_cons_zero, List.getElem?_cons_succ, List.drop_zero, List.drop_succ_cons, List.take_zero, List.take_succ_cons, List.reverse_cons, List.reverse_nil, List.nil_append, List.cons_append, List.map_cons, List.map_nil, List.sum_cons, List.sum_nil, Value.category, List.length_cons, List.length_nil, List.set_cons_zero, List.set_cons_succ, Option.toList_some, Option.toList_none, lv_args, ↓reduceIte, Nat.reduceAdd, Nat.reduceSub, Nat.reduceMul, Nat.reduceEqDiff, Nat.reduceLeDiff, Nat.reduceLT, reduceCtorEq, Bool.false_eq_true, and_true, true_and, and_self, and_false, false_and, Nat.zero_add, Nat.le_refl, Nat.zero_le, true_or, or_true, not_true_eq_false, not_false_eq_true, forall_const, false_implies, implies_true, true_implies, Int32.reduceAdd, Int32.reduceLE, Int32.reduceLT, Int32.reduceSub, Int32.reduceMul, Int32.reduceToNatClampNeg, bz_t, nI_1, ec]
        exact ⟨fun q => absurd q i01, fun _ => ih (i + 1) (c + 1) (by omega) hP⟩
def liX (nb : Nat → List Nat) (a : Int32) : Nat → Bool := fun k => !(nb k).isEmpty && decide (nI (cnt (erX nb k) 8) = a)
def lasF (f : Nat → Bool) : Nat → Option Nat
  | 0 => none
  | n + 1 => if f n = true then some n else lasF f n
theorem lasF_some {f : Nat → Bool} : ∀ {n k : Nat}, lasF f n = some k → k < n ∧ f k = true := by
  intro n
  induction n with
  | zero => intro k h; cases h
  | succ n ih =>
    intro k h
    simp only [lasF] at h
    split at h
    · rename_i hf
      cases h
      exact ⟨by omega, hf⟩
    · have := ih h
      exact ⟨by omega, this.2⟩
theorem lasF_none {f : Nat → Bool} : ∀ {n : Nat}, lasF f n = none → ∀ k, k < n → f k = false := by
  intro n
  induction n with
  | zero => intro _ k hk; omega
  | succ n ih =>
    intro h k hk
    simp only [lasF] at h
    split at h
    · cases h
    · rename_i hf
      by_cases e : k = n
      · rw [e]; exact Bool.eq_false_iff.mpr hf
      · exact ih h k (by omega)
theorem lis_loop (G : oG) (σ : oT) {nb : Nat → List Nat} {nf : Nat → Nat} (hx : XNm nb nf σ) {a : Int32} (ha : σ.2.2 36 20 = a) (Post : oP) (hP : Wp G m_X_list Post 85 0 0 [(0, .ref 37), (1, .int (oi (lasF (liX nb a) 8)))] [] (enc σ)) : ∀ k i : Nat, i + k = 8 → ∀ x : Option Nat, x = lasF (liX nb a) i → Wp G m_X_list Post 4 0 0 [(0, .ref 37), (1, .int (oi x)), (2, .int (nI i))] [] (enc σ) := by
  intro k
  induction k with
  | zero =>
    intro i hk x hxe
    have e : i = 8 := by omega
    subst e
    refine s_X_list_4 _ _ _ _ _ ?_
    simp only [k_X_list_4, o_iconst, o_lconst, o_iload, o_lload, o_aload, o_istore, o_lstore, o_astore, o_iinc, o_iadd, o_isub, o_imul, o_iand, o_ior, o_idiv, o_irem, o_lor, o_lushr, o_lshl, o_i2l, o_l2i, o_lcmp, o_dup, o_pop, o_dup2, o_ifeq, o_ifne, o_iflt, o_ifge, o_ifgt, o_ifle, o_icmpeq, o_icmpne, o_icmplt, o_icmpge, o_icmpgt, o_icmple, o_jmp, o_tsw, o_iret, o_zret, o_lret, o_vret, o_getf, o_putfI, o_putfR, o_iald, o_alen, o_lald, o_zald, o_iast, o_last, o_zast, o_aald, o_aast, o_new, o_newa, o_callS, o_callI, o_callV, o_objInit, o_mmax, o_mmin, o_lk, o_up1, o_up2, o_cl1, o_cl2, o_keep, o_c2, List.getElem?_cons_zero, List.getElem?_cons_succ, List.drop_zero, List.drop_succ_cons, List.take_zero, List.take_succ_cons, List.reverse_cons, List.reverse_nil, List.nil_append, List.cons_append, List.map_cons, List.map_nil, List.sum_cons, List.sum_nil, Value.category, List.length_cons, List.length_nil, List.set_cons_zero, List.set_cons_succ, Option.toList_some, Option.toList_none, lv_args, ↓reduceIte, Nat.reduceAdd, Nat.reduceSub, Nat.reduceMul, Nat.reduceEqDiff, Nat.reduceLeDiff, Nat.reduceLT, reduceCtorEq, Bool.false_eq_true, and_true, true_and, and_self, and_false, false_and, Nat.zero_add, Nat.le_refl, Nat.zero_le, true_or, or_true, not_true_eq_false, not_false_eq_true, forall_const, false_implies, implies_true, true_implies, Int32.reduceAdd, Int32.reduceLE, Int32.reduceLT, Int32.reduceSub, Int32.reduceMul, Int32.reduceToNatClampNeg, og_36, oi_36, ef_36_4, ef_36_19, ef_36_20, ef_36_21, ef_36_22, ef_36_23, og_37, oi_37, oq_37, es_37, og_38, oi_38, oq_38, es_38, og_39, oi_39, oq_39, es_39, og_40, oi_40, oq_40, es_40, og_41, oi_41, es_41, og_42, oi_42, oq_42, es_42, og_43, oi_43, oq_43, es_43, og_44, oi_44, oq_44, es_44, og_45, oi_45, oq_45, es_45, og_46, oi_46, oq_46, es_46, og_47, oi_47, oq_47, es_47, og_48, oi_48, oq_48, es_48, og_49, oi_49, oq_49, es_49, og_50, oi_50, oq_50, es_50, og_51, oi_51, es_51, og_52, oi_52, oq_52, es_52, og_53, oi_53, oq_53, es_53, og_54, oi_54, oq_54, es_54, og_55, oi_55, oq_55, es_55, og_56, oi_56, oq_56, es_56, og_57, oi_57, oq_57, es_57, og_58, oi_58, oq_58, es_58]
    exact ⟨fun _ => by rw [hxe]; exact hP, fun q => absurd (nI_le (Nat.le_refl 8) (by decide)) q⟩
  | succ k ih =>
    intro i hk x hxe
    have hi : i < 8 := by omega
    have hz := sz_0 hx hi
    have stay : liX nb a i = false → Wp G m_X_list Post 4 0 0 [(0, .ref 37), (1, .int (oi x)), (2, .int (nI (i + 1)))] [] (enc σ) := fun h => ih (i + 1) (by omega) x (by
      rw [hxe]
      simp only [lasF, h, Bool.false_eq_true, if_false])
    refine s_X_list_4 _ _ _ _ _ ?_
    simp only [k_X_list_4, o_iconst, o_lconst, o_iload, o_lload, o_aload, o_istore, o_lstore, o_astore, o_iinc, o_iadd, o_isub, o_imul, o_iand, o_ior, o_idiv, o_irem, o_lor, o_lushr, o_lshl, o_i2l, o_l2i, o_lcmp, o_dup, o_pop, o_dup2, o_ifeq, o_ifne, o_iflt, o_ifge, o_ifgt, o_ifle, o_icmpeq, o_icmpne, o_icmplt, o_icmpge, o_icmpgt, o_icmple, o_jmp, o_tsw, o_iret, o_zret, o_lret, o_vret, o_getf, o_putfI, o_putfR, o_iald, o_alen, o_lald, o_zald, o_iast, o_last, o_zast, o_aald, o_aast, o_new, o_newa, o_callS, o_callI, o_callV, o_objInit, o_mmax, o_mmin, o_lk, o_up1, o_up2, o_cl1, o_cl2, o_keep, o_c2, List.getElem?_cons_zero, List.getElem?_cons_succ, List.drop_zero, List.drop_succ_cons, List.take_zero, List.take_succ_cons, List.reverse_cons, List.reverse_nil, List.nil_append, List.cons_append, List.map_cons, List.map_nil, List.sum_cons, List.sum_nil, Value.category, List.length_cons, List.length_nil, List.set_cons_zero, List.set_cons_succ, Option.toList_some, Option.toList_none, lv_args, ↓reduceIte, Nat.reduceAdd, Nat.reduceSub, Nat.reduceMul, Nat.reduceEqDiff, Nat.reduceLeDiff, Nat.reduceLT, reduceCtorEq, Bool.false_eq_true, and_true, true_and, and_self, and_false, false_and, Nat.zero_add, Nat.le_refl, Nat.zero_le, true_or, or_true, not_true_eq_false, not_false_eq_true, forall_const, false_implies, implies_true, true_implies, Int32.reduceAdd, Int32.reduceLE, Int32.reduceLT, Int32.reduceSub, Int32.reduceMul, Int32.reduceToNatClampNeg, og_36, oi_36, ef_36_4, ef_36_19, ef_36_20, ef_36_21, ef_36_22, ef_36_23, og_37, oi_37, oq_37, es_37, og_38, oi_38, oq_38, es_38, og_39, oi_39, oq_39, es_39, og_40, oi_40, oq_40, es_40, og_41, oi_41, es_41, og_42, oi_42, oq_42, es_42, og_43, oi_43, oq_43, es_43, og_44, oi_44, oq_44, es_44, og_45, oi_45, oq_45, es_45, og_46, oi_46, oq_46, es_46, og_47, oi_47, oq_47, es_47, og_48, oi_48, oq_48, es_48, og_49, oi_49, oq_49, es_49, og_50, oi_50, oq_50, es_50, og_51, oi_51, es_51, og_52, oi_52, oq_52, es_52, og_53, oi_53, oq_53, es_53, og_54, oi_54, oq_54, es_54, og_55, oi_55, oq_55, es_55, og_56, oi_56, oq_56, es_56, og_57, oi_57, oq_57, es_57, og_58, oi_58, oq_58, es_58]
    refine ⟨fun q => absurd q (nI_ge (b := 8) hi (by decide)), fun _ => ?_⟩
    refine ear_loop G σ hx hi Post 8 0 0 (by decide) ?_
    rw [cntF_0]
    refine s_X_list_56 _ _ _ _ _ ?_
    simp only [k_X_list_56, o_iconst, o_lconst, o_iload, o_lload, o_aload, o_istore, o_lstore, o_astore, o_iinc, o_iadd, o_isub, o_imul, o_iand, o_ior, o_idiv, o_irem, o_lor, o_lushr, o_lshl, o_i2l, o_l2i, o_lcmp, o_dup, o_pop, o_dup2, o_ifeq, o_ifne, o_iflt, o_ifge, o_ifgt, o_ifle, o_icmpeq, o_icmpne, o_icmplt, o_icmpge, o_icmpgt, o_icmple, o_jmp, o_tsw, o_iret, o_zret, o_lret, o_vret, o_getf, o_putfI, o_putfR, o_iald, o_alen, o_lald, o_zald, o_iast, o_last, o_zast, o_aald, o_aast, o_new, o_newa, o_callS, o_callI, o_callV, o_objInit, o_mmax, o_mmin, o_lk, o_up1, o_up2, o_cl1, o_cl2, o_keep, o_c2, List.getElem?_cons_zero, List.getElem?_cons_succ, List.drop_zero, List.drop_succ_cons, List.take_zero, List.take_succ_cons, List.reverse_cons, List.reverse_nil, List.nil_append, List.cons_append, List.map_cons, List.map_nil, List.sum_cons, List.sum_nil, Value.category, List.length_cons, List.length_nil, List.set_cons_zero, List.set_cons_succ, Option.toList_some, Option.toList_none, lv_args, ↓reduceIte, Nat.reduceAdd, Nat.reduceSub, Nat.reduceMul, Nat.reduceEqDiff, Nat.reduceLeDiff, Nat.reduceLT, reduceCtorEq, Bool.false_eq_true, and_true, true_and, and_self, and_false, false_and, Nat.zero_add, Nat.le_refl, Nat.zero_le, true_or, or_true, not_true_eq_false, not_false_eq_true, forall_const, false_implies, implies_true, true_implies, Int32.reduceAdd, Int32.reduceLE, Int32.reduceLT, Int32.reduceSub, Int32.reduceMul, Int32.reduceToNatClampNeg, og_36, oi_36, ef_36_4, ef_36_19, ef_36_20, ef_36_21, ef_36_22, ef_36_23, og_37, oi_37, oq_37, es_37, og_38, oi_38, oq_38, es_38, og_39, oi_39, oq_39, es_39, og_40, oi_40, oq_40, es_40, og_41, oi_41, es_41, og_42, oi_42, oq_42, es_42, og_43, oi_43, oq_43, es_43, og_44, oi_44, oq_44, es_44, og_45, oi_45, oq_45, es_45, og_46, oi_46, oq_46, es_46, og_47, oi_47, oq_47, es_47, og_48, oi_48, oq_48, es_48, og_49, oi_49, oq_49, es_49, og_50, oi_50, oq_50, es_50, og_51, oi_51, es_51, og_52, oi_52, oq_52, es_52, og_53, oi_53, oq_53, es_53, og_54, oi_54, oq_54, es_54, og_55, oi_55, oq_55, es_55, og_56, oi_56, oq_56, es_56, og_57, oi_57, oq_57, es_57, og_58, oi_58, oq_58, es_58, nI_1, nI_clamp (show i < 2 ^ 31 by omega), ha]
    refine ⟨vp_in_nI hi (by decide), fun q => ?_, fun q => ⟨fun q2 => ?_, fun q2 => ?_⟩⟩
    · exact stay (by unfold liX; rw [hz.mp q]; rfl)
    · exact stay (by unfold liX; rw [decide_eq_false q2, Bool.and_false])
    · have he : (nb i).isEmpty = false := Bool.eq_false_iff.mpr (fun h => q (hz.mpr h))
      have h : liX nb a i = true := by unfold liX; rw [he, decide_eq_true q2]; rfl
      exact ih (i + 1) (by omega) (some i) (by simp only [lasF, h, if_true])
theorem rank_at {l : List (Nat × Nat)} (h : l.Pairwise (fun x y => x.1 < y.1)) : ∀ {i : Nat}, i < l.length → l.countP (fun x => decide (x.1 < (l.getD i (0, 0)).1)) = i := by
  induction h with
  | nil => intro i hi; exact absurd hi (Nat.not_lt_zero _)
  | @cons x r h1 h2 ih =>
    intro i hi
    cases i with
    | zero =>
      show (x :: r).countP (fun y => decide (y.1 < x.1)) = 0
      rw [List.countP_eq_zero]
      intro y hy
      rcases List.mem_cons.mp hy with e | e
      · rw [e]; simp
      · have := h1 y e
        simp only [decide_eq_true_eq]
        omega
    | succ i =>
      have hi' : i < r.length := by simpa using hi
      have hm : r.getD i (0, 0) ∈ r := List.mem_of_getElem? (getD_at hi')
      show (x :: r).countP (fun y => decide (y.1 < (r.getD i (0, 0)).1)) = i + 1
      rw [List.countP_cons, ih hi', if_pos (decide_eq_true (h1 _ hm))]
theorem ear_rank {nb : Nat → List Nat} {nf : Nat → Nat} {σ : oT} (hx : XNm nb nf σ) {l : List (Nat × Nat)} (hp : (sl nb nf 8).Perm l) {k : Nat} (hk : k < 8) : cnt (erX nb k) 8 = l.countP (fun x => decide (x.1 < q_key (nb k))) := by
  rw [← hp.countP_eq, sl_cnt]
  refine cnt_congr fun j hj => ?_
  obtain ⟨a1, a2, -⟩ := hx j hj
  obtain ⟨b1, b2, -⟩ := hx k hk
  have h := key_lt a1 b1 a2 b2
  unfold erX
  congr 1
  cases hl : lxL (nb j) (nb k) with
  | true => exact (decide_eq_true (h.mpr hl)).symm
  | false => exact (decide_eq_false (fun q => by rw [h.mp q] at hl; cases hl)).symm
theorem li_mem {l : List (Nat × Nat)} {x : Nat × Nat} (h : x ∈ l) : ∃ i, i < l.length ∧ l.getD i (0, 0) = x := by
  obtain ⟨i, hi, e⟩ := List.getElem_of_mem h
  exact ⟨i, hi, by simp [List.getD, hi, e]⟩
/-- the place that LIST finds -/
theorem las_t {nb : Nat → List Nat} {nf : Nat → Nat} {σ : oT} (hx : XNm nb nf σ) {l : List (Nat × Nat)} (hN : OkN l) (hp : (sl nb nf 8).Perm l) {j : Nat} (hj : j < l.length) : ∃ k, lasF (liX nb (nI j)) 8 = some k ∧ k < 8 ∧ nb k ≠ [] ∧ (l.getD j (0, 0)).1 = q_key (nb k) := by
  have h8 := hN.1
  have hm : l.getD j (0, 0) ∈ l := List.mem_of_getElem? (getD_at hj)
  obtain ⟨n, n1, n2, n3⟩ := sl_mem2 8 (hp.mem_iff.mpr hm)
  have hn : liX nb (nI j) n = true := by
    unfold liX
    have e : cnt (erX nb n) 8 = j := by
      rw [ear_rank hx hp n1]
      have := rank_at hN.2.2 hj
      rw [n3] at this
      exact this
    rw [e, decide_eq_true rfl, Bool.and_true]
    cases hh : nb n with
    | nil => exact absurd hh n2
    | cons _ _ => rfl
  cases hl : lasF (liX nb (nI j)) 8 with
  | none =>
    rw [lasF_none hl n n1] at hn
    cases hn
  | some k =>
    obtain ⟨k1, k2⟩ := lasF_some hl
    unfold liX at k2
    rw [Bool.and_eq_true, decide_eq_true_eq] at k2
    have kne : nb k ≠ [] := fun e => by
      rw [e] at k2
      exact absurd k2.1 (by decide)
    have hmk := hp.mem_iff.mp (sl_mem (nf := nf) kne 8 k1)
    obtain ⟨i, i1, i2⟩ := li_mem hmk
    have er : cnt (erX nb k) 8 = i := by
      rw [ear_rank hx hp k1]
      have := rank_at hN.2.2 i1
      rw [i2] at this
      exact this
    have : i = j := (nI_eq (by omega) (by omega)).mp (by rw [← er]; exact k2.2)
    subst this
    exact ⟨k, rfl, k1, kne, by rw [i2]⟩
theorem las_f {nb : Nat → List Nat} {nf : Nat → Nat} {σ : oT} (hx : XNm nb nf σ) {l : List (Nat × Nat)} (hN : OkN l) (hp : (sl nb nf 8).Perm l) {a : Int32} (ha : wI a (nI l.length) = false) : lasF (liX nb a) 8 = none := by
  have h8 := hN.1
  cases hl : lasF (liX nb a) 8 with
  | none => rfl
  | some k =>
    obtain ⟨k1, k2⟩ := lasF_some hl
    unfold liX at k2
    rw [Bool.and_eq_true, decide_eq_true_eq] at k2
    have kne : nb k ≠ [] := fun e => by
      rw [e] at k2
      exact absurd k2.1 (by decide)
    have hmk := hp.mem_iff.mp (sl_mem (nf := nf) kne 8 k1)
    obtain ⟨i, i1, i2⟩ := li_mem hmk
    have er : cnt (erX nb k) 8 = i := by
      rw [ear_rank hx hp k1]
      have := rank_at hN.2.2 i1
      rw [i2] at this
      exact this
    rw [er] at k2
    rw [← k2.2, wI_nI i1 (by omega)] at ha
    cases ha
