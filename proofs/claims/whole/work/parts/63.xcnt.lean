/-! Counts of the second side. -/
def ooX (σ : oT) (x y : Int32) : Nat → Bool := fun o => decide (σ.1 47 o = x) && decide (σ.1 48 o = y)
theorem xoo_loop (G : oG) (σ : oT) (x y : Int32) (Post : oP) : ∀ k i c : Nat, i + k = 8 → Post (some (.int (nI (c + cntF (ooX σ x y) i k)))) (enc σ) → Wp G m_X_opensOf Post 5 0 0 [(0, .ref 37), (1, .int x), (2, .int y), (3, .int (nI c)), (4, .int (nI i))] [] (enc σ) := by
  intro k
  induction k with
  | zero =>
    intro i c hk hP
    have e : i = 8 := by omega
    subst e
    refine s_X_opensOf_5 _ _ _ _ _ ?_
    simp only [k_X_opensOf_5, o_iconst, o_lconst, o_iload, o_lload, o_aload, o_istore, o_lstore, o_astore, o_iinc, o_iadd, o_isub, o_imul, o_iand, o_ior, o_idiv, o_irem, o_lor, o_lushr, o_lshl, o_i2l, o_l2i, o_lcmp, o_dup, o_pop, o_dup2, o_ifeq, o_ifne, o_iflt, o_ifge, o_ifgt, o_ifle, o_icmpeq, o_icmpne, o_icmplt, o_icmpge, o_icmpgt, o_icmple, o_jmp, o_tsw, o_iret, o_zret, o_lret, o_vret, o_getf, o_putfI, o_putfR, o_iald, o_alen, o_lald, o_zald, o_iast, o_last, o_zast, o_aald, o_aast, o_new, o_newa, o_callS, o_callI, o_callV, o_objInit, o_mmax, o_mmin, o_lk, o_up1, o_up2, o_cl1, o_cl2, o_keep, o_c2, List.getElem?_cons_zero, List.getElem?_cons_succ, List.drop_zero, List.drop_succ_cons, List.take_zero, List.take_succ_cons, List.reverse_cons, List.reverse_nil, List.nil_append, List.cons_append, List.map_cons, List.map_nil, List.sum_cons, List.sum_nil, Value.category, List.length_cons, List.length_nil, List.set_cons_zero, List.set_cons_succ, Option.toList_some, Option.toList_none, lv_args, ↓reduceIte, Nat.reduceAdd, Nat.reduceSub, Nat.reduceMul, Nat.reduceEqDiff, Nat.reduceLeDiff, Nat.reduceLT, reduceCtorEq, Bool.false_eq_true, and_true, true_and, and_self, and_false, false_and, Nat.zero_add, Nat.le_refl, Nat.zero_le, true_or, or_true, not_true_eq_false, not_false_eq_true, forall_const, false_implies, implies_true, true_implies, Int32.reduceAdd, Int32.reduceLE, Int32.reduceLT, Int32.reduceSub, Int32.reduceMul, Int32.reduceToNatClampNeg, og_36, oi_36, ef_36_4, ef_36_19, ef_36_20, ef_36_21, ef_36_22, ef_36_23, og_37, oi_37, oq_37, es_37, og_38, oi_38, oq_38, es_38, og_39, oi_39, oq_39, es_39, og_40, oi_40, oq_40, es_40, og_41, oi_41, es_41, og_42, oi_42, oq_42, es_42, og_43, oi_43, oq_43, es_43, og_44, oi_44, oq_44, es_44, og_45, oi_45, oq_45, es_45, og_46, oi_46, oq_46, es_46, og_47, oi_47, oq_47, es_47, og_48, oi_48, oq_48, es_48, og_49, oi_49, oq_49, es_49, og_50, oi_50, oq_50, es_50, og_51, oi_51, es_51, og_52, oi_52, oq_52, es_52, og_53, oi_53, oq_53, es_53, og_54, oi_54, oq_54, es_54, og_55, oi_55, oq_55, es_55, og_56, oi_56, oq_56, es_56, og_57, oi_57, oq_57, es_57, og_58, oi_58, oq_58, es_58]
    exact ⟨fun _ => hP, fun q => absurd (nI_le (Nat.le_refl 8) (by decide)) q⟩
  | succ k ih =>
    intro i c hk hP
    have hi : i < 8 := by omega
    have hv : vp_in (nI i) 8 := vp_in_nI hi (by decide)
    have no : ooX σ x y i = false → Wp G m_X_opensOf Post 5 0 0 [(0, .ref 37), (1, .int x), (2, .int y), (3, .int (nI c)), (4, .int (nI (i + 1)))] [] (enc σ) := fun h => by
      rw [cntF_f h] at hP
      exact ih (i + 1) c (by omega) hP
    refine s_X_opensOf_5 _ _ _ _ _ ?_
    have ec : nI c + 0 = nI c := by rw [show (0 : Int32) = nI 0 from rfl, nI_add]; rfl
    simp only [k_X_opensOf_5, o_iconst, o_lconst, o_iload, o_lload, o_aload, o_istore, o_lstore, o_astore, o_iinc, o_iadd, o_isub, o_imul, o_iand, o_ior, o_idiv, o_irem, o_lor, o_lushr, o_lshl, o_i2l, o_l2i, o_lcmp, o_dup, o_pop, o_dup2, o_ifeq, o_ifne, o_iflt, o_ifge, o_ifgt, o_ifle, o_icmpeq, o_icmpne, o_icmplt, o_icmpge, o_icmpgt, o_icmple, o_jmp, o_tsw, o_iret, o_zret, o_lret, o_vret, o_getf, o_putfI, o_putfR, o_iald, o_alen, o_lald, o_zald, o_iast, o_last, o_zast, o_aald, o_aast, o_new, o_newa, o_callS, o_callI, o_callV, o_objInit, o_mmax, o_mmin, o_lk, o_up1, o_up2, o_cl1, o_cl2, o_keep, o_c2, List.getElem?_cons_zero, List.getElem?_cons_succ, List.drop_zero, List.drop_succ_cons, List.take_zero, List.take_succ_cons, List.reverse_cons, List.reverse_nil, List.nil_append, List.cons_append, List.map_cons, List.map_nil, List.sum_cons, List.sum_nil, Value.category, List.length_cons, List.length_nil, List.set_cons_zero, List.set_cons_succ, Option.toList_some, Option.toList_none, lv_args, ↓reduceIte, Nat.reduceAdd, Nat.reduceSub, Nat.reduceMul, Nat.reduceEqDiff, Nat.reduceLeDiff, Nat.reduceLT, reduceCtorEq, Bool.false_eq_true, and_true, true_and, and_self, and_false, false_and, Nat.zero_add, Nat.le_refl, Nat.zero_le, true_or, or_true, not_true_eq_false, not_false_eq_true, forall_const, false_implies, implies_true, true_implies, Int32.reduceAdd, Int32.reduceLE, Int32.reduceLT, Int32.reduceSub, Int32.reduceMul, Int32.reduceToNatClampNeg, og_36, oi_36, ef_36_4, ef_36_19, ef_36_20, ef_36_21, ef_36_22, ef_36_23, og_37, oi_37, oq_37, es_37, og_38, oi_38, oq_38, es_38, og_39, oi_39, oq_39, es_39, og_40, oi_40, oq_40, es_40, og_41, oi_41, es_41, og_42, oi_42, oq_42, es_42, og_43, oi_43, oq_43, es_43, og_44, oi_44, oq_44, es_44, og_45, oi_45, oq_45, es_45, og_46, oi_46, oq_46, es_46, og_47, oi_47, oq_47, es_47, og_48, oi_48, oq_48, es_48, og_49, oi_49, oq_49, es_49, og_50, oi_50, oq_50, es_50, og_51, oi_51, es_51, og_52, oi_52, oq_52, es_52, og_53, oi_53, oq_53, es_53, og_54, oi_54, oq_54, es_54, og_55, oi_55, oq_55, es_55, og_56, oi_56, oq_56, es_56, og_57, oi_57, oq_57, es_57, og_58, oi_58, oq_58, es_58, nI_1, ec, nI_clamp (show i < 2 ^ 31 by omega)]
    refine ⟨fun q => absurd q (nI_ge (b := 8) hi (by decide)), fun _ => ⟨hv, fun q => ?_, fun q => ⟨hv, fun q2 => ?_, fun q2 => ?_⟩⟩⟩
    · exact no (by unfold ooX; rw [decide_eq_false q]; rfl)
    · exact no (by unfold ooX; rw [decide_eq_false q2, Bool.and_false])
    · have h : ooX σ x y i = true := by unfold ooX; rw [decide_eq_true q, decide_eq_true q2]; rfl
      rw [cntF_t h] at hP
      exact ih (i + 1) (c + 1) (by omega) hP
theorem x_opensOf (G : oG) (σ : oT) (x y : Int32) : Mt G m_X_opensOf [.ref 37, .int x, .int y] (enc σ) 0 0 (fun v h' => v = some (.int (nI (cnt (ooX σ x y) 8))) ∧ h' = enc σ) := by
  refine Mt.of (by decide) (Nat.le_of_ble_eq_true rfl) (s_X_opensOf_0 _ _ _ _ _ ?_)
  simp only [k_X_opensOf_0, o_iconst, o_lconst, o_iload, o_lload, o_aload, o_istore, o_lstore, o_astore, o_iinc, o_iadd, o_isub, o_imul, o_iand, o_ior, o_idiv, o_irem, o_lor, o_lushr, o_lshl, o_i2l, o_l2i, o_lcmp, o_dup, o_pop, o_dup2, o_ifeq, o_ifne, o_iflt, o_ifge, o_ifgt, o_ifle, o_icmpeq, o_icmpne, o_icmplt, o_icmpge, o_icmpgt, o_icmple, o_jmp, o_tsw, o_iret, o_zret, o_lret, o_vret, o_getf, o_putfI, o_putfR, o_iald, o_alen, o_lald, o_zald, o_iast, o_last, o_zast, o_aald, o_aast, o_new, o_newa, o_callS, o_callI, o_callV, o_objInit, o_mmax, o_mmin, o_lk, o_up1, o_up2, o_cl1, o_cl2, o_keep, o_c2, List.getElem?_cons_zero, List.getElem?_cons_succ, List.drop_zero, List.drop_succ_cons, List.take_zero, List.take_succ_cons, List.reverse_cons, List.reverse_nil, List.nil_append, List.cons_append, List.map_cons, List.map_nil, List.sum_cons, List.sum_nil, Value.category, List.length_cons, List.length_nil, List.set_cons_zero, List.set_cons_succ, Option.toList_some, Option.toList_none, lv_args, ↓reduceIte, Nat.reduceAdd, Nat.reduceSub, Nat.reduceMul, Nat.reduceEqDiff, Nat.reduceLeDiff, Nat.reduceLT, reduceCtorEq, Bool.false_eq_true, and_true, true_and, and_self, and_false, false_and, Nat.zero_add, Nat.le_refl, Nat.zero_le, true_or, or_true, not_true_eq_false, not_false_eq_true, forall_const, false_implies, implies_true, true_implies, Int32.reduceAdd, Int32.reduceLE, Int32.reduceLT, Int32.reduceSub, Int32.reduceMul, Int32.reduceToNatClampNeg]
  refine xoo_loop G σ x y _ 8 0 0 (by decide) ⟨?_, rfl⟩
  have h := cntF_eq (ooX σ x y) 8 0
  rw [h]
  rfl
theorem oo_eq {m : MS} {σ : oT} (hO : OkD m) (ho : XMo m σ) (hz : ∀ o, o < 8 → has (q_ds m) o = false → σ.1 47 o = 0) {K y t g : Nat} (hK : 0 < K) (hK4 : K < 4) (hy : y < 8) (h : ∀ a d : Nat, a < 8 → 0 < d → d < 4 → (6 ≤ a → d = 1 ∨ d = 2) → ((kdX a d = K ∧ ofX a = y) ↔ (a = t ∧ ¬ d &&& g = 0))) : cnt (ooX σ (nI K) (nI y)) 8 = opn m t g := by
  refine cnt_congr fun o h8 => ?_
  unfold ooX opF
  cases hh : has (q_ds m) o with
  | false =>
    rw [hz o h8 hh, decide_eq_false (fun q => nI_ne0 hK (by omega) q.symm)]
    rfl
  | true =>
    obtain ⟨k1, k2, k3, k4, k5⟩ := hO.2 o h8 hh
    obtain ⟨r1, r2, -⟩ := ho o h8 hh
    have e := h _ _ k1 k2 k3 k5
    have b1 : kdX (q_tg m o) (q_md m o) < 4 := by
      unfold kdX
      split
      · decide
      · split <;> decide
    have b2 : ofX (q_tg m o) < 8 := by
      unfold ofX
      split <;> omega
    rw [r1, r2, decide_eq_decide.mpr (nI_eq (a := kdX (q_tg m o) (q_md m o)) (b := K) (by omega) (by omega)), decide_eq_decide.mpr (nI_eq (a := ofX (q_tg m o)) (b := y) (by omega) (by omega)), Bool.true_and]
    by_cases c : kdX (q_tg m o) (q_md m o) = K ∧ ofX (q_tg m o) = y
    · obtain ⟨d1, d2⟩ := e.mp c
      rw [decide_eq_true c.1, decide_eq_true c.2, decide_eq_true d1, decide_eq_false d2]
      rfl
    · by_cases d1 : q_tg m o = t
      · by_cases d2 : q_md m o &&& g = 0
        · rw [decide_eq_true d2]
          by_cases c1 : kdX (q_tg m o) (q_md m o) = K
          · rw [decide_eq_false (fun c2 => c ⟨c1, c2⟩), Bool.and_false, Bool.not_true, Bool.and_false]
          · rw [decide_eq_false c1, Bool.false_and, Bool.not_true, Bool.and_false]
        · exact absurd (e.mpr ⟨d1, d2⟩) c
      · rw [decide_eq_false d1, Bool.false_and]
        by_cases c1 : kdX (q_tg m o) (q_md m o) = K
        · rw [decide_eq_false (fun c2 => c ⟨c1, c2⟩), Bool.and_false]
        · rw [decide_eq_false c1, Bool.false_and]
theorem oo_1 (f : Nat) (hf : f < 6) (a : Nat) (ha : a < 8) (d : Nat) (hd : d < 4) (h0 : 0 < d) : ((kdX a d = 1 ∧ ofX a = f) ↔ (a = f ∧ ¬ d &&& 3 = 0)) := by
  have h3 := md3 d hd h0
  unfold kdX ofX
  by_cases h : a < 6
  · rw [if_pos h, if_pos h]
    exact ⟨fun q => ⟨q.2, h3⟩, fun q => ⟨rfl, q.1⟩⟩
  · rw [if_neg h]
    refine ⟨fun q => ?_, fun q => ?_⟩
    · have q1 := q.1
      split at q1 <;> omega
    · have q1 := q.1
      omega
theorem oo_2 (q : Nat) (hq : q < 2) (a : Nat) (ha : a < 8) (d : Nat) (hd : d < 4) (h0 : 0 < d) (h6 : 6 ≤ a → d = 1 ∨ d = 2) : ((kdX a d = 2 ∧ ofX a = q) ↔ (a = 6 + q ∧ ¬ d &&& 1 = 0)) := by
  unfold kdX ofX
  by_cases h : a < 6
  · rw [if_pos h, if_pos h]
    exact ⟨fun e => absurd e.1 (by decide), fun e => by have := e.1; omega⟩
  · rw [if_neg h, if_neg h]
    rcases h6 (by omega) with rfl | rfl
    · rw [if_pos rfl]
      exact ⟨fun e => ⟨by omega, by decide⟩, fun e => ⟨rfl, by omega⟩⟩
    · exact ⟨fun e => absurd e.1 (by decide), fun e => absurd rfl e.2⟩
theorem oo_3 (q : Nat) (hq : q < 2) (a : Nat) (ha : a < 8) (d : Nat) (hd : d < 4) (h0 : 0 < d) (h6 : 6 ≤ a → d = 1 ∨ d = 2) : ((kdX a d = 3 ∧ ofX a = q) ↔ (a = 6 + q ∧ ¬ d &&& 2 = 0)) := by
  unfold kdX ofX
  by_cases h : a < 6
  · rw [if_pos h, if_pos h]
    exact ⟨fun e => absurd e.1 (by decide), fun e => by have := e.1; omega⟩
  · rw [if_neg h, if_neg h]
    rcases h6 (by omega) with rfl | rfl
    · rw [if_pos rfl]
      exact ⟨fun e => absurd e.1 (by decide), fun e => absurd rfl e.2⟩
    · exact ⟨fun e => ⟨by omega, by decide⟩, fun e => ⟨rfl, by omega⟩⟩
theorem x_opensF (G : oG) (σ : oT) (m : MS) (hO : OkD m) (ho : XMo m σ) (hz : ∀ o, o < 8 → has (q_ds m) o = false → σ.1 47 o = 0) {f : Nat} (hf : f < 6) : Mt G m_X_opensOf [.ref 37, .int 1, .int (nI f)] (enc σ) 0 0 (fun v h' => v = some (.int (nI (opn m f 3))) ∧ h' = enc σ) := by
  have h := x_opensOf G σ (nI 1) (nI f)
  rw [oo_eq hO ho hz (t := f) (g := 3) (by decide) (by decide) (by omega) (fun a d h1 h2 h3 _ => oo_1 f hf a h1 d h3 h2)] at h
  exact h
theorem x_opensR (G : oG) (σ : oT) (m : MS) (hO : OkD m) (ho : XMo m σ) (hz : ∀ o, o < 8 → has (q_ds m) o = false → σ.1 47 o = 0) {q : Nat} (hq : q < 2) : Mt G m_X_opensOf [.ref 37, .int 2, .int (nI q)] (enc σ) 0 0 (fun v h' => v = some (.int (nI (opn m (6 + q) 1))) ∧ h' = enc σ) := by
  have h := x_opensOf G σ (nI 2) (nI q)
  rw [oo_eq hO ho hz (t := 6 + q) (g := 1) (by decide) (by decide) (by omega) (fun a d h1 h2 h3 h4 => oo_2 q hq a h1 d h3 h2 h4)] at h
  exact h
theorem x_opensW (G : oG) (σ : oT) (m : MS) (hO : OkD m) (ho : XMo m σ) (hz : ∀ o, o < 8 → has (q_ds m) o = false → σ.1 47 o = 0) {q : Nat} (hq : q < 2) : Mt G m_X_opensOf [.ref 37, .int 3, .int (nI q)] (enc σ) 0 0 (fun v h' => v = some (.int (nI (opn m (6 + q) 2))) ∧ h' = enc σ) := by
  have h := x_opensOf G σ (nI 3) (nI q)
  rw [oo_eq hO ho hz (t := 6 + q) (g := 2) (by decide) (by decide) (by omega) (fun a d h1 h2 h3 h4 => oo_3 q hq a h1 d h3 h2 h4)] at h
  exact h
def nnX (nb : Nat → List Nat) (nf : Nat → Nat) (f : Nat) : Nat → Bool := fun n => !(nb n).isEmpty && decide (nf n = f)
theorem sl_cnt (nb : Nat → List Nat) (nf : Nat → Nat) (P : Nat × Nat → Bool) : ∀ N, (sl nb nf N).countP P = cnt (fun n => !(nb n).isEmpty && P (q_key (nb n), nf n)) N := by
  intro N
  induction N with
  | zero => rfl
  | succ N ih =>
    simp only [sl, cnt]
    by_cases h : nb N = []
    · simp [if_pos h, ih, h]
    · have h2 : (nb N).isEmpty = false := by cases hh : nb N with
        | nil => exact absurd hh h
        | cons _ _ => rfl
      simp [if_neg h, List.countP_cons, ih, h2]
theorem nn_nof {nb : Nat → List Nat} {nf : Nat → Nat} {l : List (Nat × Nat)} (h : (sl nb nf 8).Perm l) (f : Nat) : cnt (nnX nb nf f) 8 = nof l f := by
  rw [nof_countP, ← h.countP_eq, sl_cnt]
  rfl
theorem sl_mem {nb : Nat → List Nat} {nf : Nat → Nat} {n : Nat} (h : nb n ≠ []) : ∀ N, n < N → (q_key (nb n), nf n) ∈ sl nb nf N := by
  intro N
  induction N with
  | zero => intro h; omega
  | succ N ih =>
    intro hn
    unfold sl
    by_cases e : n = N
    · subst e
      rw [if_neg h]
      exact List.mem_cons_self
    · split
      · exact ih (by omega)
      · exact List.mem_cons_of_mem _ (ih (by omega))
theorem nf_lt {nb : Nat → List Nat} {nf : Nat → Nat} {l : List (Nat × Nat)} (hN : OkN l) (h : (sl nb nf 8).Perm l) {n : Nat} (h8 : n < 8) (hne : nb n ≠ []) : nf n < 6 := (hN.2.1 _ (h.mem_iff.mp (sl_mem hne 8 h8))).2.2
theorem xnn_loop (G : oG) (σ : oT) {nb : Nat → List Nat} {nf : Nat → Nat} {l : List (Nat × Nat)} (hN : OkN l) (hp : (sl nb nf 8).Perm l) (hx : XNm nb nf σ) {f : Nat} (hf : f < 6) (Post : oP) : ∀ k i c : Nat, i + k = 8 → Post (some (.int (nI (c + cntF (nnX nb nf f) i k)))) (enc σ) → Wp G m_X_namesOf Post 4 0 0 [(0, .ref 37), (1, .int (nI f)), (2, .int (nI c)), (3, .int (nI i))] [] (enc σ) := by
  intro k
  induction k with
  | zero =>
    intro i c hk hP
    have e : i = 8 := by omega
    subst e
    refine s_X_namesOf_4 _ _ _ _ _ ?_
    simp only [k_X_namesOf_4, o_iconst, o_lconst, o_iload, o_lload, o_aload, o_istore, o_lstore, o_astore, o_iinc, o_iadd, o_isub, o_imul, o_iand, o_ior, o_idiv, o_irem, o_lor, o_lushr, o_lshl, o_i2l, o_l2i, o_lcmp, o_dup, o_pop, o_dup2, o_ifeq, o_ifne, o_iflt, o_ifge, o_ifgt, o_ifle, o_icmpeq, o_icmpne, o_icmplt, o_icmpge, o_icmpgt, o_icmple, o_jmp, o_tsw, o_iret, o_zret, o_lret, o_vret, o_getf, o_putfI, o_putfR, o_iald, o_alen, o_lald, o_zald, o_iast, o_last, o_zast, o_aald, o_aast, o_new, o_newa, o_callS, o_callI, o_callV, o_objInit, o_mmax, o_mmin, o_lk, o_up1, o_up2, o_cl1, o_cl2, o_keep, o_c2, List.getElem?_cons_zero, List.getElem?_cons_succ, List.drop_zero, List.drop_succ_cons, List.take_zero, List.take_succ_cons, List.reverse_cons, List.reverse_nil, List.nil_append, List.cons_append, List.map_cons, List.map_nil, List.sum_cons, List.sum_nil, Value.category, List.length_cons, List.length_nil, List.set_cons_zero, List.set_cons_succ, Option.toList_some, Option.toList_none, lv_args, ↓reduceIte, Nat.reduceAdd, Nat.reduceSub, Nat.reduceMul, Nat.reduceEqDiff, Nat.reduceLeDiff, Nat.reduceLT, reduceCtorEq, Bool.false_eq_true, and_true, true_and, and_self, and_false, false_and, Nat.zero_add, Nat.le_refl, Nat.zero_le, true_or, or_true, not_true_eq_false, not_false_eq_true, forall_const, false_implies, implies_true, true_implies, Int32.reduceAdd, Int32.reduceLE, Int32.reduceLT, Int32.reduceSub, Int32.reduceMul, Int32.reduceToNatClampNeg, og_36, oi_36, ef_36_4, ef_36_19, ef_36_20, ef_36_21, ef_36_22, ef_36_23, og_37, oi_37, oq_37, es_37, og_38, oi_38, oq_38, es_38, og_39, oi_39, oq_39, es_39, og_40, oi_40, oq_40, es_40, og_41, oi_41, es_41, og_42, oi_42, oq_42, es_42, og_43, oi_43, oq_43, es_43, og_44, oi_44, oq_44, es_44, og_45, oi_45, oq_45, es_45, og_46, oi_46, oq_46, es_46, og_47, oi_47, oq_47, es_47, og_48, oi_48, oq_48, es_48, og_49, oi_49, oq_49, es_49, og_50, oi_50, oq_50, es_50, og_51, oi_51, es_51, og_52, oi_52, oq_52, es_52, og_53, oi_53, oq_53, es_53, og_54, oi_54, oq_54, es_54, og_55, oi_55, oq_55, es_55, og_56, oi_56, oq_56, es_56, og_57, oi_57, oq_57, es_57, og_58, oi_58, oq_58, es_58]
    exact ⟨fun _ => hP, fun q => absurd (nI_le (Nat.le_refl 8) (by decide)) q⟩
  | succ k ih =>
    intro i c hk hP
    have hi : i < 8 := by omega
    have hv : vp_in (nI i) 8 := vp_in_nI hi (by decide)
    obtain ⟨a1, a2, a3, a4, a5⟩ := hx i hi
    have no : nnX nb nf f i = false → Wp G m_X_namesOf Post 4 0 0 [(0, .ref 37), (1, .int (nI f)), (2, .int (nI c)), (3, .int (nI (i + 1)))] [] (enc σ) := fun h => by
      rw [cntF_f h] at hP
      exact ih (i + 1) c (by omega) hP
    refine s_X_namesOf_4 _ _ _ _ _ ?_
    have ec : nI c + 0 = nI c := by rw [show (0 : Int32) = nI 0 from rfl, nI_add]; rfl
    simp only [k_X_namesOf_4, o_iconst, o_lconst, o_iload, o_lload, o_aload, o_istore, o_lstore, o_astore, o_iinc, o_iadd, o_isub, o_imul, o_iand, o_ior, o_idiv, o_irem, o_lor, o_lushr, o_lshl, o_i2l, o_l2i, o_lcmp, o_dup, o_pop, o_dup2, o_ifeq, o_ifne, o_iflt, o_ifge, o_ifgt, o_ifle, o_icmpeq, o_icmpne, o_icmplt, o_icmpge, o_icmpgt, o_icmple, o_jmp, o_tsw, o_iret, o_zret, o_lret, o_vret, o_getf, o_putfI, o_putfR, o_iald, o_alen, o_lald, o_zald, o_iast, o_last, o_zast, o_aald, o_aast, o_new, o_newa, o_callS, o_callI, o_callV, o_objInit, o_mmax, o_mmin, o_lk, o_up1, o_up2, o_cl1, o_cl2, o_keep, o_c2, List.getElem?_cons_zero, List.getElem?_cons_succ, List.drop_zero, List.drop_succ_cons, List.take_zero, List.take_succ_cons, List.reverse_cons, List.reverse_nil, List.nil_append, List.cons_append, List.map_cons, List.map_nil, List.sum_cons, List.sum_nil, Value.category, List.length_cons, List.length_nil, List.set_cons_zero, List.set_cons_succ, Option.toList_some, Option.toList_none, lv_args, ↓reduceIte, Nat.reduceAdd, Nat.reduceSub, Nat.reduceMul, Nat.reduceEqDiff, Nat.reduceLeDiff, Nat.reduceLT, reduceCtorEq, Bool.false_eq_true, and_true, true_and, and_self, and_false, false_and, Nat.zero_add, Nat.le_refl, Nat.zero_le, true_or, or_true, not_true_eq_false, not_false_eq_true, forall_const, false_implies, implies_true, true_implies, Int32.reduceAdd, Int32.reduceLE, Int32.reduceLT, Int32.reduceSub, Int32.reduceMul, Int32.reduceToNatClampNeg, og_36, oi_36, ef_36_4, ef_36_19, ef_36_20, ef_36_21, ef_36_22, ef_36_23, og_37, oi_37, oq_37, es_37, og_38, oi_38, oq_38, es_38, og_39, oi_39, oq_39, es_39, og_40, oi_40, oq_40, es_40, og_41, oi_41, es_41, og_42, oi_42, oq_42, es_42, og_43, oi_43, oq_43, es_43, og_44, oi_44, oq_44, es_44, og_45, oi_45, oq_45, es_45, og_46, oi_46, oq_46, es_46, og_47, oi_47, oq_47, es_47, og_48, oi_48, oq_48, es_48, og_49, oi_49, oq_49, es_49, og_50, oi_50, oq_50, es_50, og_51, oi_51, es_51, og_52, oi_52, oq_52, es_52, og_53, oi_53, oq_53, es_53, og_54, oi_54, oq_54, es_54, og_55, oi_55, oq_55, es_55, og_56, oi_56, oq_56, es_56, og_57, oi_57, oq_57, es_57, og_58, oi_58, oq_58, es_58, nI_1, ec, nI_clamp (show i < 2 ^ 31 by omega), a3]
    have hl : (nI (nb i).length ≤ 0 ↔ (nb i).isEmpty = true) := by
      have h1 := nI_leI (a := (nb i).length) (b := 0) (by omega) (by decide)
      have h2 : (nI (nb i).length ≤ 0 ↔ (nb i).length ≤ 0) := h1
      rw [h2]
      cases nb i <;> simp
    refine ⟨fun q => absurd q (nI_ge (b := 8) hi (by decide)), fun _ => ⟨hv, fun q => ?_, fun q => ?_⟩⟩
    · exact no (by unfold nnX; rw [hl.mp q]; rfl)
    · have he : (nb i).isEmpty = false := Bool.eq_false_iff.mpr (fun h => q (hl.mpr h))
      have hne : nb i ≠ [] := fun h => by rw [h] at he; cases he
      have h6 := nf_lt hN hp hi hne
      rw [a5 hne]
      refine ⟨hv, fun q2 => ?_, fun q2 => ?_⟩
      · exact no (by unfold nnX; rw [decide_eq_false (fun h => q2 (by rw [h])), Bool.and_false])
      · have e2 : nf i = f := (nI_eq (by omega) (by omega)).mp q2
        have h : nnX nb nf f i = true := by unfold nnX; rw [he, decide_eq_true e2]; rfl
        rw [cntF_t h] at hP
        exact ih (i + 1) (c + 1) (by omega) hP
theorem x_namesOf (G : oG) (σ : oT) {l : List (Nat × Nat)} (hN : OkN l) (hx : XMn l σ) {f : Nat} (hf : f < 6) : Mt G m_X_namesOf [.ref 37, .int (nI f)] (enc σ) 0 0 (fun v h' => v = some (.int (nI (nof l f))) ∧ h' = enc σ) := by
  obtain ⟨nb, nf, hp, h⟩ := hx
  refine Mt.of (by decide) (Nat.le_of_ble_eq_true rfl) (s_X_namesOf_0 _ _ _ _ _ ?_)
  simp only [k_X_namesOf_0, o_iconst, o_lconst, o_iload, o_lload, o_aload, o_istore, o_lstore, o_astore, o_iinc, o_iadd, o_isub, o_imul, o_iand, o_ior, o_idiv, o_irem, o_lor, o_lushr, o_lshl, o_i2l, o_l2i, o_lcmp, o_dup, o_pop, o_dup2, o_ifeq, o_ifne, o_iflt, o_ifge, o_ifgt, o_ifle, o_icmpeq, o_icmpne, o_icmplt, o_icmpge, o_icmpgt, o_icmple, o_jmp, o_tsw, o_iret, o_zret, o_lret, o_vret, o_getf, o_putfI, o_putfR, o_iald, o_alen, o_lald, o_zald, o_iast, o_last, o_zast, o_aald, o_aast, o_new, o_newa, o_callS, o_callI, o_callV, o_objInit, o_mmax, o_mmin, o_lk, o_up1, o_up2, o_cl1, o_cl2, o_keep, o_c2, List.getElem?_cons_zero, List.getElem?_cons_succ, List.drop_zero, List.drop_succ_cons, List.take_zero, List.take_succ_cons, List.reverse_cons, List.reverse_nil, List.nil_append, List.cons_append, List.map_cons, List.map_nil, List.sum_cons, List.sum_nil, Value.category, List.length_cons, List.length_nil, List.set_cons_zero, List.set_cons_succ, Option.toList_some, Option.toList_none, lv_args, ↓reduceIte, Nat.reduceAdd, Nat.reduceSub, Nat.reduceMul, Nat.reduceEqDiff, Nat.reduceLeDiff, Nat.reduceLT, reduceCtorEq, Bool.false_eq_true, and_true, true_and, and_self, and_false, false_and, Nat.zero_add, Nat.le_refl, Nat.zero_le, true_or, or_true, not_true_eq_false, not_false_eq_true, forall_const, false_implies, implies_true, true_implies, Int32.reduceAdd, Int32.reduceLE, Int32.reduceLT, Int32.reduceSub, Int32.reduceMul, Int32.reduceToNatClampNeg]
  refine xnn_loop G σ hN hp h hf _ 8 0 0 (by decide) ⟨?_, rfl⟩
  have h2 := cntF_eq (nnX nb nf f) 8 0
  rw [← nn_nof hp f, h2]
  rfl
