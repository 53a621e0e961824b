/-! The second side reads a name from memory. -/
theorem q_rd_at {m : MS} {p : Nat} : ∀ (k a : Nat) (bs : List Nat), q_rd m p k a = some bs → ∀ j, j < bs.length → bs.getD j 0 = q_ld m p (a + j) := by
  intro k
  induction k with
  | zero => intro a bs h; cases h
  | succ k ih =>
    intro a bs h j hj
    unfold q_rd at h
    split at h
    · split at h
      · cases h; exact absurd hj (Nat.not_lt_zero _)
      · cases hr : q_rd m p k (a + 1) with
        | none => rw [hr] at h; cases h
        | some r =>
          rw [hr] at h
          cases h
          cases j with
          | zero => rfl
          | succ j =>
            have := ih (a + 1) r hr j (by simpa using hj)
            rw [show a + (j + 1) = a + 1 + j by omega]
            exact this
    · cases h
theorem plX_t {m : MS} {p a g : Nat} (ha : a < 2 ^ 31) (h : q_ok m p a g = true) : plX m p (nI a) g = nI (q_loc m p a) := by
  unfold plX
  rw [tN_nI ha, h, decide_eq_true (nI_pos ha), Bool.and_self, if_pos rfl]
theorem plX_f {m : MS} {p a g : Nat} (ha : a < 2 ^ 31) (h : q_ok m p a g = false) : plX m p (nI a) g = -1 := by
  unfold plX
  rw [tN_nI ha, h, Bool.and_false, if_neg (by decide)]
theorem ix8 (p q : Nat) : (8 : Int32) * nI p + nI q = nI (8 * p + q) := by rw [show (8 : Int32) = nI 8 from rfl, pk_mul, nI_add]
def txF (σ : oT) (w : Nat) (g : Nat → Int32) : Prop := ∀ x, (∀ j, j < 8 → x ≠ 8 * w + j) → g x = σ.1 57 x
theorem str_loop (G : oG) (σ : oT) (m : MS) (hO : OkM m) (hK : OkB m) (hg : XMg m σ) (hb : XMb m σ) {p w b : Nat} (hp : p < 3) (hw : w < 2) (hb2 : b < 256) (hwho : σ.2.2 36 19 = nI p) (Post : oP) : ∀ k i : Nat, i + k = 8 → ∀ g : Nat → Int32, txF σ w g → (∀ j, j < i → g (8 * w + j) = nI (q_ld m p (b + j))) →
    (∀ g' : Nat → Int32, q_rd m p k (b + i) = none → txF σ w g' → Post (some (.int 0)) (enc (sI σ 57 g'))) →
    (∀ (g' : Nat → Int32) (bs : List Nat), q_rd m p k (b + i) = some bs → txF σ w g' → (∀ j, j < i + bs.length → g' (8 * w + j) = nI (q_ld m p (b + j))) → Post (some (.int 1)) (enc (sI (sI σ 57 g') 58 (upd (σ.1 58) w (nI (i + bs.length)))))) →
    Wp G m_X_string Post 2 0 0 [(0, .ref 37), (1, .int (nI w)), (2, .int (nI b)), (3, .int (nI i))] [] (enc (sI σ 57 g)) := by
  intro k
  induction k with
  | zero =>
    intro i hk g hf hi hF hT
    have e : i = 8 := by omega
    subst e
    refine s_X_string_2 _ _ _ _ _ ?_
    simp only [k_X_string_2, o_iconst, o_lconst, o_iload, o_lload, o_aload, o_istore, o_lstore, o_astore, o_iinc, o_iadd, o_isub, o_imul, o_iand, o_ior, o_idiv, o_irem, o_lor, o_lushr, o_lshl, o_i2l, o_l2i, o_lcmp, o_dup, o_pop, o_dup2, o_ifeq, o_ifne, o_iflt, o_ifge, o_ifgt, o_ifle, o_icmpeq, o_icmpne, o_icmplt, o_icmpge, o_icmpgt, o_icmple, o_jmp, o_tsw, o_iret, o_zret, o_lret, o_vret, o_getf, o_putfI, o_putfR, o_iald, o_alen, o_lald, o_zald, o_iast, o_last, o_zast, o_aald, o_aast, o_new, o_newa, o_callS, o_callI, o_callV, o_objInit, o_mmax, o_mmin, o_lk, o_up1, o_up2, o_cl1, o_cl2, o_keep, o_c2, List.getElem?_cons_zero, List.getElem?_cons_succ, List.drop_zero, List.drop_succ_cons, List.take_zero, List.take_succ_cons, List.reverse_cons, List.reverse_nil, List.nil_append, List.cons_append, List.map_cons, List.map_nil, List.sum_cons, List.sum_nil, Value.category, List.length_cons, List.length_nil, List.set_cons_zero, List.set_cons_succ, Option.toList_some, Option.toList_none, lv_args, ↓reduceIte, Nat.reduceAdd, Nat.reduceSub, Nat.reduceMul, Nat.reduceEqDiff, Nat.reduceLeDiff, Nat.reduceLT, reduceCtorEq, Bool.false_eq_true, and_true, true_and, and_self, and_false, false_and, Nat.zero_add, Nat.le_refl, Nat.zero_le, true_or, or_true, not_true_eq_false, not_false_eq_true, forall_const, false_implies, implies_true, true_implies, Int32.reduceAdd, Int32.reduceLE, Int32.reduceLT, Int32.reduceSub, Int32.reduceMul, Int32.reduceToNatClampNeg, og_36, oi_36, ef_36_4, ef_36_19, ef_36_20, ef_36_21, ef_36_22, ef_36_23, og_37, oi_37, oq_37, es_37, og_38, oi_38, oq_38, es_38, og_39, oi_39, oq_39, es_39, og_40, oi_40, oq_40, es_40, og_41, oi_41, es_41, og_42, oi_42, oq_42, es_42, og_43, oi_43, oq_43, es_43, og_44, oi_44, oq_44, es_44, og_45, oi_45, oq_45, es_45, og_46, oi_46, oq_46, es_46, og_47, oi_47, oq_47, es_47, og_48, oi_48, oq_48, es_48, og_49, oi_49, oq_49, es_49, og_50, oi_50, oq_50, es_50, og_51, oi_51, es_51, og_52, oi_52, oq_52, es_52, og_53, oi_53, oq_53, es_53, og_54, oi_54, oq_54, es_54, og_55, oi_55, oq_55, es_55, og_56, oi_56, oq_56, es_56, og_57, oi_57, oq_57, es_57, og_58, oi_58, oq_58, es_58]
    exact ⟨fun _ => hF g rfl hf, fun q => absurd (nI_le (Nat.le_refl 8) (by decide)) q⟩
  | succ k ih =>
    intro i hk g hf hi hF hT
    have hi8 : i < 8 := by omega
    refine s_X_string_2 _ _ _ _ _ ?_
    simp only [k_X_string_2, o_iconst, o_lconst, o_iload, o_lload, o_aload, o_istore, o_lstore, o_astore, o_iinc, o_iadd, o_isub, o_imul, o_iand, o_ior, o_idiv, o_irem, o_lor, o_lushr, o_lshl, o_i2l, o_l2i, o_lcmp, o_dup, o_pop, o_dup2, o_ifeq, o_ifne, o_iflt, o_ifge, o_ifgt, o_ifle, o_icmpeq, o_icmpne, o_icmplt, o_icmpge, o_icmpgt, o_icmple, o_jmp, o_tsw, o_iret, o_zret, o_lret, o_vret, o_getf, o_putfI, o_putfR, o_iald, o_alen, o_lald, o_zald, o_iast, o_last, o_zast, o_aald, o_aast, o_new, o_newa, o_callS, o_callI, o_callV, o_objInit, o_mmax, o_mmin, o_lk, o_up1, o_up2, o_cl1, o_cl2, o_keep, o_c2, List.getElem?_cons_zero, List.getElem?_cons_succ, List.drop_zero, List.drop_succ_cons, List.take_zero, List.take_succ_cons, List.reverse_cons, List.reverse_nil, List.nil_append, List.cons_append, List.map_cons, List.map_nil, List.sum_cons, List.sum_nil, Value.category, List.length_cons, List.length_nil, List.set_cons_zero, List.set_cons_succ, Option.toList_some, Option.toList_none, lv_args, ↓reduceIte, Nat.reduceAdd, Nat.reduceSub, Nat.reduceMul, Nat.reduceEqDiff, Nat.reduceLeDiff, Nat.reduceLT, reduceCtorEq, Bool.false_eq_true, and_true, true_and, and_self, and_false, false_and, Nat.zero_add, Nat.le_refl, Nat.zero_le, true_or, or_true, not_true_eq_false, not_false_eq_true, forall_const, false_implies, implies_true, true_implies, Int32.reduceAdd, Int32.reduceLE, Int32.reduceLT, Int32.reduceSub, Int32.reduceMul, Int32.reduceToNatClampNeg, og_36, oi_36, ef_36_4, ef_36_19, ef_36_20, ef_36_21, ef_36_22, ef_36_23, og_37, oi_37, oq_37, es_37, og_38, oi_38, oq_38, es_38, og_39, oi_39, oq_39, es_39, og_40, oi_40, oq_40, es_40, og_41, oi_41, es_41, og_42, oi_42, oq_42, es_42, og_43, oi_43, oq_43, es_43, og_44, oi_44, oq_44, es_44, og_45, oi_45, oq_45, es_45, og_46, oi_46, oq_46, es_46, og_47, oi_47, oq_47, es_47, og_48, oi_48, oq_48, es_48, og_49, oi_49, oq_49, es_49, og_50, oi_50, oq_50, es_50, og_51, oi_51, es_51, og_52, oi_52, oq_52, es_52, og_53, oi_53, oq_53, es_53, og_54, oi_54, oq_54, es_54, og_55, oi_55, oq_55, es_55, og_56, oi_56, oq_56, es_56, og_57, oi_57, oq_57, es_57, og_58, oi_58, oq_58, es_58, nI_add]
    refine ⟨fun q => absurd q (nI_ge (b := 8) hi8 (by decide)), fun _ => ⟨fun _ => ?_, fun q => absurd (nI_le (b := 255) (show b ≤ 255 by omega) (by decide)) q⟩⟩
    refine o_use (x_place G (sI σ 57 g) m hO hg (nI (b + i)) hp hwho (Or.inl rfl)) ?_
    rintro v h' ⟨rfl, rfl⟩
    refine s_X_string_27 _ _ _ _ _ ?_
    cases hok : q_ok m p (b + i) 1 with
    | false =>
      rw [plX_f (by omega) hok]
      simp only [k_X_string_27, o_iconst, o_lconst, o_iload, o_lload, o_aload, o_istore, o_lstore, o_astore, o_iinc, o_iadd, o_isub, o_imul, o_iand, o_ior, o_idiv, o_irem, o_lor, o_lushr, o_lshl, o_i2l, o_l2i, o_lcmp, o_dup, o_pop, o_dup2, o_ifeq, o_ifne, o_iflt, o_ifge, o_ifgt, o_ifle, o_icmpeq, o_icmpne, o_icmplt, o_icmpge, o_icmpgt, o_icmple, o_jmp, o_tsw, o_iret, o_zret, o_lret, o_vret, o_getf, o_putfI, o_putfR, o_iald, o_alen, o_lald, o_zald, o_iast, o_last, o_zast, o_aald, o_aast, o_new, o_newa, o_callS, o_callI, o_callV, o_objInit, o_mmax, o_mmin, o_lk, o_up1, o_up2, o_cl1, o_cl2, o_keep, o_c2, List.getElem?_cons_zero, List.getElem?_cons_succ, List.drop_zero, List.drop_succ_cons, List.take_zero, List.take_succ_cons, List.reverse_cons, List.reverse_nil, List.nil_append, List.cons_append, List.map_cons, List.map_nil, List.sum_cons, List.sum_nil, Value.category, List.length_cons, List.length_nil, List.set_cons_zero, List.set_cons_succ, Option.toList_some, Option.toList_none, lv_args, ↓reduceIte, Nat.reduceAdd, Nat.reduceSub, Nat.reduceMul, Nat.reduceEqDiff, Nat.reduceLeDiff, Nat.reduceLT, reduceCtorEq, Bool.false_eq_true, and_true, true_and, and_self, and_false, false_and, Nat.zero_add, Nat.le_refl, Nat.zero_le, true_or, or_true, not_true_eq_false, not_false_eq_true, forall_const, false_implies, implies_true, true_implies, Int32.reduceAdd, Int32.reduceLE, Int32.reduceLT, Int32.reduceSub, Int32.reduceMul, Int32.reduceToNatClampNeg]
      refine hF g ?_ hf
      unfold q_rd
      rw [hok]
      rfl
    | true =>
      have hl := q_loc_lt hO p (b + i)
      rw [plX_t (by omega) hok]
      simp only [k_X_string_27, o_iconst, o_lconst, o_iload, o_lload, o_aload, o_istore, o_lstore, o_astore, o_iinc, o_iadd, o_isub, o_imul, o_iand, o_ior, o_idiv, o_irem, o_lor, o_lushr, o_lshl, o_i2l, o_l2i, o_lcmp, o_dup, o_pop, o_dup2, o_ifeq, o_ifne, o_iflt, o_ifge, o_ifgt, o_ifle, o_icmpeq, o_icmpne, o_icmplt, o_icmpge, o_icmpgt, o_icmple, o_jmp, o_tsw, o_iret, o_zret, o_lret, o_vret, o_getf, o_putfI, o_putfR, o_iald, o_alen, o_lald, o_zald, o_iast, o_last, o_zast, o_aald, o_aast, o_new, o_newa, o_callS, o_callI, o_callV, o_objInit, o_mmax, o_mmin, o_lk, o_up1, o_up2, o_cl1, o_cl2, o_keep, o_c2, List.getElem?_cons_zero, List.getElem?_cons_succ, List.drop_zero, List.drop_succ_cons, List.take_zero, List.take_succ_cons, List.reverse_cons, List.reverse_nil, List.nil_append, List.cons_append, List.map_cons, List.map_nil, List.sum_cons, List.sum_nil, Value.category, List.length_cons, List.length_nil, List.set_cons_zero, List.set_cons_succ, Option.toList_some, Option.toList_none, lv_args, ↓reduceIte, Nat.reduceAdd, Nat.reduceSub, Nat.reduceMul, Nat.reduceEqDiff, Nat.reduceLeDiff, Nat.reduceLT, reduceCtorEq, Bool.false_eq_true, and_true, true_and, and_self, and_false, false_and, Nat.zero_add, Nat.le_refl, Nat.zero_le, true_or, or_true, not_true_eq_false, not_false_eq_true, forall_const, false_implies, implies_true, true_implies, Int32.reduceAdd, Int32.reduceLE, Int32.reduceLT, Int32.reduceSub, Int32.reduceMul, Int32.reduceToNatClampNeg]
      refine ⟨fun _ => ?_, fun q => absurd (nI_pos' (by omega)) q⟩
      refine s_X_string_36 _ _ _ _ _ ?_
      have hmm : σ.1 37 (q_loc m p (b + i)) = nI (q_ld m p (b + i)) := hb _ hl
      have hlt := hK _ hl
      have hv1 : vp_in (nI (q_loc m p (b + i))) 320 := vp_in_nI hl (by decide)
      have hv2 : vp_in (nI (8 * w + i)) 16 := vp_in_nI (by omega) (by decide)
      have hf2 : txF σ w (upd g (8 * w + i) (nI (q_ld m p (b + i)))) := fun x hx => by
        simp only [upd]
        rw [if_neg (hx i hi8)]
        exact hf x hx
      have hi2 : ∀ j, j < i + 1 → upd g (8 * w + i) (nI (q_ld m p (b + i))) (8 * w + j) = nI (q_ld m p (b + j)) := fun j hj => by
        simp only [upd]
        by_cases e : j = i
        · rw [e, if_pos rfl]
        · rw [if_neg (by omega)]
          exact hi j (by omega)
      simp only [k_X_string_36, o_iconst, o_lconst, o_iload, o_lload, o_aload, o_istore, o_lstore, o_astore, o_iinc, o_iadd, o_isub, o_imul, o_iand, o_ior, o_idiv, o_irem, o_lor, o_lushr, o_lshl, o_i2l, o_l2i, o_lcmp, o_dup, o_pop, o_dup2, o_ifeq, o_ifne, o_iflt, o_ifge, o_ifgt, o_ifle, o_icmpeq, o_icmpne, o_icmplt, o_icmpge, o_icmpgt, o_icmple, o_jmp, o_tsw, o_iret, o_zret, o_lret, o_vret, o_getf, o_putfI, o_putfR, o_iald, o_alen, o_lald, o_zald, o_iast, o_last, o_zast, o_aald, o_aast, o_new, o_newa, o_callS, o_callI, o_callV, o_objInit, o_mmax, o_mmin, o_lk, o_up1, o_up2, o_cl1, o_cl2, o_keep, o_c2, List.getElem?_cons_zero, List.getElem?_cons_succ, List.drop_zero, List.drop_succ_cons, List.take_zero, List.take_succ_cons, List.reverse_cons, List.reverse_nil, List.nil_append, List.cons_append, List.map_cons, List.map_nil, List.sum_cons, List.sum_nil, Value.category, List.length_cons, List.length_nil, List.set_cons_zero, List.set_cons_succ, Option.toList_some, Option.toList_none, lv_args, ↓reduceIte, Nat.reduceAdd, Nat.reduceSub, Nat.reduceMul, Nat.reduceEqDiff, Nat.reduceLeDiff, Nat.reduceLT, reduceCtorEq, Bool.false_eq_true, and_true, true_and, and_self, and_false, false_and, Nat.zero_add, Nat.le_refl, Nat.zero_le, true_or, or_true, not_true_eq_false, not_false_eq_true, forall_const, false_implies, implies_true, true_implies, Int32.reduceAdd, Int32.reduceLE, Int32.reduceLT, Int32.reduceSub, Int32.reduceMul, Int32.reduceToNatClampNeg, og_36, oi_36, ef_36_4, ef_36_19, ef_36_20, ef_36_21, ef_36_22, ef_36_23, og_37, oi_37, oq_37, es_37, og_38, oi_38, oq_38, es_38, og_39, oi_39, oq_39, es_39, og_40, oi_40, oq_40, es_40, og_41, oi_41, es_41, og_42, oi_42, oq_42, es_42, og_43, oi_43, oq_43, es_43, og_44, oi_44, oq_44, es_44, og_45, oi_45, oq_45, es_45, og_46, oi_46, oq_46, es_46, og_47, oi_47, oq_47, es_47, og_48, oi_48, oq_48, es_48, og_49, oi_49, oq_49, es_49, og_50, oi_50, oq_50, es_50, og_51, oi_51, es_51, og_52, oi_52, oq_52, es_52, og_53, oi_53, oq_53, es_53, og_54, oi_54, oq_54, es_54, og_55, oi_55, oq_55, es_55, og_56, oi_56, oq_56, es_56, og_57, oi_57, oq_57, es_57, og_58, oi_58, oq_58, es_58, sI_1, sI_2, sL_1, sL_2, sL_3, sF_1, sF_2, sF_3, sI_sI, ix8, nI_1, nI_clamp (show q_loc m p (b + i) < 2 ^ 31 by omega), nI_clamp (show 8 * w + i < 2 ^ 31 by omega), nI_clamp (show w < 2 ^ 31 by omega), hmm]
      refine ⟨hv1, hv2, hv1, fun q => ?_, fun q => ⟨vp_in_nI hw (by decide), ?_⟩⟩
      · have hne : ¬ q_ld m p (b + i) = 0 := fun h => q (by rw [h]; rfl)
        refine ih (i + 1) (by omega) _ hf2 hi2 (fun g' h1 h2 => hF g' ?_ h2) (fun g' bs h1 h2 h3 => ?_)
        · unfold q_rd
          rw [hok, if_pos rfl, if_neg hne, show b + i + 1 = b + (i + 1) by omega, h1]
          rfl
        · have h4 := hT g' (q_ld m p (b + i) :: bs) (by
            unfold q_rd
            rw [hok, if_pos rfl, if_neg hne, show b + i + 1 = b + (i + 1) by omega, h1]
            rfl) h2 (fun j hj => h3 j (by rw [List.length_cons] at hj; omega))
          rw [List.length_cons, show i + (bs.length + 1) = i + 1 + bs.length by omega] at h4
          exact h4
      · have he : q_ld m p (b + i) = 0 := (nI_z (by
          have : q_ld m p (b + i) < 256 := hlt
          omega)).mp q
        have h4 := hT _ [] (by
          unfold q_rd
          rw [hok, if_pos rfl, if_pos he]) hf2 (fun j hj => hi2 j (by
            have : j < i + 0 := hj
            omega))
        exact h4
