/-! Scratch cells of the second side; a name is given to a place. -/
def frS (σ τ : oT) : Prop := (∀ k, k < 55 → τ.1 k = σ.1 k) ∧ τ.2.1 = σ.2.1 ∧ ∀ k j, ¬ (k = 36 ∧ j = 23) → τ.2.2 k j = σ.2.2 k j
theorem frS_r (σ : oT) : frS σ σ := ⟨fun _ _ => rfl, rfl, fun _ _ _ => rfl⟩
theorem frS_t {σ τ υ : oT} (h1 : frS σ τ) (h2 : frS τ υ) : frS σ υ := ⟨fun k hk => (h2.1 k hk).trans (h1.1 k hk), h2.2.1.trans h1.2.1, fun k j hk => (h2.2.2 k j hk).trans (h1.2.2 k j hk)⟩
theorem frS_I {σ τ : oT} {k : Nat} {g : Nat → Int32} (h : frS σ τ) (hk : 55 ≤ k) : frS σ (sI τ k g) := ⟨fun j hj => by rw [sI_1, if_neg (by omega)]; exact h.1 j hj, h.2⟩
theorem frS_F {σ τ : oT} {x : Int32} (h : frS σ τ) : frS σ (sF τ 36 23 x) := ⟨h.1, h.2.1, fun k j hk => by
  rw [sF_3]
  by_cases e : k = 36
  · rw [if_pos e, if_neg (fun e2 => hk ⟨e, e2⟩)]
    exact h.2.2 k j hk
  · rw [if_neg e]
    exact h.2.2 k j hk⟩
theorem frS_X {σ τ : oT} (h : frS σ τ) : frX σ τ := ⟨fun k hk => h.1 k (by omega), h.2.1, fun k hk => funext fun j => h.2.2 k j (fun e => by omega)⟩
theorem RMp_S {m : MS} {σ τ : oT} (h : RMp m σ) (hf : frS σ τ) : RMp m τ := by
  have a := hf.1
  unfold RMp XMg XMb XMe XMd XMo XMf XMq XMn XNm at h ⊢
  rw [hf.2.2 36 4 (by decide), a 37 (by decide), a 38 (by decide), a 39 (by decide), a 40 (by decide), a 41 (by decide), a 42 (by decide), a 43 (by decide), a 44 (by decide), a 45 (by decide), a 46 (by decide), a 47 (by decide), a 48 (by decide), a 49 (by decide), a 50 (by decide), a 51 (by decide), a 52 (by decide), a 53 (by decide), a 54 (by decide)]
  exact h
theorem XMz_S {m : MS} {σ τ : oT} (h : XMz m σ) (hf : frS σ τ) : XMz m τ := by
  have a := hf.1
  unfold XMz at h ⊢
  rw [a 41 (by decide), a 47 (by decide), a 51 (by decide)]
  exact h
theorem RM_S {m : MS} {σ τ : oT} (h : RM m σ) (hf : frS σ τ) : RM m τ := ⟨RMp_S h.1 hf, XMz_S h.2 hf⟩
theorem XNm_S {nb : Nat → List Nat} {nf : Nat → Nat} {σ τ : oT} (h : XNm nb nf σ) (hf : frS σ τ) : XNm nb nf τ := by
  unfold XNm at h ⊢
  rw [hf.1 44 (by decide), hf.1 45 (by decide), hf.1 46 (by decide)]
  exact h
/-- what string owes, once more -/
theorem x_str (G : oG) (σ : oT) (m : MS) (hO : OkM m) (hK : OkB m) (hg : XMg m σ) (hb : XMb m σ) {p w : Nat} (a : Int32) (hp : p < 3) (hw : w < 2) (hwho : σ.2.2 36 19 = nI p) : Mt G m_X_string [.ref 37, .int (nI w), .int a] (enc σ) 0 0 (XS σ w (q_str m p a)) := x_string G σ m hO hK hg hb a hp hw hwho
theorem XS_u {σ : oT} {w : Nat} (hw : w < 2) {r : Option (List Nat)} {v : Option Value} {h' : oH} (h : XS σ w r v h') : v = some (.int (bz r.isSome)) ∧ ∃ τ : oT, h' = enc τ ∧ frS σ τ ∧ τ.2 = σ.2 ∧ (∀ bs, r = some bs → TX τ w bs) ∧ ∀ (w' : Nat) (bs : List Nat), w' ≠ w → bs.length ≤ 7 → TX σ w' bs → TX τ w' bs := by
  obtain ⟨h1, g, t, h2, h3, h4, h5⟩ := h
  refine ⟨h1, _, h2, frS_I (frS_I (frS_r σ) (by decide)) (by decide), rfl, fun bs e => h5 bs e, fun w' bs hne h7 hT => ?_⟩
  refine ⟨?_, fun j hj => ?_⟩
  · show t w' = _
    rw [h4 w' hne]
    exact hT.1
  · show g (8 * w' + j) = _
    rw [h3 (8 * w' + j) (fun i hi e => hne (by omega))]
    exact hT.2 j hj
theorem giv_loop (G : oG) (σ : oT) {n w : Nat} {bs : List Nat} (hn : n < 8) (hw : w < 2) (h7 : bs.length ≤ 7) (ht : TX σ w bs) (Post : oP) (hP : ∀ g : Nat → Int32, (∀ j, j < bs.length → g (8 * n + j) = nI (bs.getD j 0)) → (∀ x, (∀ j, j < 8 → x ≠ 8 * n + j) → g x = σ.1 45 x) → Post none (enc (sI σ 45 g))) : ∀ k i : Nat, i + k = bs.length → ∀ g : Nat → Int32, (∀ j, j < i → g (8 * n + j) = nI (bs.getD j 0)) → (∀ x, (∀ j, j < 8 → x ≠ 8 * n + j) → g x = σ.1 45 x) → Wp G m_X_give Post 22 0 0 [(0, .ref 37), (1, .int (nI n)), (2, .int (nI w)), (4, .int (nI i))] [] (enc (sI σ 45 g)) := by
  intro k
  induction k with
  | zero =>
    intro i hk g h1 h2
    have e : i = bs.length := by omega
    subst e
    refine s_X_give_22 _ _ _ _ _ ?_
    simp only [k_X_give_22, o_iconst, o_lconst, o_iload, o_lload, o_aload, o_istore, o_lstore, o_astore, o_iinc, o_iadd, o_isub, o_imul, o_iand, o_ior, o_idiv, o_irem, o_lor, o_lushr, o_lshl, o_i2l, o_l2i, o_lcmp, o_dup, o_pop, o_dup2, o_ifeq, o_ifne, o_iflt, o_ifge, o_ifgt, o_ifle, o_icmpeq, o_icmpne, o_icmplt, o_icmpge, o_icmpgt, o_icmple, o_jmp, o_tsw, o_iret, o_zret, o_lret, o_vret, o_getf, o_putfI, o_putfR, o_iald, o_alen, o_lald, o_zald, o_iast, o_last, o_zast, o_aald, o_aast, o_new, o_newa, o_callS, o_callI, o_callV, o_objInit, o_mmax, o_mmin, o_lk, o_up1, o_up2, o_cl1, o_cl2, o_keep, o_c2, List.getElem?_cons_zero, List.getElem?_cons_succ, List.drop_zero, List.drop_succ_cons, List.take_zero, List.take_succ_cons, List.reverse_cons, List.reverse_nil, List.nil_append, List.cons_append, List.map_cons, List.map_nil, List.sum_cons, List.sum_nil, Value.category, List.length_cons, List.length_nil, List.set_cons_zero, List.set_cons_succ, Option.toList_some, Option.toList_none, lv_args, ↓reduceIte, Nat.reduceAdd, Nat.reduceSub, Nat.reduceMul, Nat.reduceEqDiff, Nat.reduceLeDiff, Nat.reduceLT, reduceCtorEq, Bool.false_eq_true, and_true, true_and, and_self, and_false, false_and, Nat.zero_add, Nat.le_refl, Nat.zero_le, true_or, or_true, not_true_eq_false, not_false_eq_true, forall_const, false_implies, implies_true, true_implies, Int32.reduceAdd, Int32.reduceLE, Int32.reduceLT, Int32.reduceSub, Int32.reduceMul, Int32.reduceToNatClampNeg, og_36, oi_36, ef_36_4, ef_36_19, ef_36_20, ef_36_21, ef_36_22, ef_36_23, og_37, oi_37, oq_37, es_37, og_38, oi_38, oq_38, es_38, og_39, oi_39, oq_39, es_39, og_40, oi_40, oq_40, es_40, og_41, oi_41, es_41, og_42, oi_42, oq_42, es_42, og_43, oi_43, oq_43, es_43, og_44, oi_44, oq_44, es_44, og_45, oi_45, oq_45, es_45, og_46, oi_46, oq_46, es_46, og_47, oi_47, oq_47, es_47, og_48, oi_48, oq_48, es_48, og_49, oi_49, oq_49, es_49, og_50, oi_50, oq_50, es_50, og_51, oi_51, es_51, og_52, oi_52, oq_52, es_52, og_53, oi_53, oq_53, es_53, og_54, oi_54, oq_54, es_54, og_55, oi_55, oq_55, es_55, og_56, oi_56, oq_56, es_56, og_57, oi_57, oq_57, es_57, og_58, oi_58, oq_58, es_58, sI_1, sI_2, sL_1, sL_2, sL_3, sF_1, sF_2, sF_3, nI_clamp (show w < 2 ^ 31 by omega), ht.1]
    exact ⟨vp_in_nI hw (by decide), fun _ => hP g h1 h2, fun q => absurd (nI_le (Nat.le_refl _) (by omega)) q⟩
  | succ k ih =>
    intro i hk g h1 h2
    have hi : i < bs.length := by omega
    refine s_X_give_22 _ _ _ _ _ ?_
    simp only [k_X_give_22, o_iconst, o_lconst, o_iload, o_lload, o_aload, o_istore, o_lstore, o_astore, o_iinc, o_iadd, o_isub, o_imul, o_iand, o_ior, o_idiv, o_irem, o_lor, o_lushr, o_lshl, o_i2l, o_l2i, o_lcmp, o_dup, o_pop, o_dup2, o_ifeq, o_ifne, o_iflt, o_ifge, o_ifgt, o_ifle, o_icmpeq, o_icmpne, o_icmplt, o_icmpge, o_icmpgt, o_icmple, o_jmp, o_tsw, o_iret, o_zret, o_lret, o_vret, o_getf, o_putfI, o_putfR, o_iald, o_alen, o_lald, o_zald, o_iast, o_last, o_zast, o_aald, o_aast, o_new, o_newa, o_callS, o_callI, o_callV, o_objInit, o_mmax, o_mmin, o_lk, o_up1, o_up2, o_cl1, o_cl2, o_keep, o_c2, List.getElem?_cons_zero, List.getElem?_cons_succ, List.drop_zero, List.drop_succ_cons, List.take_zero, List.take_succ_cons, List.reverse_cons, List.reverse_nil, List.nil_append, List.cons_append, List.map_cons, List.map_nil, List.sum_cons, List.sum_nil, Value.category, List.length_cons, List.length_nil, List.set_cons_zero, List.set_cons_succ, Option.toList_some, Option.toList_none, lv_args, ↓reduceIte, Nat.reduceAdd, Nat.reduceSub, Nat.reduceMul, Nat.reduceEqDiff, Nat.reduceLeDiff, Nat.reduceLT, reduceCtorEq, Bool.false_eq_true, and_true, true_and, and_self, and_false, false_and, Nat.zero_add, Nat.le_refl, Nat.zero_le, true_or, or_true, not_true_eq_false, not_false_eq_true, forall_const, false_implies, implies_true, true_implies, Int32.reduceAdd, Int32.reduceLE, Int32.reduceLT, Int32.reduceSub, Int32.reduceMul, Int32.reduceToNatClampNeg, og_36, oi_36, ef_36_4, ef_36_19, ef_36_20, ef_36_21, ef_36_22, ef_36_23, og_37, oi_37, oq_37, es_37, og_38, oi_38, oq_38, es_38, og_39, oi_39, oq_39, es_39, og_40, oi_40, oq_40, es_40, og_41, oi_41, es_41, og_42, oi_42, oq_42, es_42, og_43, oi_43, oq_43, es_43, og_44, oi_44, oq_44, es_44, og_45, oi_45, oq_45, es_45, og_46, oi_46, oq_46, es_46, og_47, oi_47, oq_47, es_47, og_48, oi_48, oq_48, es_48, og_49, oi_49, oq_49, es_49, og_50, oi_50, oq_50, es_50, og_51, oi_51, es_51, og_52, oi_52, oq_52, es_52, og_53, oi_53, oq_53, es_53, og_54, oi_54, oq_54, es_54, og_55, oi_55, oq_55, es_55, og_56, oi_56, oq_56, es_56, og_57, oi_57, oq_57, es_57, og_58, oi_58, oq_58, es_58, sI_1, sI_2, sL_1, sL_2, sL_3, sF_1, sF_2, sF_3, sI_sI, nI_clamp (show w < 2 ^ 31 by omega), ht.1, ix8, nI_1, nI_clamp (show 8 * n + i < 2 ^ 31 by omega), nI_clamp (show 8 * w + i < 2 ^ 31 by omega), ht.2 i hi]
    refine ⟨vp_in_nI hw (by decide), fun q => absurd q (nI_ge hi (by omega)), fun _ => ⟨vp_in_nI (by omega) (by decide), vp_in_nI (by omega) (by decide), ?_⟩⟩
    refine ih (i + 1) (by omega) _ (fun j hj => ?_) (fun x hx => ?_)
    · simp only [upd]
      by_cases e : j = i
      · rw [e, if_pos rfl]
      · rw [if_neg (by omega)]
        exact h1 j (by omega)
    · simp only [upd]
      rw [if_neg (hx i (by omega))]
      exact h2 x hx
/-- the places after a name was given -/
theorem XNm_give {nb : Nat → List Nat} {nf : Nat → Nat} {σ : oT} (hx : XNm nb nf σ) {n f : Nat} {bs : List Nat} (h7 : bs.length ≤ 7) (hb : ∀ b ∈ bs, 0 < b ∧ b < 256) {g : Nat → Int32} (h1 : ∀ j, j < bs.length → g (8 * n + j) = nI (bs.getD j 0)) (h2 : ∀ x, (∀ j, j < 8 → x ≠ 8 * n + j) → g x = σ.1 45 x) : XNm (va_up nb n bs) (va_up nf n f) (sI (sI (sI σ 44 (upd (σ.1 44) n (nI bs.length))) 46 (upd (σ.1 46) n (nI f))) 45 g) := by
  intro k hk
  show (va_up nb n bs k).length ≤ 7 ∧ (∀ b ∈ va_up nb n bs k, 0 < b ∧ b < 256) ∧ upd (σ.1 44) n (nI bs.length) k = nI (va_up nb n bs k).length ∧ (∀ i, i < (va_up nb n bs k).length → g (8 * k + i) = nI ((va_up nb n bs k).getD i 0)) ∧ (va_up nb n bs k ≠ [] → upd (σ.1 46) n (nI f) k = nI (va_up nf n f k))
  by_cases e : k = n
  · subst e
    have e1 : va_up nb k bs k = bs := by simp [va_up]
    have e2 : va_up nf k f k = f := by simp [va_up]
    rw [e1, e2]
    refine ⟨h7, hb, by simp [upd], h1, fun _ => by simp [upd]⟩
  · obtain ⟨a1, a2, a3, a4, a5⟩ := hx k hk
    have e1 : va_up nb n bs k = nb k := by simp [va_up, e]
    have e2 : va_up nf n f k = nf k := by simp [va_up, e]
    rw [e1, e2]
    refine ⟨a1, a2, ?_, fun i hi => ?_, fun hne => ?_⟩
    · simp only [upd]; rw [if_neg e]; exact a3
    · rw [h2 (8 * k + i) (fun j hj e3 => e (by omega))]; exact a4 i hi
    · simp only [upd]; rw [if_neg e]; exact a5 hne
theorem XNm_zero {nb : Nat → List Nat} {nf : Nat → Nat} {σ : oT} (hx : XNm nb nf σ) {n : Nat} : XNm (va_up nb n []) nf (sI σ 44 (upd (σ.1 44) n 0)) := by
  intro k hk
  show (va_up nb n [] k).length ≤ 7 ∧ (∀ b ∈ va_up nb n [] k, 0 < b ∧ b < 256) ∧ upd (σ.1 44) n 0 k = nI (va_up nb n [] k).length ∧ (∀ i, i < (va_up nb n [] k).length → σ.1 45 (8 * k + i) = nI ((va_up nb n [] k).getD i 0)) ∧ (va_up nb n [] k ≠ [] → σ.1 46 k = nI (nf k))
  by_cases e : k = n
  · subst e
    have e1 : va_up nb k [] k = [] := by simp [va_up]
    rw [e1]
    refine ⟨by decide, fun b hb => (by cases hb), ?_, fun i hi => absurd hi (Nat.not_lt_zero _), fun h => absurd rfl h⟩
    show (if k = k then (0 : Int32) else σ.1 44 k) = nI 0
    rw [if_pos rfl]
    rfl
  · obtain ⟨a1, a2, a3, a4, a5⟩ := hx k hk
    have e1 : va_up nb n [] k = nb k := by simp [va_up, e]
    rw [e1]
    refine ⟨a1, a2, ?_, a4, a5⟩
    simp only [upd]; rw [if_neg e]; exact a3
theorem x_give (G : oG) (σ : oT) {nb : Nat → List Nat} {nf : Nat → Nat} (hx : XNm nb nf σ) {n w f : Nat} {bs : List Nat} (hn : n < 8) (hw : w < 2) (h7 : bs.length ≤ 7) (hb : ∀ b ∈ bs, 0 < b ∧ b < 256) (ht : TX σ w bs) : Mt G m_X_give [.ref 37, .int (nI n), .int (nI w), .int (nI f)] (enc σ) 0 0 (fun v h' => v = none ∧ ∃ τ : oT, h' = enc τ ∧ XNm (va_up nb n bs) (va_up nf n f) τ ∧ (∀ k, k ≠ 44 → k ≠ 45 → k ≠ 46 → τ.1 k = σ.1 k) ∧ τ.2 = σ.2) := by
  refine Mt.of (by decide) (Nat.le_of_ble_eq_true rfl) (s_X_give_0 _ _ _ _ _ ?_)
  simp only [k_X_give_0, o_iconst, o_lconst, o_iload, o_lload, o_aload, o_istore, o_lstore, o_astore, o_iinc, o_iadd, o_isub, o_imul, o_iand, o_ior, o_idiv, o_irem, o_lor, o_lushr, o_lshl, o_i2l, o_l2i, o_lcmp, o_dup, o_pop, o_dup2, o_ifeq, o_ifne, o_iflt, o_ifge, o_ifgt, o_ifle, o_icmpeq, o_icmpne, o_icmplt, o_icmpge, o_icmpgt, o_icmple, o_jmp, o_tsw, o_iret, o_zret, o_lret, o_vret, o_getf, o_putfI, o_putfR, o_iald, o_alen, o_lald, o_zald, o_iast, o_last, o_zast, o_aald, o_aast, o_new, o_newa, o_callS, o_callI, o_callV, o_objInit, o_mmax, o_mmin, o_lk, o_up1, o_up2, o_cl1, o_cl2, o_keep, o_c2, List.getElem?_cons_zero, List.getElem?_cons_succ, List.drop_zero, List.drop_succ_cons, List.take_zero, List.take_succ_cons, List.reverse_cons, List.reverse_nil, List.nil_append, List.cons_append, List.map_cons, List.map_nil, List.sum_cons, List.sum_nil, Value.category, List.length_cons, List.length_nil, List.set_cons_zero, List.set_cons_succ, Option.toList_some, Option.toList_none, lv_args, ↓reduceIte, Nat.reduceAdd, Nat.reduceSub, Nat.reduceMul, Nat.reduceEqDiff, Nat.reduceLeDiff, Nat.reduceLT, reduceCtorEq, Bool.false_eq_true, and_true, true_and, and_self, and_false, false_and, Nat.zero_add, Nat.le_refl, Nat.zero_le, true_or, or_true, not_true_eq_false, not_false_eq_true, forall_const, false_implies, implies_true, true_implies, Int32.reduceAdd, Int32.reduceLE, Int32.reduceLT, Int32.reduceSub, Int32.reduceMul, Int32.reduceToNatClampNeg, og_36, oi_36, ef_36_4, ef_36_19, ef_36_20, ef_36_21, ef_36_22, ef_36_23, og_37, oi_37, oq_37, es_37, og_38, oi_38, oq_38, es_38, og_39, oi_39, oq_39, es_39, og_40, oi_40, oq_40, es_40, og_41, oi_41, es_41, og_42, oi_42, oq_42, es_42, og_43, oi_43, oq_43, es_43, og_44, oi_44, oq_44, es_44, og_45, oi_45, oq_45, es_45, og_46, oi_46, oq_46, es_46, og_47, oi_47, oq_47, es_47, og_48, oi_48, oq_48, es_48, og_49, oi_49, oq_49, es_49, og_50, oi_50, oq_50, es_50, og_51, oi_51, es_51, og_52, oi_52, oq_52, es_52, og_53, oi_53, oq_53, es_53, og_54, oi_54, oq_54, es_54, og_55, oi_55, oq_55, es_55, og_56, oi_56, oq_56, es_56, og_57, oi_57, oq_57, es_57, og_58, oi_58, oq_58, es_58, sI_1, sI_2, sL_1, sL_2, sL_3, sF_1, sF_2, sF_3, nI_clamp (show w < 2 ^ 31 by omega), nI_clamp (show n < 2 ^ 31 by omega), ht.1]
  refine ⟨vp_in_nI hw (by decide), vp_in_nI hn (by decide), vp_in_nI hn (by decide), ?_⟩
  have h := giv_loop G (sI (sI σ 44 (upd (σ.1 44) n (nI bs.length))) 46 (upd (σ.1 46) n (nI f))) hn hw h7 ht (fun v h' => v = none ∧ ∃ τ : oT, h' = enc τ ∧ XNm (va_up nb n bs) (va_up nf n f) τ ∧ (∀ k, k ≠ 44 → k ≠ 45 → k ≠ 46 → τ.1 k = σ.1 k) ∧ τ.2 = σ.2) (fun g h1 h2 => ⟨rfl, _, rfl, XNm_give hx h7 hb h1 h2, fun k h3 h4 h5 => by
    rw [sI_1, if_neg h4, sI_1, if_neg h5, sI_1, if_neg h3], rfl⟩) bs.length 0 (by omega) (σ.1 45) (fun j hj => absurd hj (Nat.not_lt_zero _)) (fun _ _ => rfl)
  have e : sI (sI (sI σ 44 (upd (σ.1 44) n (nI bs.length))) 46 (upd (σ.1 46) n (nI f))) 45 (σ.1 45) = sI (sI σ 44 (upd (σ.1 44) n (nI bs.length))) 46 (upd (σ.1 46) n (nI f)) := sI_id (sI (sI σ 44 (upd (σ.1 44) n (nI bs.length))) 46 (upd (σ.1 46) n (nI f))) 45
  rw [e] at h
  exact h
def oc (nb : Nat → List Nat) (nf : Nat → Nat) (n : Nat) : List (Nat × Nat) := if nb n = [] then [] else [(q_key (nb n), nf n)]
theorem sl_s (nb : Nat → List Nat) (nf : Nat → Nat) (N : Nat) : sl nb nf (N + 1) = oc nb nf N ++ sl nb nf N := by
  simp only [sl, oc]
  split <;> rfl
theorem sl_congr {nb nb' : Nat → List Nat} {nf nf' : Nat → Nat} : ∀ N, (∀ k, k < N → nb k = nb' k ∧ nf k = nf' k) → sl nb nf N = sl nb' nf' N := by
  intro N
  induction N with
  | zero => intro _; rfl
  | succ N ih =>
    intro h
    rw [sl_s, sl_s, ih (fun k hk => h k (by omega))]
    unfold oc
    rw [(h N (by omega)).1, (h N (by omega)).2]
theorem sl_up {nb : Nat → List Nat} {nf : Nat → Nat} {n f : Nat} {bs : List Nat} : ∀ N, n < N → (oc nb nf n ++ sl (va_up nb n bs) (va_up nf n f) N).Perm (oc (va_up nb n bs) (va_up nf n f) n ++ sl nb nf N) := by
  intro N
  induction N with
  | zero => intro h; omega
  | succ N ih =>
    intro h
    rw [sl_s, sl_s]
    by_cases e : n = N
    · subst e
      rw [sl_congr (nb := va_up nb n bs) (nb' := nb) (nf := va_up nf n f) (nf' := nf) n (fun k hk => by simp [va_up, Nat.ne_of_lt hk]), ← List.append_assoc, ← List.append_assoc]
      exact List.Perm.append_right _ List.perm_append_comm
    · have e1 : oc (va_up nb n bs) (va_up nf n f) N = oc nb nf N := by
        have v1 : va_up nb n bs N = nb N := by simp [va_up, Ne.symm e]
        have v2 : va_up nf n f N = nf N := by simp [va_up, Ne.symm e]
        unfold oc
        rw [v1, v2]
      rw [e1]
      have h1 := ih (by omega)
      have h2 := h1.append_left (oc nb nf N)
      have h3 : ∀ (A B C : List (Nat × Nat)), (A ++ (B ++ C)).Perm (B ++ (A ++ C)) := fun A B C => by
        rw [← List.append_assoc, ← List.append_assoc]
        exact List.Perm.append_right _ List.perm_append_comm
      exact (h3 _ _ _).trans (h2.trans (h3 _ _ _))
theorem oc_n {nb : Nat → List Nat} {nf : Nat → Nat} {n : Nat} (h : nb n = []) : oc nb nf n = [] := by
  unfold oc
  rw [if_pos h]
theorem oc_c {nb : Nat → List Nat} {nf : Nat → Nat} {n : Nat} {bs : List Nat} (h : nb n = bs) (hne : bs ≠ []) : oc nb nf n = [(q_key bs, nf n)] := by
  unfold oc
  rw [if_neg (by rw [h]; exact hne), h]
theorem va_s {α : Type} (f : Nat → α) (n : Nat) (v : α) : va_up f n v n = v := by simp [va_up]
theorem ins_perm (k f : Nat) (l : List (Nat × Nat)) : (q_ins k f l).Perm ((k, f) :: l) := by
  induction l with
  | nil => exact List.Perm.refl _
  | cons x l ih =>
    unfold q_ins
    split
    · exact (ih.cons x).trans (List.Perm.swap _ _ _)
    · exact List.Perm.refl _
theorem era_perm {l : List (Nat × Nat)} : ∀ {i : Nat}, i < l.length → (l.getD i (0, 0) :: l.eraseIdx i).Perm l := by
  induction l with
  | nil => intro i hi; exact absurd hi (Nat.not_lt_zero _)
  | cons x l ih =>
    intro i hi
    cases i with
    | zero => exact List.Perm.refl _
    | succ i =>
      have h := ih (i := i) (by simpa using hi)
      exact (List.Perm.swap _ _ _).trans (h.cons x)
