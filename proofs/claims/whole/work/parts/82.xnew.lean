/-! A new thing that a descriptor stands for, and OPEN, of the second side. -/
abbrev nwT (σ : oT) (a b c : Int32) (k o : Nat) : oT := sI (sI (sI (sI (sI σ 47 (upd (σ.1 47) o a)) 48 (upd (σ.1 48) o b)) 49 (upd (σ.1 49) o 0)) 50 (upd (σ.1 50) o c)) 54 (upd (σ.1 54) k (nI (o + 1)))
theorem fr_nw {σ : oT} {a b c : Int32} {k o : Nat} : frX σ (nwT σ a b c k o) := frX_sI (frX_sI (frX_sI (frX_sI (frX_sI (frX_r σ) (by decide)) (by decide)) (by decide)) (by decide)) (by decide)
theorem x_newOpen (G : oG) (σ : oT) (m : MS) (ho : XMo m σ) (hz : ∀ o, o < 8 → has (q_ds m) o = false → σ.1 47 o = 0) {p d o : Nat} {a b c : Int32} (hp : p < 3) (hw : σ.2.2 36 19 = nI p) (hd : d < 5) (hf : freeO m 0 = some o) : Mt G m_X_newOpen [.ref 37, .int (nI d), .int a, .int b, .int c] (enc σ) 0 0 (fun v h' => v = some (.int (nI d)) ∧ h' = enc (nwT σ a b c (p * 5 + d) o)) := by
  obtain ⟨-, o8, -⟩ := freeO_some (by decide) hf
  refine Mt.of (by decide) (Nat.le_of_ble_eq_true rfl) (s_X_newOpen_0 _ _ _ _ _ ?_)
  simp only [k_X_newOpen_0, o_iconst, o_lconst, o_iload, o_lload, o_aload, o_istore, o_lstore, o_astore, o_iinc, o_iadd, o_isub, o_imul, o_iand, o_ior, o_idiv, o_irem, o_lor, o_lushr, o_lshl, o_i2l, o_l2i, o_lcmp, o_dup, o_pop, o_dup2, o_ifeq, o_ifne, o_iflt, o_ifge, o_ifgt, o_ifle, o_icmpeq, o_icmpne, o_icmplt, o_icmpge, o_icmpgt, o_icmple, o_jmp, o_tsw, o_iret, o_zret, o_lret, o_vret, o_getf, o_putfI, o_putfR, o_iald, o_alen, o_lald, o_zald, o_iast, o_last, o_zast, o_aald, o_aast, o_new, o_newa, o_callS, o_callI, o_callV, o_objInit, o_mmax, o_mmin, o_lk, o_up1, o_up2, o_cl1, o_cl2, o_keep, o_c2, List.getElem?_cons_zero, List.getElem?_cons_succ, List.drop_zero, List.drop_succ_cons, List.take_zero, List.take_succ_cons, List.reverse_cons, List.reverse_nil, List.nil_append, List.cons_append, List.map_cons, List.map_nil, List.sum_cons, List.sum_nil, Value.category, List.length_cons, List.length_nil, List.set_cons_zero, List.set_cons_succ, Option.toList_some, Option.toList_none, lv_args, ↓reduceIte, Nat.reduceAdd, Nat.reduceSub, Nat.reduceMul, Nat.reduceEqDiff, Nat.reduceLeDiff, Nat.reduceLT, reduceCtorEq, Bool.false_eq_true, and_true, true_and, and_self, and_false, false_and, Nat.zero_add, Nat.le_refl, Nat.zero_le, true_or, or_true, not_true_eq_false, not_false_eq_true, forall_const, false_implies, implies_true, true_implies, Int32.reduceAdd, Int32.reduceLE, Int32.reduceLT, Int32.reduceSub, Int32.reduceMul, Int32.reduceToNatClampNeg, og_36, oi_36, ef_36_4, ef_36_19, ef_36_20, ef_36_21, ef_36_22, ef_36_23, og_37, oi_37, oq_37, es_37, og_38, oi_38, oq_38, es_38, og_39, oi_39, oq_39, es_39, og_40, oi_40, oq_40, es_40, og_41, oi_41, es_41, og_42, oi_42, oq_42, es_42, og_43, oi_43, oq_43, es_43, og_44, oi_44, oq_44, es_44, og_45, oi_45, oq_45, es_45, og_46, oi_46, oq_46, es_46, og_47, oi_47, oq_47, es_47, og_48, oi_48, oq_48, es_48, og_49, oi_49, oq_49, es_49, og_50, oi_50, oq_50, es_50, og_51, oi_51, es_51, og_52, oi_52, oq_52, es_52, og_53, oi_53, oq_53, es_53, og_54, oi_54, oq_54, es_54, og_55, oi_55, oq_55, es_55, og_56, oi_56, oq_56, es_56, og_57, oi_57, oq_57, es_57, og_58, oi_58, oq_58, es_58]
  refine o_use (x_freeOpen G σ m ho hz) ?_
  rintro v h' ⟨rfl, rfl⟩
  rw [hf]
  refine s_X_newOpen_4 _ _ _ _ _ ?_
  have hv : vp_in (nI o) 8 := vp_in_nI o8 (by decide)
  simp only [k_X_newOpen_4, o_iconst, o_lconst, o_iload, o_lload, o_aload, o_istore, o_lstore, o_astore, o_iinc, o_iadd, o_isub, o_imul, o_iand, o_ior, o_idiv, o_irem, o_lor, o_lushr, o_lshl, o_i2l, o_l2i, o_lcmp, o_dup, o_pop, o_dup2, o_ifeq, o_ifne, o_iflt, o_ifge, o_ifgt, o_ifle, o_icmpeq, o_icmpne, o_icmplt, o_icmpge, o_icmpgt, o_icmple, o_jmp, o_tsw, o_iret, o_zret, o_lret, o_vret, o_getf, o_putfI, o_putfR, o_iald, o_alen, o_lald, o_zald, o_iast, o_last, o_zast, o_aald, o_aast, o_new, o_newa, o_callS, o_callI, o_callV, o_objInit, o_mmax, o_mmin, o_lk, o_up1, o_up2, o_cl1, o_cl2, o_keep, o_c2, List.getElem?_cons_zero, List.getElem?_cons_succ, List.drop_zero, List.drop_succ_cons, List.take_zero, List.take_succ_cons, List.reverse_cons, List.reverse_nil, List.nil_append, List.cons_append, List.map_cons, List.map_nil, List.sum_cons, List.sum_nil, Value.category, List.length_cons, List.length_nil, List.set_cons_zero, List.set_cons_succ, Option.toList_some, Option.toList_none, lv_args, ↓reduceIte, Nat.reduceAdd, Nat.reduceSub, Nat.reduceMul, Nat.reduceEqDiff, Nat.reduceLeDiff, Nat.reduceLT, reduceCtorEq, Bool.false_eq_true, and_true, true_and, and_self, and_false, false_and, Nat.zero_add, Nat.le_refl, Nat.zero_le, true_or, or_true, not_true_eq_false, not_false_eq_true, forall_const, false_implies, implies_true, true_implies, Int32.reduceAdd, Int32.reduceLE, Int32.reduceLT, Int32.reduceSub, Int32.reduceMul, Int32.reduceToNatClampNeg, og_36, oi_36, ef_36_4, ef_36_19, ef_36_20, ef_36_21, ef_36_22, ef_36_23, og_37, oi_37, oq_37, es_37, og_38, oi_38, oq_38, es_38, og_39, oi_39, oq_39, es_39, og_40, oi_40, oq_40, es_40, og_41, oi_41, es_41, og_42, oi_42, oq_42, es_42, og_43, oi_43, oq_43, es_43, og_44, oi_44, oq_44, es_44, og_45, oi_45, oq_45, es_45, og_46, oi_46, oq_46, es_46, og_47, oi_47, oq_47, es_47, og_48, oi_48, oq_48, es_48, og_49, oi_49, oq_49, es_49, og_50, oi_50, oq_50, es_50, og_51, oi_51, es_51, og_52, oi_52, oq_52, es_52, og_53, oi_53, oq_53, es_53, og_54, oi_54, oq_54, es_54, og_55, oi_55, oq_55, es_55, og_56, oi_56, oq_56, es_56, og_57, oi_57, oq_57, es_57, og_58, oi_58, oq_58, es_58, sI_1, sI_2, sL_1, sL_2, sL_3, sF_1, sF_2, sF_3, oi_som, hw, ix5, nI_1, nI_clamp (show o < 2 ^ 31 by omega), nI_clamp (show p * 5 + d < 2 ^ 31 by omega)]
  exact ⟨hv, hv, hv, hv, vp_in_nI (by omega) (by decide)⟩
def fX (m : MS) (σ : oT) (f : Nat) : Prop := σ.1 41 f = 1 ∧ σ.1 42 f = nI (q_sz m f) ∧ ∀ i, i < q_sz m f → σ.1 43 (24 * f + i) = nI (q_dat m f i)
def qX (m : MS) (σ : oT) (q : Nat) : Prop := σ.1 51 q = 1 ∧ σ.1 52 q = nI (q_hl m q) ∧ ∀ i, i < q_hl m q → σ.1 53 (8 * q + i) = nI (q_pb m q i)
theorem RMp_mk {m : MS} {σ : oT} {k o t d : Nat} {c : Int32} (h : RMp m σ) (hk : k < 15) (h0 : q_ds m k = 0) (hc : t < 6 → c = nI d) (hf : t < 6 → fX m σ t) (hq : ∀ q, 6 + q = t → qX m σ q) : RMp (q_mk m k o t d) (nwT σ (nI (kdX t d)) (nI (ofX t)) c k o) := by
  refine ⟨h.1, h.2.1, h.2.2.1, h.2.2.2.1, h.2.2.2.2.1, ?_, ?_, ?_, ?_⟩
  · intro j hj
    show upd (σ.1 54) k (nI (o + 1)) j = nI (va_up (q_ds m) k (o + 1) j)
    simp only [upd, va_up]
    by_cases e : j = k
    · rw [if_pos e, if_pos e]
    · rw [if_neg e, if_neg e]; exact h.2.2.2.2.2.1 j hj
  · intro x hx hh
    show upd (σ.1 47) o (nI (kdX t d)) x = nI (kdX (va_up (q_tg m) o t x) (va_up (q_md m) o d x)) ∧ upd (σ.1 48) o (nI (ofX t)) x = nI (ofX (va_up (q_tg m) o t x)) ∧ upd (σ.1 49) o 0 x = nI (va_up (q_ps m) o 0 x) ∧ (va_up (q_tg m) o t x < 6 → upd (σ.1 50) o c x = nI (va_up (q_md m) o d x))
    by_cases e : x = o
    · subst e
      simp only [va_s]
      have u : ∀ (f : Nat → Int32) (y : Int32), upd f x y x = y := fun f y => by simp [upd]
      rw [u, u, u, u]
      exact ⟨rfl, rfl, rfl, hc⟩
    · have u : ∀ (f : Nat → Int32) (y : Int32), upd f o y x = f x := fun f y => by simp [upd, e]
      have w : ∀ (f : Nat → Nat) (y : Nat), va_up f o y x = f x := fun f y => by simp [va_up, e]
      rw [u, u, u, u, w, w, w]
      refine h.2.2.2.2.2.2.1 x hx ?_
      have e1 : has (q_ds (q_mk m k o t d)) x = has (q_ds m) x := has_at hk h0 e
      rw [← e1]
      exact hh
  · intro f hf6 hh
    have key : fX m σ f := by
      rcases fex_mk hk h0 hh with e | e
      · exact h.2.2.2.2.2.2.2.1 f hf6 e
      · subst e; exact hf hf6
    exact key
  · intro q hq2 hh
    have key : qX m σ q := by
      rcases pex_mk hk h0 hh with e | e
      · exact h.2.2.2.2.2.2.2.2 q hq2 e
      · exact hq q e
    exact key
theorem RMp_sz0 {m : MS} {σ : oT} {f : Nat} (h : RMp m σ) : RMp (q_ssz m (va_up (q_sz m) f 0)) (sI σ 42 (upd (σ.1 42) f 0)) := by
  refine ⟨h.1, h.2.1, h.2.2.1, h.2.2.2.1, h.2.2.2.2.1, h.2.2.2.2.2.1, h.2.2.2.2.2.2.1, fun j hj hh => ?_, h.2.2.2.2.2.2.2.2⟩
  obtain ⟨e1, e2, e3⟩ := h.2.2.2.2.2.2.2.1 j hj hh
  show σ.1 41 j = 1 ∧ upd (σ.1 42) f 0 j = nI (va_up (q_sz m) f 0 j) ∧ ∀ i, i < va_up (q_sz m) f 0 j → σ.1 43 (24 * j + i) = nI (q_dat m j i)
  simp only [upd, va_up]
  by_cases e : j = f
  · rw [if_pos e, if_pos e]
    exact ⟨e1, rfl, fun i hi => absurd hi (Nat.not_lt_zero _)⟩
  · rw [if_neg e, if_neg e]
    exact ⟨e1, e2, e3⟩
theorem op_171 (G : oG) (σ τ : oT) (m : MS) (hR : RMp m τ) (hz : ∀ o, o < 8 → has (q_ds m) o = false → τ.1 47 o = 0) (hfr : frX σ τ) {p d o n f b : Nat} (hp : p < 3) (hw : τ.2.2 36 19 = nI p) (hb1 : τ.2.2 36 21 = nI b) (hb : b < 16) (hd : d < 5) (h0 : q_ds m (p * 5 + d) = 0) (hf : freeO m 0 = some o) (hn : n < 8) (h46 : τ.1 46 n = nI f) (f6 : f < 6) (hfx : fex m f = true) : Wp G m_X_open (XP σ (if b / 8 % 2 = 0 then q_opn m p d o f (nI b) else q_opn (q_ssz m (va_up (q_sz m) f 0)) p d o f (nI b))) 171 0 0 [(0, .ref 37), (1, .int (nI n)), (2, .int (nI d))] [] (enc τ) := by
  obtain ⟨m0, -, m2, -⟩ := mb3 b hb
  refine s_X_open_171 _ _ _ _ _ ?_
  have e1 : (1 : Int32) = nI (kdX f (b % 4)) := by
    unfold kdX
    rw [if_pos f6]
    rfl
  have e2 : nI f = nI (ofX f) := by
    unfold ofX
    rw [if_pos f6]
  simp only [k_X_open_171, o_iconst, o_lconst, o_iload, o_lload, o_aload, o_istore, o_lstore, o_astore, o_iinc, o_iadd, o_isub, o_imul, o_iand, o_ior, o_idiv, o_irem, o_lor, o_lushr, o_lshl, o_i2l, o_l2i, o_lcmp, o_dup, o_pop, o_dup2, o_ifeq, o_ifne, o_iflt, o_ifge, o_ifgt, o_ifle, o_icmpeq, o_icmpne, o_icmplt, o_icmpge, o_icmpgt, o_icmple, o_jmp, o_tsw, o_iret, o_zret, o_lret, o_vret, o_getf, o_putfI, o_putfR, o_iald, o_alen, o_lald, o_zald, o_iast, o_last, o_zast, o_aald, o_aast, o_new, o_newa, o_callS, o_callI, o_callV, o_objInit, o_mmax, o_mmin, o_lk, o_up1, o_up2, o_cl1, o_cl2, o_keep, o_c2, List.getElem?_cons_zero, List.getElem?_cons_succ, List.drop_zero, List.drop_succ_cons, List.take_zero, List.take_succ_cons, List.reverse_cons, List.reverse_nil, List.nil_append, List.cons_append, List.map_cons, List.map_nil, List.sum_cons, List.sum_nil, Value.category, List.length_cons, List.length_nil, List.set_cons_zero, List.set_cons_succ, Option.toList_some, Option.toList_none, lv_args, ↓reduceIte, Nat.reduceAdd, Nat.reduceSub, Nat.reduceMul, Nat.reduceEqDiff, Nat.reduceLeDiff, Nat.reduceLT, reduceCtorEq, Bool.false_eq_true, and_true, true_and, and_self, and_false, false_and, Nat.zero_add, Nat.le_refl, Nat.zero_le, true_or, or_true, not_true_eq_false, not_false_eq_true, forall_const, false_implies, implies_true, true_implies, Int32.reduceAdd, Int32.reduceLE, Int32.reduceLT, Int32.reduceSub, Int32.reduceMul, Int32.reduceToNatClampNeg, og_36, oi_36, ef_36_4, ef_36_19, ef_36_20, ef_36_21, ef_36_22, ef_36_23, og_37, oi_37, oq_37, es_37, og_38, oi_38, oq_38, es_38, og_39, oi_39, oq_39, es_39, og_40, oi_40, oq_40, es_40, og_41, oi_41, es_41, og_42, oi_42, oq_42, es_42, og_43, oi_43, oq_43, es_43, og_44, oi_44, oq_44, es_44, og_45, oi_45, oq_45, es_45, og_46, oi_46, oq_46, es_46, og_47, oi_47, oq_47, es_47, og_48, oi_48, oq_48, es_48, og_49, oi_49, oq_49, es_49, og_50, oi_50, oq_50, es_50, og_51, oi_51, es_51, og_52, oi_52, oq_52, es_52, og_53, oi_53, oq_53, es_53, og_54, oi_54, oq_54, es_54, og_55, oi_55, oq_55, es_55, og_56, oi_56, oq_56, es_56, og_57, oi_57, oq_57, es_57, og_58, oi_58, oq_58, es_58, sI_1, sI_2, sL_1, sL_2, sL_3, sF_1, sF_2, sF_3, hb1, m2, nI_clamp (show n < 2 ^ 31 by omega), h46, nI_clamp (show f < 2 ^ 31 by omega), m0]
  refine ⟨fun q8 => ⟨vp_in_nI hn (by decide), ?_⟩, fun q8 => ⟨vp_in_nI hn (by decide), vp_in_nI f6 (by decide), vp_in_nI hn (by decide), ?_⟩⟩
  · rw [if_pos q8]
    refine o_use (x_newOpen G τ m hR.2.2.2.2.2.2.1 hz (d := d) (a := 1) (b := nI f) (c := nI (b % 4)) hp hw hd hf) ?_
    rintro v h' ⟨rfl, rfl⟩
    refine s_X_open_211 _ _ _ _ _ ?_
    simp only [k_X_open_211, o_iconst, o_lconst, o_iload, o_lload, o_aload, o_istore, o_lstore, o_astore, o_iinc, o_iadd, o_isub, o_imul, o_iand, o_ior, o_idiv, o_irem, o_lor, o_lushr, o_lshl, o_i2l, o_l2i, o_lcmp, o_dup, o_pop, o_dup2, o_ifeq, o_ifne, o_iflt, o_ifge, o_ifgt, o_ifle, o_icmpeq, o_icmpne, o_icmplt, o_icmpge, o_icmpgt, o_icmple, o_jmp, o_tsw, o_iret, o_zret, o_lret, o_vret, o_getf, o_putfI, o_putfR, o_iald, o_alen, o_lald, o_zald, o_iast, o_last, o_zast, o_aald, o_aast, o_new, o_newa, o_callS, o_callI, o_callV, o_objInit, o_mmax, o_mmin, o_lk, o_up1, o_up2, o_cl1, o_cl2, o_keep, o_c2, List.getElem?_cons_zero, List.getElem?_cons_succ, List.drop_zero, List.drop_succ_cons, List.take_zero, List.take_succ_cons, List.reverse_cons, List.reverse_nil, List.nil_append, List.cons_append, List.map_cons, List.map_nil, List.sum_cons, List.sum_nil, Value.category, List.length_cons, List.length_nil, List.set_cons_zero, List.set_cons_succ, Option.toList_some, Option.toList_none, lv_args, ↓reduceIte, Nat.reduceAdd, Nat.reduceSub, Nat.reduceMul, Nat.reduceEqDiff, Nat.reduceLeDiff, Nat.reduceLT, reduceCtorEq, Bool.false_eq_true, and_true, true_and, and_self, and_false, false_and, Nat.zero_add, Nat.le_refl, Nat.zero_le, true_or, or_true, not_true_eq_false, not_false_eq_true, forall_const, false_implies, implies_true, true_implies, Int32.reduceAdd, Int32.reduceLE, Int32.reduceLT, Int32.reduceSub, Int32.reduceMul, Int32.reduceToNatClampNeg]
    unfold q_opn
    rw [tN_nI (show b < 2 ^ 31 by omega)]
    have h := RMp_mk (k := p * 5 + d) (o := o) (t := f) (d := b % 4) (c := nI (b % 4)) hR (by omega) h0 (fun _ => rfl) (fun _ => hR.2.2.2.2.2.2.2.1 f f6 hfx) (fun q hq => by omega)
    rw [← e1, ← e2] at h
    exact XP.mk h (frX_t hfr fr_nw)
  · rw [if_neg q8]
    have hR1 := RMp_sz0 (f := f) hR
    refine o_use (x_newOpen G (sI τ 42 (upd (τ.1 42) f 0)) (q_ssz m (va_up (q_sz m) f 0)) hR1.2.2.2.2.2.2.1 hz (d := d) (a := 1) (b := nI f) (c := nI (b % 4)) hp hw hd hf) ?_
    rintro v h' ⟨rfl, rfl⟩
    refine s_X_open_211 _ _ _ _ _ ?_
    simp only [k_X_open_211, o_iconst, o_lconst, o_iload, o_lload, o_aload, o_istore, o_lstore, o_astore, o_iinc, o_iadd, o_isub, o_imul, o_iand, o_ior, o_idiv, o_irem, o_lor, o_lushr, o_lshl, o_i2l, o_l2i, o_lcmp, o_dup, o_pop, o_dup2, o_ifeq, o_ifne, o_iflt, o_ifge, o_ifgt, o_ifle, o_icmpeq, o_icmpne, o_icmplt, o_icmpge, o_icmpgt, o_icmple, o_jmp, o_tsw, o_iret, o_zret, o_lret, o_vret, o_getf, o_putfI, o_putfR, o_iald, o_alen, o_lald, o_zald, o_iast, o_last, o_zast, o_aald, o_aast, o_new, o_newa, o_callS, o_callI, o_callV, o_objInit, o_mmax, o_mmin, o_lk, o_up1, o_up2, o_cl1, o_cl2, o_keep, o_c2, List.getElem?_cons_zero, List.getElem?_cons_succ, List.drop_zero, List.drop_succ_cons, List.take_zero, List.take_succ_cons, List.reverse_cons, List.reverse_nil, List.nil_append, List.cons_append, List.map_cons, List.map_nil, List.sum_cons, List.sum_nil, Value.category, List.length_cons, List.length_nil, List.set_cons_zero, List.set_cons_succ, Option.toList_some, Option.toList_none, lv_args, ↓reduceIte, Nat.reduceAdd, Nat.reduceSub, Nat.reduceMul, Nat.reduceEqDiff, Nat.reduceLeDiff, Nat.reduceLT, reduceCtorEq, Bool.false_eq_true, and_true, true_and, and_self, and_false, false_and, Nat.zero_add, Nat.le_refl, Nat.zero_le, true_or, or_true, not_true_eq_false, not_false_eq_true, forall_const, false_implies, implies_true, true_implies, Int32.reduceAdd, Int32.reduceLE, Int32.reduceLT, Int32.reduceSub, Int32.reduceMul, Int32.reduceToNatClampNeg]
    unfold q_opn
    rw [tN_nI (show b < 2 ^ 31 by omega)]
    have h := RMp_mk (k := p * 5 + d) (o := o) (t := f) (d := b % 4) (c := nI (b % 4)) hR1 (by omega) h0 (fun _ => rfl) (fun _ => hR1.2.2.2.2.2.2.2.1 f f6 hfx) (fun q hq => by omega)
    rw [← e1, ← e2] at h
    exact XP.mk h (frX_t (frX_t hfr (frX_sI (frX_r τ) (by decide))) fr_nw)
/-- a new file with its name -/
theorem RMp_nf {m : MS} {τ υ : oT} {f k : Nat} (h : RMp m τ) (h1 : ∀ j, j ≠ 44 → j ≠ 45 → j ≠ 46 → υ.1 j = (sI (sI τ 41 (upd (τ.1 41) f 1)) 42 (upd (τ.1 42) f 0)).1 j) (h2 : υ.2 = τ.2) (hn : XMn (q_ins k f (q_nm m)) υ) : RMp (q_ssz (q_snm m (q_ins k f (q_nm m))) (va_up (q_sz m) f 0)) υ := by
  have r : ∀ j, j ≠ 44 → j ≠ 45 → j ≠ 46 → j ≠ 41 → j ≠ 42 → υ.1 j = τ.1 j := fun j a b c d e => by rw [h1 j a b c, sI_1, if_neg e, sI_1, if_neg d]
  refine ⟨?_, ?_, ?_, ?_, hn, ?_, ?_, ?_, ?_⟩
  · intro k hk; rw [r 38 (by decide) (by decide) (by decide) (by decide) (by decide), r 39 (by decide) (by decide) (by decide) (by decide) (by decide)]; exact h.1 k hk
  · intro k hk; rw [r 37 (by decide) (by decide) (by decide) (by decide) (by decide)]; exact h.2.1 k hk
  · intro k hk; rw [r 40 (by decide) (by decide) (by decide) (by decide) (by decide)]; exact h.2.2.1 k hk
  · rw [h2]; exact h.2.2.2.1
  · intro d hd; rw [r 54 (by decide) (by decide) (by decide) (by decide) (by decide)]; exact h.2.2.2.2.2.1 d hd
  · intro o ho hh
    rw [r 47 (by decide) (by decide) (by decide) (by decide) (by decide), r 48 (by decide) (by decide) (by decide) (by decide) (by decide), r 49 (by decide) (by decide) (by decide) (by decide) (by decide), r 50 (by decide) (by decide) (by decide) (by decide) (by decide)]
    exact h.2.2.2.2.2.2.1 o ho hh
  · intro f' hf6 hh
    have e41 : υ.1 41 = upd (τ.1 41) f 1 := h1 41 (by decide) (by decide) (by decide)
    have e42 : υ.1 42 = upd (τ.1 42) f 0 := h1 42 (by decide) (by decide) (by decide)
    rw [e41, e42, r 43 (by decide) (by decide) (by decide) (by decide) (by decide)]
    show upd (τ.1 41) f 1 f' = 1 ∧ upd (τ.1 42) f 0 f' = nI (va_up (q_sz m) f 0 f') ∧ ∀ i, i < va_up (q_sz m) f 0 f' → τ.1 43 (24 * f' + i) = nI (q_dat m f' i)
    simp only [upd, va_up]
    by_cases e : f' = f
    · rw [if_pos e, if_pos e, if_pos e]
      exact ⟨rfl, rfl, fun i hi => absurd hi (Nat.not_lt_zero _)⟩
    · rw [if_neg e, if_neg e, if_neg e]
      refine h.2.2.2.2.2.2.2.1 f' hf6 ?_
      have hh' : fex (q_snm m (q_ins k f (q_nm m))) f' = true := hh
      refine fex_nm_le (fun h5 => ?_) hh'
      rw [nof_countP, countP_ins, ← nof_countP] at h5
      rw [if_neg (by simpa using Ne.symm e), Nat.add_zero] at h5
      unfold fex
      rw [decide_eq_true h5]
      rfl
  · intro q hq hh
    rw [r 51 (by decide) (by decide) (by decide) (by decide) (by decide), r 52 (by decide) (by decide) (by decide) (by decide) (by decide), r 53 (by decide) (by decide) (by decide) (by decide) (by decide)]
    exact h.2.2.2.2.2.2.2.2 q hq hh
