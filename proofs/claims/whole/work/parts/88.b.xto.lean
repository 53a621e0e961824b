/-! The second side writes to a file or a pipe. -/
theorem sI_6 (σ : oT) (a b c : Nat) (f g h f' g' h' : Nat → Int32) : sI (sI (sI (sI (sI (sI σ a f) b g) c h) a f') b g') c h' = sI (sI (sI σ a f') b g') c h' := by
  refine Prod.ext ?_ rfl
  funext j
  simp only [sI_1]
  by_cases h1 : j = c
  · simp only [h1, if_true]
  · by_cases h2 : j = b
    · simp only [h1, h2, if_true, if_false]
    · by_cases h3 : j = a
      · simp only [h1, h2, h3, if_true, if_false]
      · simp only [h1, h2, h3, if_false]
theorem tf_end {m : MS} {τ : oT} (hO : Ok m) (hR : RMp m τ) {o N : Nat} {bl : Nat → Nat} (h6 : ¬ 6 ≤ q_tg m o) (hps : q_ps m o + N ≤ 24) {d : Nat → Int32} (h1 : ∀ j, j < max (q_sz m (q_tg m o)) (q_ps m o + N) → d (24 * q_tg m o + j) = nI (ptF m (q_tg m o) (q_ps m o) N bl j)) (h2 : ∀ x, (∀ j, j < 24 → x ≠ 24 * q_tg m o + j) → d x = τ.1 43 x) : RMp (wrF m o N bl) (sI (sI (sI τ 43 d) 49 (upd (τ.1 49) o (nI (q_ps m o + N)))) 42 (upd (τ.1 42) (q_tg m o) (nI (max (q_sz m (q_tg m o)) (q_ps m o + N))))) := by
  refine ⟨hR.1, hR.2.1, hR.2.2.1, hR.2.2.2.1, hR.2.2.2.2.1, hR.2.2.2.2.2.1, fun x hx hh => ?_, fun j hj hh => ?_, hR.2.2.2.2.2.2.2.2⟩
  · obtain ⟨e1, e2, e3, e4⟩ := hR.2.2.2.2.2.2.1 x hx hh
    refine ⟨e1, e2, ?_, e4⟩
    show upd (τ.1 49) o (nI (q_ps m o + N)) x = nI (va_up (q_ps m) o (q_ps m o + N) x)
    simp only [upd, va_up]
    by_cases c : x = o
    · rw [if_pos c, if_pos c]
    · rw [if_neg c, if_neg c]; exact e3
  · have hh' : fex m j = true := hh
    obtain ⟨e1, e2, e3⟩ := hR.2.2.2.2.2.2.2.1 j hj hh'
    obtain ⟨s24, -⟩ := hO.2.2.2.2.1 j hj hh'
    show τ.1 41 j = 1 ∧ upd (τ.1 42) (q_tg m o) (nI (max (q_sz m (q_tg m o)) (q_ps m o + N))) j = nI (va_up (q_sz m) (q_tg m o) (max (q_sz m (q_tg m o)) (q_ps m o + N)) j) ∧ ∀ i, i < va_up (q_sz m) (q_tg m o) (max (q_sz m (q_tg m o)) (q_ps m o + N)) j → d (24 * j + i) = nI (va_up (q_dat m) (q_tg m o) (ptF m (q_tg m o) (q_ps m o) N bl) j i)
    by_cases c : j = q_tg m o
    · subst c
      rw [va_s, va_s]
      exact ⟨e1, by simp [upd], h1⟩
    · have w : ∀ (y : Nat), va_up (q_sz m) (q_tg m o) y j = q_sz m j := fun y => by simp [va_up, c]
      have w2 : ∀ (y : Nat → Nat), va_up (q_dat m) (q_tg m o) y j = q_dat m j := fun y => by simp [va_up, c]
      rw [w, w2]
      refine ⟨e1, ?_, fun i hi => ?_⟩
      · simp only [upd]
        rw [if_neg c]
        exact e2
      · rw [h2 (24 * j + i) (fun x hx e => by omega)]
        exact e3 i hi
theorem tf_68 (G : oG) (σ τ : oT) (m : MS) (hO : Ok m) (hR : RMp m τ) (hfr : frX σ τ) {o len N : Nat} {bl : Nat → Nat} (o8 : o < 8) (h6 : ¬ 6 ≤ q_tg m o) (hps : q_ps m o < 24) (hsz : q_sz m (q_tg m o) ≤ 24) (h23 : τ.2.2 36 23 = nI len) (hlen : len ≤ 1024) (h0 : ¬ len = 0) (hb : ∀ j, j < len → τ.1 56 j = nI (bl j)) (hN : N = min len (24 - q_ps m o)) : ∀ k i : Nat, i + k = N → ∀ (d u v : Nat → Int32), (∀ j, j < max (max (q_sz m (q_tg m o)) (q_ps m o)) (q_ps m o + i) → d (24 * q_tg m o + j) = nI (ptF m (q_tg m o) (q_ps m o) i bl j)) → (∀ x, (∀ j, j < 24 → x ≠ 24 * q_tg m o + j) → d x = τ.1 43 x) → u = upd (τ.1 49) o (nI (q_ps m o + i)) → v = upd (τ.1 42) (q_tg m o) (nI (max (max (q_sz m (q_tg m o)) (q_ps m o)) (q_ps m o + i))) → Wp G m_X_toFile (XP σ (nI N, wrF m o N bl)) 68 0 0 [(0, .ref 37), (1, .int (nI o)), (2, .int (nI (q_tg m o))), (3, .int (nI i))] [] (enc (sI (sI (sI τ 43 d) 49 u) 42 v)) := by
  have f6 : q_tg m o < 6 := by omega
  have vo : vp_in (nI o) 8 := vp_in_nI o8 (by decide)
  have vf : vp_in (nI (q_tg m o)) 6 := vp_in_nI f6 (by decide)
  have uu : ∀ (k : Nat) (h : Nat → Int32) (y : Int32), upd h k y k = y := fun k h y => by simp [upd]
  have u2 : ∀ (k : Nat) (h : Nat → Int32) (y z : Int32), upd (upd h k y) k z = upd h k z := fun k h y z => by
    funext j
    simp only [upd]
    split <;> rfl
  intro k
  induction k with
  | zero =>
    intro i hk d u v h1 h2 hu hv
    have e : i = N := by omega
    subst e
    have em : max (max (q_sz m (q_tg m o)) (q_ps m o)) (q_ps m o + i) = max (q_sz m (q_tg m o)) (q_ps m o + i) := by omega
    rw [em] at h1 hv
    have hdone : XP σ (nI i, wrF m o i bl) (some (.int (nI i))) (enc (sI (sI (sI τ 43 d) 49 u) 42 v)) := by
      rw [hu, hv]
      exact XP.mk (tf_end hO hR h6 (by omega) h1 h2) (frX_t hfr (frX_sI (frX_sI (frX_sI (frX_r τ) (by decide)) (by decide)) (by decide)))
    have e1 := nI_leI (a := len) (b := i) (by omega) (by omega)
    have e2 := nI_leI (a := 24) (b := q_ps m o + i) (by omega) (by omega)
    refine s_X_toFile_68 _ _ _ _ _ ?_
    unfold k_X_toFile_68
    generalize (o_aload 0 <| o_getf 7 7 <| o_iconst 24 <| o_iload 2 <| o_imul <| o_aload 0 <| o_getf 7 13 <| o_iload 1 <| o_iald G <| o_iadd <| o_aload 0 <| o_getf 7 25 <| o_iload 3 <| o_iald G <| o_iast <| o_aload 0 <| o_getf 7 13 <| o_iload 1 <| o_dup2 <| o_iald G <| o_iconst 1 <| o_iadd <| o_iast <| o_aload 0 <| o_getf 7 6 <| o_iload 2 <| o_aload 0 <| o_getf 7 6 <| o_iload 2 <| o_iald G <| o_aload 0 <| o_getf 7 13 <| o_iload 1 <| o_iald G <| o_icmpge (o_aload 0 <| o_getf 7 6 <| o_iload 2 <| o_iald G <| o_iast <| o_iinc 3 1 <| o_jmp G m_X_toFile (XP σ (nI i, wrF m o i bl)) 68 [0, 1, 2, 3]) (o_aload 0 <| o_getf 7 13 <| o_iload 1 <| o_iald G <| o_iast <| o_iinc 3 1 <| o_jmp G m_X_toFile (XP σ (nI i, wrF m o i bl)) 68 [0, 1, 2, 3]) : oK) = K
    simp only [o_iconst, o_lconst, o_iload, o_lload, o_aload, o_istore, o_lstore, o_astore, o_iinc, o_iadd, o_isub, o_imul, o_iand, o_ior, o_idiv, o_irem, o_lor, o_lushr, o_lshl, o_i2l, o_l2i, o_lcmp, o_dup, o_pop, o_dup2, o_ifeq, o_ifne, o_iflt, o_ifge, o_ifgt, o_ifle, o_icmpeq, o_icmpne, o_icmplt, o_icmpge, o_icmpgt, o_icmple, o_jmp, o_tsw, o_iret, o_zret, o_lret, o_vret, o_getf, o_putfI, o_putfR, o_iald, o_alen, o_lald, o_zald, o_iast, o_last, o_zast, o_aald, o_aast, o_new, o_newa, o_callS, o_callI, o_callV, o_objInit, o_mmax, o_mmin, o_lk, o_up1, o_up2, o_cl1, o_cl2, o_keep, o_c2, List.getElem?_cons_zero, List.getElem?_cons_succ, List.drop_zero, List.drop_succ_cons, List.take_zero, List.take_succ_cons, List.reverse_cons, List.reverse_nil, List.nil_append, List.cons_append, List.map_cons, List.map_nil, List.sum_cons, List.sum_nil, Value.category, List.length_cons, List.length_nil, List.set_cons_zero, List.set_cons_succ, Option.toList_some, Option.toList_none, lv_args, ↓reduceIte, Nat.reduceAdd, Nat.reduceSub, Nat.reduceMul, Nat.reduceEqDiff, Nat.reduceLeDiff, Nat.reduceLT, reduceCtorEq, Bool.false_eq_true, and_true, true_and, and_self, and_false, false_and, Nat.zero_add, Nat.le_refl, Nat.zero_le, true_or, or_true, not_true_eq_false, not_false_eq_true, forall_const, false_implies, implies_true, true_implies, Int32.reduceAdd, Int32.reduceLE, Int32.reduceLT, Int32.reduceSub, Int32.reduceMul, Int32.reduceToNatClampNeg, og_36, oi_36, ef_36_4, ef_36_19, ef_36_20, ef_36_21, ef_36_22, ef_36_23, og_37, oi_37, oq_37, es_37, og_38, oi_38, oq_38, es_38, og_39, oi_39, oq_39, es_39, og_40, oi_40, oq_40, es_40, og_41, oi_41, es_41, og_42, oi_42, oq_42, es_42, og_43, oi_43, oq_43, es_43, og_44, oi_44, oq_44, es_44, og_45, oi_45, oq_45, es_45, og_46, oi_46, oq_46, es_46, og_47, oi_47, oq_47, es_47, og_48, oi_48, oq_48, es_48, og_49, oi_49, oq_49, es_49, og_50, oi_50, oq_50, es_50, og_51, oi_51, es_51, og_52, oi_52, oq_52, es_52, og_53, oi_53, oq_53, es_53, og_54, oi_54, oq_54, es_54, og_55, oi_55, oq_55, es_55, og_56, oi_56, oq_56, es_56, og_57, oi_57, oq_57, es_57, og_58, oi_58, oq_58, es_58, sI_1, sI_2, sL_1, sL_2, sL_3, sF_1, sF_2, sF_3, h23, nI_clamp (show o < 2 ^ 31 by omega)]
    refine ⟨fun _ => hdone, fun q => ⟨vo, fun _ => hdone, fun q2 => ?_⟩⟩
    rw [hu, uu] at q2
    have c1 : ¬ len ≤ i := fun h => q (e1.mpr h)
    have c2 : ¬ 24 ≤ q_ps m o + i := fun h => q2 (e2.mpr h)
    omega
  | succ k ih =>
    intro i hk d u v h1 h2 hu hv
    have c1 : i < len := by omega
    have c2 : q_ps m o + i < 24 := by omega
    have e3 := nI_leI (a := q_ps m o + i + 1) (b := max (max (q_sz m (q_tg m o)) (q_ps m o)) (q_ps m o + i)) (by omega) (by omega)
    refine s_X_toFile_68 _ _ _ _ _ ?_
    simp only [k_X_toFile_68, o_iconst, o_lconst, o_iload, o_lload, o_aload, o_istore, o_lstore, o_astore, o_iinc, o_iadd, o_isub, o_imul, o_iand, o_ior, o_idiv, o_irem, o_lor, o_lushr, o_lshl, o_i2l, o_l2i, o_lcmp, o_dup, o_pop, o_dup2, o_ifeq, o_ifne, o_iflt, o_ifge, o_ifgt, o_ifle, o_icmpeq, o_icmpne, o_icmplt, o_icmpge, o_icmpgt, o_icmple, o_jmp, o_tsw, o_iret, o_zret, o_lret, o_vret, o_getf, o_putfI, o_putfR, o_iald, o_alen, o_lald, o_zald, o_iast, o_last, o_zast, o_aald, o_aast, o_new, o_newa, o_callS, o_callI, o_callV, o_objInit, o_mmax, o_mmin, o_lk, o_up1, o_up2, o_cl1, o_cl2, o_keep, o_c2, List.getElem?_cons_zero, List.getElem?_cons_succ, List.drop_zero, List.drop_succ_cons, List.take_zero, List.take_succ_cons, List.reverse_cons, List.reverse_nil, List.nil_append, List.cons_append, List.map_cons, List.map_nil, List.sum_cons, List.sum_nil, Value.category, List.length_cons, List.length_nil, List.set_cons_zero, List.set_cons_succ, Option.toList_some, Option.toList_none, lv_args, ↓reduceIte, Nat.reduceAdd, Nat.reduceSub, Nat.reduceMul, Nat.reduceEqDiff, Nat.reduceLeDiff, Nat.reduceLT, reduceCtorEq, Bool.false_eq_true, and_true, true_and, and_self, and_false, false_and, Nat.zero_add, Nat.le_refl, Nat.zero_le, true_or, or_true, not_true_eq_false, not_false_eq_true, forall_const, false_implies, implies_true, true_implies, Int32.reduceAdd, Int32.reduceLE, Int32.reduceLT, Int32.reduceSub, Int32.reduceMul, Int32.reduceToNatClampNeg, og_36, oi_36, ef_36_4, ef_36_19, ef_36_20, ef_36_21, ef_36_22, ef_36_23, og_37, oi_37, oq_37, es_37, og_38, oi_38, oq_38, es_38, og_39, oi_39, oq_39, es_39, og_40, oi_40, oq_40, es_40, og_41, oi_41, es_41, og_42, oi_42, oq_42, es_42, og_43, oi_43, oq_43, es_43, og_44, oi_44, oq_44, es_44, og_45, oi_45, oq_45, es_45, og_46, oi_46, oq_46, es_46, og_47, oi_47, oq_47, es_47, og_48, oi_48, oq_48, es_48, og_49, oi_49, oq_49, es_49, og_50, oi_50, oq_50, es_50, og_51, oi_51, es_51, og_52, oi_52, oq_52, es_52, og_53, oi_53, oq_53, es_53, og_54, oi_54, oq_54, es_54, og_55, oi_55, oq_55, es_55, og_56, oi_56, oq_56, es_56, og_57, oi_57, oq_57, es_57, og_58, oi_58, oq_58, es_58, sI_1, sI_2, sL_1, sL_2, sL_3, sF_1, sF_2, sF_3, sI_6, h23, hu, hv, uu, u2, nI_1, ix24, nI_clamp (show o < 2 ^ 31 by omega), nI_clamp (show q_tg m o < 2 ^ 31 by omega), nI_clamp (show i < 2 ^ 31 by omega), nI_clamp (show 24 * q_tg m o + (q_ps m o + i) < 2 ^ 31 by omega), hb i c1]
    have n1 : ∀ j, j < max (max (q_sz m (q_tg m o)) (q_ps m o)) (q_ps m o + (i + 1)) → upd d (24 * q_tg m o + (q_ps m o + i)) (nI (bl i)) (24 * q_tg m o + j) = nI (ptF m (q_tg m o) (q_ps m o) (i + 1) bl j) := fun j hj => by
      simp only [upd]
      by_cases c : j = q_ps m o + i
      · rw [if_pos (by omega), c]
        unfold ptF
        rw [if_pos ⟨by omega, by omega⟩, show q_ps m o + i - q_ps m o = i by omega]
      · rw [if_neg (by omega), h1 j (by omega)]
        unfold ptF
        by_cases c3 : q_ps m o ≤ j ∧ j < q_ps m o + i
        · rw [if_pos c3, if_pos ⟨c3.1, by omega⟩]
        · rw [if_neg c3, if_neg (show ¬ (q_ps m o ≤ j ∧ j < q_ps m o + (i + 1)) from fun h => c3 ⟨h.1, by omega⟩)]
    have n2 : ∀ x, (∀ j, j < 24 → x ≠ 24 * q_tg m o + j) → upd d (24 * q_tg m o + (q_ps m o + i)) (nI (bl i)) x = τ.1 43 x := fun x hx => by
      simp only [upd]
      rw [if_neg (hx (q_ps m o + i) c2)]
      exact h2 x hx
    refine ⟨fun q => absurd q (nI_ge c1 (by omega)), fun _ => ⟨vo, fun q => absurd q (nI_ge (b := 24) c2 (by decide)), fun _ => ⟨vo, vp_in_nI (by omega) (by decide), vp_in_nI (by omega) (by decide), vo, vo, vf, vo, fun q => ⟨vf, vf, ?_⟩, fun q => ⟨vo, vf, ?_⟩⟩⟩⟩
    · have c := e3.mp q
      refine ih (i + 1) (by omega) _ _ _ n1 n2 (by rw [show q_ps m o + (i + 1) = q_ps m o + i + 1 by omega]) ?_
      rw [show max (max (q_sz m (q_tg m o)) (q_ps m o)) (q_ps m o + (i + 1)) = max (max (q_sz m (q_tg m o)) (q_ps m o)) (q_ps m o + i) by omega]
    · have c : ¬ q_ps m o + i + 1 ≤ max (max (q_sz m (q_tg m o)) (q_ps m o)) (q_ps m o + i) := fun h => q (e3.mpr h)
      refine ih (i + 1) (by omega) _ _ _ n1 n2 (by rw [show q_ps m o + (i + 1) = q_ps m o + i + 1 by omega]) ?_
      rw [show max (max (q_sz m (q_tg m o)) (q_ps m o)) (q_ps m o + (i + 1)) = q_ps m o + i + 1 by omega]
theorem tf_21 (G : oG) (σ τ : oT) (m : MS) (hO : Ok m) (hR : RMp m τ) (hfr : frX σ τ) {o len N : Nat} {bl : Nat → Nat} (o8 : o < 8) (h6 : ¬ 6 ≤ q_tg m o) (hps : q_ps m o < 24) (hsz : q_sz m (q_tg m o) ≤ 24) (h49 : τ.1 49 o = nI (q_ps m o)) (h23 : τ.2.2 36 23 = nI len) (hlen : len ≤ 1024) (h0 : ¬ len = 0) (hb : ∀ j, j < len → τ.1 56 j = nI (bl j)) (hN : N = min len (24 - q_ps m o)) : ∀ k s : Nat, s + k = max (q_sz m (q_tg m o)) (q_ps m o) → q_sz m (q_tg m o) ≤ s → ∀ (d v : Nat → Int32), (∀ j, j < s → d (24 * q_tg m o + j) = nI (ptF m (q_tg m o) (q_ps m o) 0 bl j)) → (∀ x, (∀ j, j < 24 → x ≠ 24 * q_tg m o + j) → d x = τ.1 43 x) → v = upd (τ.1 42) (q_tg m o) (nI s) → Wp G m_X_toFile (XP σ (nI N, wrF m o N bl)) 21 0 0 [(0, .ref 37), (1, .int (nI o)), (2, .int (nI (q_tg m o)))] [] (enc (sI (sI τ 43 d) 42 v)) := by
  have f6 : q_tg m o < 6 := by omega
  have vo : vp_in (nI o) 8 := vp_in_nI o8 (by decide)
  have vf : vp_in (nI (q_tg m o)) 6 := vp_in_nI f6 (by decide)
  have uu : ∀ (k : Nat) (h : Nat → Int32) (y : Int32), upd h k y k = y := fun k h y => by simp [upd]
  have u2 : ∀ (k : Nat) (h : Nat → Int32) (y z : Int32), upd (upd h k y) k z = upd h k z := fun k h y z => by
    funext j
    simp only [upd]
    split <;> rfl
  intro k
  induction k with
  | zero =>
    intro s hk hs d v h1 h2 hv
    have e : s = max (q_sz m (q_tg m o)) (q_ps m o) := by omega
    have goal : Wp G m_X_toFile (XP σ (nI N, wrF m o N bl)) 68 0 0 [(0, .ref 37), (1, .int (nI o)), (2, .int (nI (q_tg m o))), (3, .int (nI 0))] [] (enc (sI (sI τ 43 d) 42 v)) := by
      have h := tf_68 G σ τ m hO hR hfr (bl := bl) o8 h6 hps hsz h23 hlen h0 hb hN N 0 (Nat.zero_add _) d (τ.1 49) v (fun j hj => h1 j (by omega)) h2 (upd_i _ h49).symm (by rw [hv]; congr 2; omega)
      have e2 : sI (sI τ 43 d) 49 (τ.1 49) = sI τ 43 d := sI_id (sI τ 43 d) 49
      rw [e2] at h
      exact h
    refine s_X_toFile_21 _ _ _ _ _ ?_
    unfold k_X_toFile_21
    generalize (o_aload 0 <| o_getf 7 7 <| o_iconst 24 <| o_iload 2 <| o_imul <| o_aload 0 <| o_getf 7 6 <| o_iload 2 <| o_iald G <| o_iadd <| o_iconst 0 <| o_iast <| o_aload 0 <| o_getf 7 6 <| o_iload 2 <| o_dup2 <| o_iald G <| o_iconst 1 <| o_iadd <| o_iast <| o_jmp G m_X_toFile (XP σ (nI N, wrF m o N bl)) 21 [0, 1, 2] : oK) = K
    simp only [o_iconst, o_lconst, o_iload, o_lload, o_aload, o_istore, o_lstore, o_astore, o_iinc, o_iadd, o_isub, o_imul, o_iand, o_ior, o_idiv, o_irem, o_lor, o_lushr, o_lshl, o_i2l, o_l2i, o_lcmp, o_dup, o_pop, o_dup2, o_ifeq, o_ifne, o_iflt, o_ifge, o_ifgt, o_ifle, o_icmpeq, o_icmpne, o_icmplt, o_icmpge, o_icmpgt, o_icmple, o_jmp, o_tsw, o_iret, o_zret, o_lret, o_vret, o_getf, o_putfI, o_putfR, o_iald, o_alen, o_lald, o_zald, o_iast, o_last, o_zast, o_aald, o_aast, o_new, o_newa, o_callS, o_callI, o_callV, o_objInit, o_mmax, o_mmin, o_lk, o_up1, o_up2, o_cl1, o_cl2, o_keep, o_c2, List.getElem?_cons_zero, List.getElem?_cons_succ, List.drop_zero, List.drop_succ_cons, List.take_zero, List.take_succ_cons, List.reverse_cons, List.reverse_nil, List.nil_append, List.cons_append, List.map_cons, List.map_nil, List.sum_cons, List.sum_nil, Value.category, List.length_cons, List.length_nil, List.set_cons_zero, List.set_cons_succ, Option.toList_some, Option.toList_none, lv_args, ↓reduceIte, Nat.reduceAdd, Nat.reduceSub, Nat.reduceMul, Nat.reduceEqDiff, Nat.reduceLeDiff, Nat.reduceLT, reduceCtorEq, Bool.false_eq_true, and_true, true_and, and_self, and_false, false_and, Nat.zero_add, Nat.le_refl, Nat.zero_le, true_or, or_true, not_true_eq_false, not_false_eq_true, forall_const, false_implies, implies_true, true_implies, Int32.reduceAdd, Int32.reduceLE, Int32.reduceLT, Int32.reduceSub, Int32.reduceMul, Int32.reduceToNatClampNeg, og_36, oi_36, ef_36_4, ef_36_19, ef_36_20, ef_36_21, ef_36_22, ef_36_23, og_37, oi_37, oq_37, es_37, og_38, oi_38, oq_38, es_38, og_39, oi_39, oq_39, es_39, og_40, oi_40, oq_40, es_40, og_41, oi_41, es_41, og_42, oi_42, oq_42, es_42, og_43, oi_43, oq_43, es_43, og_44, oi_44, oq_44, es_44, og_45, oi_45, oq_45, es_45, og_46, oi_46, oq_46, es_46, og_47, oi_47, oq_47, es_47, og_48, oi_48, oq_48, es_48, og_49, oi_49, oq_49, es_49, og_50, oi_50, oq_50, es_50, og_51, oi_51, es_51, og_52, oi_52, oq_52, es_52, og_53, oi_53, oq_53, es_53, og_54, oi_54, oq_54, es_54, og_55, oi_55, oq_55, es_55, og_56, oi_56, oq_56, es_56, og_57, oi_57, oq_57, es_57, og_58, oi_58, oq_58, es_58, sI_1, sI_2, sL_1, sL_2, sL_3, sF_1, sF_2, sF_3, nI_clamp (show o < 2 ^ 31 by omega), nI_clamp (show q_tg m o < 2 ^ 31 by omega), h49, hv, uu]
    rw [← hv]
    exact ⟨vf, vo, fun _ => goal, fun q => absurd (nI_le (by omega) (by omega)) q⟩
  | succ k ih =>
    intro s hk hs d v h1 h2 hv
    have c : s < q_ps m o := by omega
    refine s_X_toFile_21 _ _ _ _ _ ?_
    simp only [k_X_toFile_21, o_iconst, o_lconst, o_iload, o_lload, o_aload, o_istore, o_lstore, o_astore, o_iinc, o_iadd, o_isub, o_imul, o_iand, o_ior, o_idiv, o_irem, o_lor, o_lushr, o_lshl, o_i2l, o_l2i, o_lcmp, o_dup, o_pop, o_dup2, o_ifeq, o_ifne, o_iflt, o_ifge, o_ifgt, o_ifle, o_icmpeq, o_icmpne, o_icmplt, o_icmpge, o_icmpgt, o_icmple, o_jmp, o_tsw, o_iret, o_zret, o_lret, o_vret, o_getf, o_putfI, o_putfR, o_iald, o_alen, o_lald, o_zald, o_iast, o_last, o_zast, o_aald, o_aast, o_new, o_newa, o_callS, o_callI, o_callV, o_objInit, o_mmax, o_mmin, o_lk, o_up1, o_up2, o_cl1, o_cl2, o_keep, o_c2, List.getElem?_cons_zero, List.getElem?_cons_succ, List.drop_zero, List.drop_succ_cons, List.take_zero, List.take_succ_cons, List.reverse_cons, List.reverse_nil, List.nil_append, List.cons_append, List.map_cons, List.map_nil, List.sum_cons, List.sum_nil, Value.category, List.length_cons, List.length_nil, List.set_cons_zero, List.set_cons_succ, Option.toList_some, Option.toList_none, lv_args, ↓reduceIte, Nat.reduceAdd, Nat.reduceSub, Nat.reduceMul, Nat.reduceEqDiff, Nat.reduceLeDiff, Nat.reduceLT, reduceCtorEq, Bool.false_eq_true, and_true, true_and, and_self, and_false, false_and, Nat.zero_add, Nat.le_refl, Nat.zero_le, true_or, or_true, not_true_eq_false, not_false_eq_true, forall_const, false_implies, implies_true, true_implies, Int32.reduceAdd, Int32.reduceLE, Int32.reduceLT, Int32.reduceSub, Int32.reduceMul, Int32.reduceToNatClampNeg, og_36, oi_36, ef_36_4, ef_36_19, ef_36_20, ef_36_21, ef_36_22, ef_36_23, og_37, oi_37, oq_37, es_37, og_38, oi_38, oq_38, es_38, og_39, oi_39, oq_39, es_39, og_40, oi_40, oq_40, es_40, og_41, oi_41, es_41, og_42, oi_42, oq_42, es_42, og_43, oi_43, oq_43, es_43, og_44, oi_44, oq_44, es_44, og_45, oi_45, oq_45, es_45, og_46, oi_46, oq_46, es_46, og_47, oi_47, oq_47, es_47, og_48, oi_48, oq_48, es_48, og_49, oi_49, oq_49, es_49, og_50, oi_50, oq_50, es_50, og_51, oi_51, es_51, og_52, oi_52, oq_52, es_52, og_53, oi_53, oq_53, es_53, og_54, oi_54, oq_54, es_54, og_55, oi_55, oq_55, es_55, og_56, oi_56, oq_56, es_56, og_57, oi_57, oq_57, es_57, og_58, oi_58, oq_58, es_58, sI_1, sI_2, sL_1, sL_2, sL_3, sF_1, sF_2, sF_3, sI_4, nI_clamp (show o < 2 ^ 31 by omega), nI_clamp (show q_tg m o < 2 ^ 31 by omega), h49, hv, uu, u2, nI_1, ix24, nI_clamp (show 24 * q_tg m o + s < 2 ^ 31 by omega)]
    refine ⟨vf, vo, fun q => absurd q (nI_ge c (by omega)), fun _ => ⟨vf, vp_in_nI (by omega) (by decide), vf, vf, ?_⟩⟩
    refine ih (s + 1) (by omega) (by omega) _ _ (fun j hj => ?_) (fun x hx => ?_) rfl
    · simp only [upd]
      by_cases e : j = s
      · rw [if_pos (by omega), e]
        unfold ptF
        rw [if_neg (by omega), if_pos ⟨hs, c⟩]
        rfl
      · rw [if_neg (by omega)]
        exact h1 j (by omega)
    · simp only [upd]
      rw [if_neg (hx s (by omega))]
      exact h2 x hx
theorem x_toFile (G : oG) (σ τ : oT) (m : MS) (hO : Ok m) (hR : RMp m τ) (hfr : frX σ τ) {p o len : Nat} {ad : Nat → Nat} (o8 : o < 8) (hh : has (q_ds m) o = true) (h6 : ¬ 6 ≤ q_tg m o) (h23 : τ.2.2 36 23 = nI len) (hlen : len ≤ 1024) (hb : ∀ j, j < len → τ.1 56 j = nI (q_ld m p (ad j))) (h0 : ¬ len = 0) : Mt G m_X_toFile [.ref 37, .int (nI o)] (enc τ) 0 0 (XP σ (sp_wr m p o ad len)) := by
  obtain ⟨k1, k2, k3, k4, k5⟩ := hO.2.2.2.1.2 o o8 hh
  obtain ⟨r1, r2, r3, r4⟩ := hR.2.2.2.2.2.2.1 o o8 hh
  have hfx : fex m (q_tg m o) = true := by
    unfold fex
    rw [decide_eq_true (show 0 < opn m (q_tg m o) 3 from cnt_pos (f := opF m (q_tg m o) 3) o8 (by
      unfold opF
      rw [hh, decide_eq_true rfl, decide_eq_false (md3 _ k3 k2)]
      rfl)), Bool.or_true]
  obtain ⟨f1, f2, f3⟩ := hR.2.2.2.2.2.2.2.1 (q_tg m o) (by omega) hfx
  obtain ⟨s1, -⟩ := hO.2.2.2.2.1 (q_tg m o) (by omega) hfx
  rw [show ofX (q_tg m o) = q_tg m o by unfold ofX; rw [if_pos (by omega)]] at r2
  unfold sp_wr
  rw [if_neg h0, if_neg h6]
  refine Mt.of (by decide) (Nat.le_of_ble_eq_true rfl) (s_X_toFile_0 _ _ _ _ _ ?_)
  have vo : vp_in (nI o) 8 := vp_in_nI o8 (by decide)
  have e24 := nI_eq (a := q_ps m o) (b := 24) (by omega) (by decide)
  simp only [k_X_toFile_0, o_iconst, o_lconst, o_iload, o_lload, o_aload, o_istore, o_lstore, o_astore, o_iinc, o_iadd, o_isub, o_imul, o_iand, o_ior, o_idiv, o_irem, o_lor, o_lushr, o_lshl, o_i2l, o_l2i, o_lcmp, o_dup, o_pop, o_dup2, o_ifeq, o_ifne, o_iflt, o_ifge, o_ifgt, o_ifle, o_icmpeq, o_icmpne, o_icmplt, o_icmpge, o_icmpgt, o_icmple, o_jmp, o_tsw, o_iret, o_zret, o_lret, o_vret, o_getf, o_putfI, o_putfR, o_iald, o_alen, o_lald, o_zald, o_iast, o_last, o_zast, o_aald, o_aast, o_new, o_newa, o_callS, o_callI, o_callV, o_objInit, o_mmax, o_mmin, o_lk, o_up1, o_up2, o_cl1, o_cl2, o_keep, o_c2, List.getElem?_cons_zero, List.getElem?_cons_succ, List.drop_zero, List.drop_succ_cons, List.take_zero, List.take_succ_cons, List.reverse_cons, List.reverse_nil, List.nil_append, List.cons_append, List.map_cons, List.map_nil, List.sum_cons, List.sum_nil, Value.category, List.length_cons, List.length_nil, List.set_cons_zero, List.set_cons_succ, Option.toList_some, Option.toList_none, lv_args, ↓reduceIte, Nat.reduceAdd, Nat.reduceSub, Nat.reduceMul, Nat.reduceEqDiff, Nat.reduceLeDiff, Nat.reduceLT, reduceCtorEq, Bool.false_eq_true, and_true, true_and, and_self, and_false, false_and, Nat.zero_add, Nat.le_refl, Nat.zero_le, true_or, or_true, not_true_eq_false, not_false_eq_true, forall_const, false_implies, implies_true, true_implies, Int32.reduceAdd, Int32.reduceLE, Int32.reduceLT, Int32.reduceSub, Int32.reduceMul, Int32.reduceToNatClampNeg, og_36, oi_36, ef_36_4, ef_36_19, ef_36_20, ef_36_21, ef_36_22, ef_36_23, og_37, oi_37, oq_37, es_37, og_38, oi_38, oq_38, es_38, og_39, oi_39, oq_39, es_39, og_40, oi_40, oq_40, es_40, og_41, oi_41, es_41, og_42, oi_42, oq_42, es_42, og_43, oi_43, oq_43, es_43, og_44, oi_44, oq_44, es_44, og_45, oi_45, oq_45, es_45, og_46, oi_46, oq_46, es_46, og_47, oi_47, oq_47, es_47, og_48, oi_48, oq_48, es_48, og_49, oi_49, oq_49, es_49, og_50, oi_50, oq_50, es_50, og_51, oi_51, es_51, og_52, oi_52, oq_52, es_52, og_53, oi_53, oq_53, es_53, og_54, oi_54, oq_54, es_54, og_55, oi_55, oq_55, es_55, og_56, oi_56, oq_56, es_56, og_57, oi_57, oq_57, es_57, og_58, oi_58, oq_58, es_58, nI_clamp (show o < 2 ^ 31 by omega), r2, r3]
  refine ⟨vo, vo, fun q => ?_, fun q => ?_⟩
  · have c : ¬ q_ps m o = 24 := fun h => q (e24.mpr h)
    rw [if_neg c]
    have h := tf_21 G σ τ m hO hR hfr (bl := fun i => q_ld m p (ad i)) o8 h6 (by omega) s1 r3 h23 hlen h0 hb rfl (max (q_sz m (q_tg m o)) (q_ps m o) - q_sz m (q_tg m o)) (q_sz m (q_tg m o)) (by omega) (Nat.le_refl _) (τ.1 43) (τ.1 42) (fun j hj => by
      rw [f3 j hj]
      unfold ptF
      rw [if_neg (by omega), if_neg (by omega)]) (fun _ _ => rfl) (upd_i _ f2).symm
    have e : sI (sI τ 43 (τ.1 43)) 42 (τ.1 42) = τ := by rw [sI_id, sI_id]
    rw [e] at h
    exact h
  · rw [if_pos (e24.mp q)]
    exact XP.mk hR hfr
theorem tp_28 (G : oG) (σ τ : oT) (m : MS) (hO : Ok m) (hR : RMp m τ) (hfr : frX σ τ) {q len N : Nat} {bl : Nat → Nat} (q2 : q < 2) (hx : pex m q = true) (h23 : τ.2.2 36 23 = nI len) (hlen : len ≤ 1024) (hb : ∀ j, j < len → τ.1 56 j = nI (bl j)) (hN : N = min len (8 - q_hl m q)) : ∀ k i : Nat, i + k = N → ∀ (d v : Nat → Int32), (∀ j, j < q_hl m q + i → d (8 * q + j) = nI (if q_hl m q ≤ j ∧ j < q_hl m q + i then bl (j - q_hl m q) else q_pb m q j)) → (∀ x, (∀ j, j < 8 → x ≠ 8 * q + j) → d x = τ.1 53 x) → v = upd (τ.1 52) q (nI (q_hl m q + i)) → Wp G m_X_toPipe (XP σ (nI N, wrQ m q N bl)) 28 0 0 [(0, .ref 37), (1, .int (nI q)), (2, .int (nI i))] [] (enc (sI (sI τ 53 d) 52 v)) := by
  obtain ⟨g1, g2, g3⟩ := hR.2.2.2.2.2.2.2.2 q q2 hx
  obtain ⟨l8, -⟩ := hO.2.2.2.2.2 q q2 hx
  have vq : vp_in (nI q) 2 := vp_in_nI q2 (by decide)
  have uu : ∀ (k : Nat) (h : Nat → Int32) (y : Int32), upd h k y k = y := fun k h y => by simp [upd]
  have u2 : ∀ (k : Nat) (h : Nat → Int32) (y z : Int32), upd (upd h k y) k z = upd h k z := fun k h y z => by
    funext j
    simp only [upd]
    split <;> rfl
  intro k
  induction k with
  | zero =>
    intro i hk d v h1 h2 hv
    have e : i = N := by omega
    subst e
    have hdone : XP σ (nI i, wrQ m q i bl) (some (.int (nI i))) (enc (sI (sI τ 53 d) 52 v)) := by
      refine XP.mk ⟨hR.1, hR.2.1, hR.2.2.1, hR.2.2.2.1, hR.2.2.2.2.1, hR.2.2.2.2.2.1, hR.2.2.2.2.2.2.1, hR.2.2.2.2.2.2.2.1, fun j hj hh => ?_⟩ (frX_t hfr (frX_sI (frX_sI (frX_r τ) (by decide)) (by decide)))
      have hh' : pex m j = true := hh
      obtain ⟨e1, e2, e3⟩ := hR.2.2.2.2.2.2.2.2 j hj hh'
      obtain ⟨j8, -⟩ := hO.2.2.2.2.2 j hj hh'
      show τ.1 51 j = 1 ∧ v j = nI (va_up (q_hl m) q (q_hl m q + i) j) ∧ ∀ k, k < va_up (q_hl m) q (q_hl m q + i) j → d (8 * j + k) = nI (va_up (q_pb m) q (fun k => if q_hl m q ≤ k ∧ k < q_hl m q + i then bl (k - q_hl m q) else q_pb m q k) j k)
      rw [hv]
      by_cases c : j = q
      · subst c
        rw [va_s, va_s]
        exact ⟨e1, uu _ _ _, h1⟩
      · have w : ∀ (y : Nat), va_up (q_hl m) q y j = q_hl m j := fun y => by simp [va_up, c]
        have w2 : ∀ (y : Nat → Nat), va_up (q_pb m) q y j = q_pb m j := fun y => by simp [va_up, c]
        rw [w, w2]
        refine ⟨e1, ?_, fun k hk => ?_⟩
        · simp only [upd]
          rw [if_neg c]
          exact e2
        · rw [h2 (8 * j + k) (fun x hx e => by omega)]
          exact e3 k hk
    have e1 := nI_leI (a := len) (b := i) (by omega) (by omega)
    have e2 := nI_leI (a := 8) (b := q_hl m q + i) (by omega) (by omega)
    refine s_X_toPipe_28 _ _ _ _ _ ?_
    unfold k_X_toPipe_28
    generalize (o_aload 0 <| o_getf 7 17 <| o_iconst 8 <| o_iload 1 <| o_imul <| o_aload 0 <| o_getf 7 16 <| o_iload 1 <| o_iald G <| o_iadd <| o_aload 0 <| o_getf 7 25 <| o_iload 2 <| o_iald G <| o_iast <| o_aload 0 <| o_getf 7 16 <| o_iload 1 <| o_dup2 <| o_iald G <| o_iconst 1 <| o_iadd <| o_iast <| o_iinc 2 1 <| o_jmp G m_X_toPipe (XP σ (nI i, wrQ m q i bl)) 28 [0, 1, 2] : oK) = K
    simp only [o_iconst, o_lconst, o_iload, o_lload, o_aload, o_istore, o_lstore, o_astore, o_iinc, o_iadd, o_isub, o_imul, o_iand, o_ior, o_idiv, o_irem, o_lor, o_lushr, o_lshl, o_i2l, o_l2i, o_lcmp, o_dup, o_pop, o_dup2, o_ifeq, o_ifne, o_iflt, o_ifge, o_ifgt, o_ifle, o_icmpeq, o_icmpne, o_icmplt, o_icmpge, o_icmpgt, o_icmple, o_jmp, o_tsw, o_iret, o_zret, o_lret, o_vret, o_getf, o_putfI, o_putfR, o_iald, o_alen, o_lald, o_zald, o_iast, o_last, o_zast, o_aald, o_aast, o_new, o_newa, o_callS, o_callI, o_callV, o_objInit, o_mmax, o_mmin, o_lk, o_up1, o_up2, o_cl1, o_cl2, o_keep, o_c2, List.getElem?_cons_zero, List.getElem?_cons_succ, List.drop_zero, List.drop_succ_cons, List.take_zero, List.take_succ_cons, List.reverse_cons, List.reverse_nil, List.nil_append, List.cons_append, List.map_cons, List.map_nil, List.sum_cons, List.sum_nil, Value.category, List.length_cons, List.length_nil, List.set_cons_zero, List.set_cons_succ, Option.toList_some, Option.toList_none, lv_args, ↓reduceIte, Nat.reduceAdd, Nat.reduceSub, Nat.reduceMul, Nat.reduceEqDiff, Nat.reduceLeDiff, Nat.reduceLT, reduceCtorEq, Bool.false_eq_true, and_true, true_and, and_self, and_false, false_and, Nat.zero_add, Nat.le_refl, Nat.zero_le, true_or, or_true, not_true_eq_false, not_false_eq_true, forall_const, false_implies, implies_true, true_implies, Int32.reduceAdd, Int32.reduceLE, Int32.reduceLT, Int32.reduceSub, Int32.reduceMul, Int32.reduceToNatClampNeg, og_36, oi_36, ef_36_4, ef_36_19, ef_36_20, ef_36_21, ef_36_22, ef_36_23, og_37, oi_37, oq_37, es_37, og_38, oi_38, oq_38, es_38, og_39, oi_39, oq_39, es_39, og_40, oi_40, oq_40, es_40, og_41, oi_41, es_41, og_42, oi_42, oq_42, es_42, og_43, oi_43, oq_43, es_43, og_44, oi_44, oq_44, es_44, og_45, oi_45, oq_45, es_45, og_46, oi_46, oq_46, es_46, og_47, oi_47, oq_47, es_47, og_48, oi_48, oq_48, es_48, og_49, oi_49, oq_49, es_49, og_50, oi_50, oq_50, es_50, og_51, oi_51, es_51, og_52, oi_52, oq_52, es_52, og_53, oi_53, oq_53, es_53, og_54, oi_54, oq_54, es_54, og_55, oi_55, oq_55, es_55, og_56, oi_56, oq_56, es_56, og_57, oi_57, oq_57, es_57, og_58, oi_58, oq_58, es_58, sI_1, sI_2, sL_1, sL_2, sL_3, sF_1, sF_2, sF_3, h23, nI_clamp (show q < 2 ^ 31 by omega)]
    refine ⟨fun _ => hdone, fun q => ⟨vq, fun _ => hdone, fun q3 => ?_⟩⟩
    rw [hv, uu] at q3
    have c1 : ¬ len ≤ i := fun h => q (e1.mpr h)
    have c2 : ¬ 8 ≤ q_hl m _ + i := fun h => q3 (e2.mpr h)
    omega
  | succ k ih =>
    intro i hk d v h1 h2 hv
    have c1 : i < len := by omega
    have c2 : q_hl m q + i < 8 := by omega
    refine s_X_toPipe_28 _ _ _ _ _ ?_
    simp only [k_X_toPipe_28, o_iconst, o_lconst, o_iload, o_lload, o_aload, o_istore, o_lstore, o_astore, o_iinc, o_iadd, o_isub, o_imul, o_iand, o_ior, o_idiv, o_irem, o_lor, o_lushr, o_lshl, o_i2l, o_l2i, o_lcmp, o_dup, o_pop, o_dup2, o_ifeq, o_ifne, o_iflt, o_ifge, o_ifgt, o_ifle, o_icmpeq, o_icmpne, o_icmplt, o_icmpge, o_icmpgt, o_icmple, o_jmp, o_tsw, o_iret, o_zret, o_lret, o_vret, o_getf, o_putfI, o_putfR, o_iald, o_alen, o_lald, o_zald, o_iast, o_last, o_zast, o_aald, o_aast, o_new, o_newa, o_callS, o_callI, o_callV, o_objInit, o_mmax, o_mmin, o_lk, o_up1, o_up2, o_cl1, o_cl2, o_keep, o_c2, List.getElem?_cons_zero, List.getElem?_cons_succ, List.drop_zero, List.drop_succ_cons, List.take_zero, List.take_succ_cons, List.reverse_cons, List.reverse_nil, List.nil_append, List.cons_append, List.map_cons, List.map_nil, List.sum_cons, List.sum_nil, Value.category, List.length_cons, List.length_nil, List.set_cons_zero, List.set_cons_succ, Option.toList_some, Option.toList_none, lv_args, ↓reduceIte, Nat.reduceAdd, Nat.reduceSub, Nat.reduceMul, Nat.reduceEqDiff, Nat.reduceLeDiff, Nat.reduceLT, reduceCtorEq, Bool.false_eq_true, and_true, true_and, and_self, and_false, false_and, Nat.zero_add, Nat.le_refl, Nat.zero_le, true_or, or_true, not_true_eq_false, not_false_eq_true, forall_const, false_implies, implies_true, true_implies, Int32.reduceAdd, Int32.reduceLE, Int32.reduceLT, Int32.reduceSub, Int32.reduceMul, Int32.reduceToNatClampNeg, og_36, oi_36, ef_36_4, ef_36_19, ef_36_20, ef_36_21, ef_36_22, ef_36_23, og_37, oi_37, oq_37, es_37, og_38, oi_38, oq_38, es_38, og_39, oi_39, oq_39, es_39, og_40, oi_40, oq_40, es_40, og_41, oi_41, es_41, og_42, oi_42, oq_42, es_42, og_43, oi_43, oq_43, es_43, og_44, oi_44, oq_44, es_44, og_45, oi_45, oq_45, es_45, og_46, oi_46, oq_46, es_46, og_47, oi_47, oq_47, es_47, og_48, oi_48, oq_48, es_48, og_49, oi_49, oq_49, es_49, og_50, oi_50, oq_50, es_50, og_51, oi_51, es_51, og_52, oi_52, oq_52, es_52, og_53, oi_53, oq_53, es_53, og_54, oi_54, oq_54, es_54, og_55, oi_55, oq_55, es_55, og_56, oi_56, oq_56, es_56, og_57, oi_57, oq_57, es_57, og_58, oi_58, oq_58, es_58, sI_1, sI_2, sL_1, sL_2, sL_3, sF_1, sF_2, sF_3, sI_4, h23, hv, uu, u2, nI_1, ix8, nI_clamp (show q < 2 ^ 31 by omega), nI_clamp (show i < 2 ^ 31 by omega), nI_clamp (show 8 * q + (q_hl m q + i) < 2 ^ 31 by omega), hb i c1]
    refine ⟨fun q => absurd q (nI_ge c1 (by omega)), fun _ => ⟨vq, fun q => absurd q (nI_ge (b := 8) c2 (by decide)), fun _ => ⟨vq, vp_in_nI (by omega) (by decide), vp_in_nI (by omega) (by decide), vq, vq, ?_⟩⟩⟩
    refine ih (i + 1) (by omega) _ _ (fun j hj => ?_) (fun x hx => ?_) (by rw [show q_hl m q + (i + 1) = q_hl m q + i + 1 by omega])
    · simp only [upd]
      by_cases c : j = q_hl m q + i
      · rw [if_pos (by omega), if_pos ⟨by omega, by omega⟩, c, show q_hl m q + i - q_hl m q = i by omega]
      · rw [if_neg (by omega), h1 j (by omega)]
        by_cases c3 : q_hl m q ≤ j ∧ j < q_hl m q + i
        · rw [if_pos c3, if_pos ⟨c3.1, by omega⟩]
        · rw [if_neg c3, if_neg (show ¬ (q_hl m q ≤ j ∧ j < q_hl m q + (i + 1)) from fun h => c3 ⟨h.1, by omega⟩)]
    · simp only [upd]
      rw [if_neg (hx (q_hl m q + i) c2)]
      exact h2 x hx
theorem x_toPipe (G : oG) (σ τ : oT) (m : MS) (hO : Ok m) (hR : RM m τ) (hfr : frX σ τ) {p o len : Nat} {ad : Nat → Nat} (o8 : o < 8) (hh : has (q_ds m) o = true) (h6 : 6 ≤ q_tg m o) (h23 : τ.2.2 36 23 = nI len) (hlen : len ≤ 1024) (hb : ∀ j, j < len → τ.1 56 j = nI (q_ld m p (ad j))) (h0 : ¬ len = 0) : Mt G m_X_toPipe [.ref 37, .int (nI (q_tg m o - 6))] (enc τ) 0 0 (XP σ (sp_wr m p o ad len)) := by
  obtain ⟨k1, k2, k3, k4, k5⟩ := hO.2.2.2.1.2 o o8 hh
  have hx := pex_tg hO.2.2.2.1 o8 hh h6
  unfold sp_wr
  rw [if_neg h0, if_pos h6]
  have eq : q_tg m o = 6 + (q_tg m o - 6) := by omega
  have q2 : q_tg m o - 6 < 2 := by omega
  generalize q_tg m o - 6 = q at hx eq q2 ⊢
  rw [eq]
  obtain ⟨g1, g2, g3⟩ := hR.1.2.2.2.2.2.2.2.2 q q2 hx
  obtain ⟨l8, -⟩ := hO.2.2.2.2.2 q q2 hx
  have vq : vp_in (nI q) 2 := vp_in_nI q2 (by decide)
  refine Mt.of (by decide) (Nat.le_of_ble_eq_true rfl) (s_X_toPipe_0 _ _ _ _ _ ?_)
  simp only [k_X_toPipe_0, o_iconst, o_lconst, o_iload, o_lload, o_aload, o_istore, o_lstore, o_astore, o_iinc, o_iadd, o_isub, o_imul, o_iand, o_ior, o_idiv, o_irem, o_lor, o_lushr, o_lshl, o_i2l, o_l2i, o_lcmp, o_dup, o_pop, o_dup2, o_ifeq, o_ifne, o_iflt, o_ifge, o_ifgt, o_ifle, o_icmpeq, o_icmpne, o_icmplt, o_icmpge, o_icmpgt, o_icmple, o_jmp, o_tsw, o_iret, o_zret, o_lret, o_vret, o_getf, o_putfI, o_putfR, o_iald, o_alen, o_lald, o_zald, o_iast, o_last, o_zast, o_aald, o_aast, o_new, o_newa, o_callS, o_callI, o_callV, o_objInit, o_mmax, o_mmin, o_lk, o_up1, o_up2, o_cl1, o_cl2, o_keep, o_c2, List.getElem?_cons_zero, List.getElem?_cons_succ, List.drop_zero, List.drop_succ_cons, List.take_zero, List.take_succ_cons, List.reverse_cons, List.reverse_nil, List.nil_append, List.cons_append, List.map_cons, List.map_nil, List.sum_cons, List.sum_nil, Value.category, List.length_cons, List.length_nil, List.set_cons_zero, List.set_cons_succ, Option.toList_some, Option.toList_none, lv_args, ↓reduceIte, Nat.reduceAdd, Nat.reduceSub, Nat.reduceMul, Nat.reduceEqDiff, Nat.reduceLeDiff, Nat.reduceLT, reduceCtorEq, Bool.false_eq_true, and_true, true_and, and_self, and_false, false_and, Nat.zero_add, Nat.le_refl, Nat.zero_le, true_or, or_true, not_true_eq_false, not_false_eq_true, forall_const, false_implies, implies_true, true_implies, Int32.reduceAdd, Int32.reduceLE, Int32.reduceLT, Int32.reduceSub, Int32.reduceMul, Int32.reduceToNatClampNeg, og_36, oi_36, ef_36_4, ef_36_19, ef_36_20, ef_36_21, ef_36_22, ef_36_23, og_37, oi_37, oq_37, es_37, og_38, oi_38, oq_38, es_38, og_39, oi_39, oq_39, es_39, og_40, oi_40, oq_40, es_40, og_41, oi_41, es_41, og_42, oi_42, oq_42, es_42, og_43, oi_43, oq_43, es_43, og_44, oi_44, oq_44, es_44, og_45, oi_45, oq_45, es_45, og_46, oi_46, oq_46, es_46, og_47, oi_47, oq_47, es_47, og_48, oi_48, oq_48, es_48, og_49, oi_49, oq_49, es_49, og_50, oi_50, oq_50, es_50, og_51, oi_51, es_51, og_52, oi_52, oq_52, es_52, og_53, oi_53, oq_53, es_53, og_54, oi_54, oq_54, es_54, og_55, oi_55, oq_55, es_55, og_56, oi_56, oq_56, es_56, og_57, oi_57, oq_57, es_57, og_58, oi_58, oq_58, es_58]
  refine o_use (x_opensR G τ m hO.2.2.2.1 hR.1.2.2.2.2.2.2.1 hR.2.1 q2) ?_
  rintro v h' ⟨rfl, rfl⟩
  have hb8 := opn_le m (6 + q) 1
  have hz := nI_z (k := opn m (6 + q) 1) (by omega)
  have e8 := nI_eq (a := q_hl m q) (b := 8) (by omega) (by decide)
  refine s_X_toPipe_6 _ _ _ _ _ ?_
  simp only [k_X_toPipe_6, o_iconst, o_lconst, o_iload, o_lload, o_aload, o_istore, o_lstore, o_astore, o_iinc, o_iadd, o_isub, o_imul, o_iand, o_ior, o_idiv, o_irem, o_lor, o_lushr, o_lshl, o_i2l, o_l2i, o_lcmp, o_dup, o_pop, o_dup2, o_ifeq, o_ifne, o_iflt, o_ifge, o_ifgt, o_ifle, o_icmpeq, o_icmpne, o_icmplt, o_icmpge, o_icmpgt, o_icmple, o_jmp, o_tsw, o_iret, o_zret, o_lret, o_vret, o_getf, o_putfI, o_putfR, o_iald, o_alen, o_lald, o_zald, o_iast, o_last, o_zast, o_aald, o_aast, o_new, o_newa, o_callS, o_callI, o_callV, o_objInit, o_mmax, o_mmin, o_lk, o_up1, o_up2, o_cl1, o_cl2, o_keep, o_c2, List.getElem?_cons_zero, List.getElem?_cons_succ, List.drop_zero, List.drop_succ_cons, List.take_zero, List.take_succ_cons, List.reverse_cons, List.reverse_nil, List.nil_append, List.cons_append, List.map_cons, List.map_nil, List.sum_cons, List.sum_nil, Value.category, List.length_cons, List.length_nil, List.set_cons_zero, List.set_cons_succ, Option.toList_some, Option.toList_none, lv_args, ↓reduceIte, Nat.reduceAdd, Nat.reduceSub, Nat.reduceMul, Nat.reduceEqDiff, Nat.reduceLeDiff, Nat.reduceLT, reduceCtorEq, Bool.false_eq_true, and_true, true_and, and_self, and_false, false_and, Nat.zero_add, Nat.le_refl, Nat.zero_le, true_or, or_true, not_true_eq_false, not_false_eq_true, forall_const, false_implies, implies_true, true_implies, Int32.reduceAdd, Int32.reduceLE, Int32.reduceLT, Int32.reduceSub, Int32.reduceMul, Int32.reduceToNatClampNeg, og_36, oi_36, ef_36_4, ef_36_19, ef_36_20, ef_36_21, ef_36_22, ef_36_23, og_37, oi_37, oq_37, es_37, og_38, oi_38, oq_38, es_38, og_39, oi_39, oq_39, es_39, og_40, oi_40, oq_40, es_40, og_41, oi_41, es_41, og_42, oi_42, oq_42, es_42, og_43, oi_43, oq_43, es_43, og_44, oi_44, oq_44, es_44, og_45, oi_45, oq_45, es_45, og_46, oi_46, oq_46, es_46, og_47, oi_47, oq_47, es_47, og_48, oi_48, oq_48, es_48, og_49, oi_49, oq_49, es_49, og_50, oi_50, oq_50, es_50, og_51, oi_51, es_51, og_52, oi_52, oq_52, es_52, og_53, oi_53, oq_53, es_53, og_54, oi_54, oq_54, es_54, og_55, oi_55, oq_55, es_55, og_56, oi_56, oq_56, es_56, og_57, oi_57, oq_57, es_57, og_58, oi_58, oq_58, es_58, hz, nI_clamp (show q < 2 ^ 31 by omega), g2]
  refine ⟨fun c => ?_, fun c => ?_⟩
  · rw [if_neg c]
    refine ⟨vq, fun c2 => ?_, fun c2 => ?_⟩
    · rw [if_neg (fun h => c2 (e8.mpr h))]
      have h := tp_28 G σ τ m hO hR.1 hfr (bl := fun i => q_ld m p (ad i)) q2 hx h23 hlen hb rfl _ 0 (Nat.zero_add _) (τ.1 53) (τ.1 52) (fun j hj => by
        rw [if_neg (by omega)]
        exact g3 j (by omega)) (fun _ _ => rfl) (upd_i _ (by rw [g2]; rfl)).symm
      have e : sI (sI τ 53 (τ.1 53)) 52 (τ.1 52) = τ := by rw [sI_id, sI_id]
      rw [e] at h
      exact h
    · rw [if_pos (e8.mp c2)]
      exact XP.mk hR.1 hfr
  · rw [if_pos c]
    exact XP.mk hR.1 hfr
