/-! PIPE of the second side. -/
theorem cnt_neg (f : Nat → Bool) (N : Nat) : cnt f N + cnt (fun d => !f d) N = N := by
  induction N with
  | zero => rfl
  | succ N ih =>
    simp only [cnt]
    by_cases h : f N = true
    · simp only [h, if_true, Bool.not_true, Bool.false_eq_true, if_false]
      omega
    · have h2 : f N = false := Bool.eq_false_iff.mpr h
      simp only [h2, Bool.not_false, Bool.false_eq_true, if_false, if_true]
      omega
theorem cnt_e1 (r N : Nat) : cnt (fun d => decide (d = r)) N = if r < N then 1 else 0 := by
  induction N with
  | zero => rfl
  | succ N ih =>
    simp only [cnt]
    rw [ih]
    by_cases e : N = r
    · subst e; simp
    · by_cases h : r < N
      · simp [e, h, show r < N + 1 by omega]
      · simp [e, h, show ¬ r < N + 1 by omega]
theorem cnt_e2 {r w N : Nat} (hr : r < w) (hw : w < N) : cnt (fun d => decide (d = r) || decide (d = w)) N = 2 := by
  have h : ∀ N, cnt (fun d => decide (d = r) || decide (d = w)) N = (if r < N then 1 else 0) + (if w < N then 1 else 0) := by
    intro N
    induction N with
    | zero => rfl
    | succ N ih =>
      simp only [cnt]
      rw [ih]
      by_cases e1 : N = r
      · have e2 : ¬ N = w := by omega
        simp [e1, show ¬ w < r by omega, show ¬ w < r + 1 by omega]
      · by_cases e2 : N = w
        · simp [e1, e2, hr, show r < w + 1 by omega]
        · have a1 : (r < N + 1 ↔ r < N) := by omega
          have a2 : (w < N + 1 ↔ w < N) := by omega
          simp [e1, e2, a1, a2]
  rw [h, if_pos (by omega), if_pos hw]
theorem lst_c0 {f : Nat → Bool} {N : Nat} (h : lst f 0 N = none) : cnt f N = 0 := by
  cases hc : cnt f N with
  | zero => rfl
  | succ k =>
    obtain ⟨j, h1, h2⟩ := cnt_ex (f := f) (n := N) (by omega)
    rw [lst_no h j (Nat.zero_le _) (by omega)] at h2
    cases h2
theorem lst_c1 {f : Nat → Bool} {N r : Nat} (h : lst f 0 N = some r) (h2 : lst f (r + 1) (N - (r + 1)) = none) : cnt f N = 1 := by
  obtain ⟨-, r1, r2, r3⟩ := lst_lt h
  have e : cnt f N = cnt (fun d => decide (d = r)) N := cnt_congr fun j hj => by
    by_cases c : j = r
    · rw [c, r2]; simp
    · rw [decide_eq_false c]
      by_cases c2 : j < r
      · exact r3 j (Nat.zero_le _) c2
      · exact lst_no h2 j (by omega) (by omega)
  rw [e, cnt_e1, if_pos (by omega)]
theorem lst_c2 {f : Nat → Bool} {N r w : Nat} (h : lst f 0 N = some r) (h2 : lst f (r + 1) (N - (r + 1)) = some w) : 2 ≤ cnt f N := by
  obtain ⟨-, r1, r2, -⟩ := lst_lt h
  obtain ⟨w0, w1, w2, -⟩ := lst_lt h2
  rw [← cnt_e2 (r := r) (w := w) (N := N) (by omega) (by omega)]
  refine cnt_mono fun j hj hh => ?_
  rw [Bool.or_eq_true, decide_eq_true_eq, decide_eq_true_eq] at hh
  rcases hh with e | e
  · rw [e]; exact r2
  · rw [e]; exact w2
theorem lst_nx {f f' : Nat → Bool} {r : Nat} (hr : f' r = false) (hf : ∀ j, j ≠ r → f' j = f j) : ∀ k i : Nat, lst f i k = some r → lst f' i k = lst f (r + 1) (i + k - (r + 1)) := by
  intro k
  induction k with
  | zero => intro i h; cases h
  | succ k ih =>
    intro i h
    cases hi : f i with
    | true =>
      rw [lst_t hi] at h
      have e : i = r := Option.some.inj h
      subst e
      rw [lst_f hr, show i + (k + 1) - (i + 1) = k by omega]
      exact lst_congr fun j h1 _ => hf j (by omega)
    | false =>
      rw [lst_f hi] at h
      obtain ⟨r0, -⟩ := lst_lt h
      rw [lst_f (by rw [hf i (by omega)]; exact hi), ih (i + 1) h, show i + 1 + k = i + (k + 1) by omega]
theorem has_s {ds : Nat → Nat} {k o : Nat} (hk : k < 15) (h : ds k = 0) : has (va_up ds k (o + 1)) o = true := by
  unfold has
  rw [ocnt_at hk h, if_pos rfl]
  exact decide_eq_true (by omega)
theorem freeD_nx {m : MS} {p r x t d : Nat} (h : freeD m p 0 = some r) : freeD (q_mk m (p * 5 + r) x t d) p 0 = freeD m p (r + 1) := by
  unfold freeD at h ⊢
  refine lst_nx ?_ ?_ 5 0 h
  · show decide (va_up (q_ds m) (p * 5 + r) (x + 1) (p * 5 + r) = 0) = false
    rw [va_s]
    exact decide_eq_false (by omega)
  · intro j hj
    have e : va_up (q_ds m) (p * 5 + r) (x + 1) (p * 5 + j) = q_ds m (p * 5 + j) := by
      simp only [va_up]
      rw [if_neg (by omega)]
    show decide (va_up (q_ds m) (p * 5 + r) (x + 1) (p * 5 + j) = 0) = _
    rw [e]
theorem freeO_nx {m : MS} {k x t d : Nat} (hk : k < 15) (h0 : q_ds m k = 0) (h : freeO m 0 = some x) : freeO (q_mk m k x t d) 0 = freeO m (x + 1) := by
  unfold freeO at h ⊢
  refine lst_nx ?_ ?_ 8 0 h
  · show (!has (va_up (q_ds m) k (x + 1)) x) = false
    rw [has_s hk h0]
    rfl
  · intro j hj
    show (!has (va_up (q_ds m) k (x + 1)) j) = _
    rw [has_at hk h0 hj]
theorem RMp_hl0 {m : MS} {σ : oT} {q : Nat} (h : RMp m σ) (hq : pex m q = false) : RMp (q_shl m (va_up (q_hl m) q 0)) (sI (sI σ 51 (upd (σ.1 51) q 1)) 52 (upd (σ.1 52) q 0)) ∧ qX (q_shl m (va_up (q_hl m) q 0)) (sI (sI σ 51 (upd (σ.1 51) q 1)) 52 (upd (σ.1 52) q 0)) q := by
  refine ⟨⟨h.1, h.2.1, h.2.2.1, h.2.2.2.1, h.2.2.2.2.1, h.2.2.2.2.2.1, h.2.2.2.2.2.2.1, h.2.2.2.2.2.2.2.1, fun j hj hh => ?_⟩, ?_⟩
  · have e : ¬ j = q := fun e => by
      have hh' : pex m j = true := hh
      rw [e, hq] at hh'
      cases hh'
    obtain ⟨e1, e2, e3⟩ := h.2.2.2.2.2.2.2.2 j hj hh
    show upd (σ.1 51) q 1 j = 1 ∧ upd (σ.1 52) q 0 j = nI (va_up (q_hl m) q 0 j) ∧ ∀ i, i < va_up (q_hl m) q 0 j → σ.1 53 (8 * j + i) = nI (q_pb m j i)
    simp only [upd, va_up]
    rw [if_neg e, if_neg e, if_neg e]
    exact ⟨e1, e2, e3⟩
  · show upd (σ.1 51) q 1 q = 1 ∧ upd (σ.1 52) q 0 q = nI (va_up (q_hl m) q 0 q) ∧ ∀ i, i < va_up (q_hl m) q 0 q → σ.1 53 (8 * q + i) = nI (q_pb m q i)
    rw [va_s]
    exact ⟨by simp [upd], by simp [upd]; rfl, fun i hi => absurd hi (Nat.not_lt_zero _)⟩
/-- the end of PIPE: both ends are made -/
theorem pip_92 (G : oG) (σ τ : oT) (m : MS) (hO : Ok m) (hR : RMp m τ) (hz : ∀ o, o < 8 → has (q_ds m) o = false → τ.1 47 o = 0) (hfr : frX σ τ) {p r w x y q : Nat} (hp : p < 3) (hw : τ.2.2 36 19 = nI p) (hq2 : q < 2) (hqx : qX m τ q) (hl0 : q_hl m q = 0) (hr : freeD m p 0 = some r) (hw2 : freeD m p (r + 1) = some w) (hx : freeO m 0 = some x) (hy : freeO m (x + 1) = some y) {mem lc : Nat → Nat} (hmm : q_mem m = mem) (hl : ∀ j, j < 2 → lc j < 320 ∧ τ.1 55 j = nI (lc j)) : Wp G m_X_pipes (XP σ (0, q_smem (q_mk (q_mk m (p * 5 + r) x (6 + q) 1) (p * 5 + w) y (6 + q) 2) (q_wr mem lc (piV r w) 2))) 92 0 0 [(0, .ref 37), (1, .int (nI q))] [.int (nI r), .ref 37] (enc τ) := by
  obtain ⟨-, r5, r0⟩ := freeD_some hr
  obtain ⟨wr, w5, w0⟩ := freeD_some hw2
  obtain ⟨-, x8, x0⟩ := freeO_some (by decide) hx
  obtain ⟨xy, y8, y0⟩ := freeO_some (by omega) hy
  have h0 := hl 0 (by decide)
  have h1 := hl 1 (by decide)
  have e1 : nI (kdX (6 + q) 1) = 2 := by
    unfold kdX
    rw [if_neg (by omega), if_pos rfl]
    rfl
  have e2 : nI (kdX (6 + q) 2) = 3 := by
    unfold kdX
    rw [if_neg (by omega), if_neg (by decide)]
    rfl
  have e3 : nI (ofX (6 + q)) = nI q := by
    unfold ofX
    rw [if_neg (by omega)]
    exact congrArg nI (by omega)
  refine s_X_pipes_92 _ _ _ _ _ ?_
  simp only [k_X_pipes_92, o_iconst, o_lconst, o_iload, o_lload, o_aload, o_istore, o_lstore, o_astore, o_iinc, o_iadd, o_isub, o_imul, o_iand, o_ior, o_idiv, o_irem, o_lor, o_lushr, o_lshl, o_i2l, o_l2i, o_lcmp, o_dup, o_pop, o_dup2, o_ifeq, o_ifne, o_iflt, o_ifge, o_ifgt, o_ifle, o_icmpeq, o_icmpne, o_icmplt, o_icmpge, o_icmpgt, o_icmple, o_jmp, o_tsw, o_iret, o_zret, o_lret, o_vret, o_getf, o_putfI, o_putfR, o_iald, o_alen, o_lald, o_zald, o_iast, o_last, o_zast, o_aald, o_aast, o_new, o_newa, o_callS, o_callI, o_callV, o_objInit, o_mmax, o_mmin, o_lk, o_up1, o_up2, o_cl1, o_cl2, o_keep, o_c2, List.getElem?_cons_zero, List.getElem?_cons_succ, List.drop_zero, List.drop_succ_cons, List.take_zero, List.take_succ_cons, List.reverse_cons, List.reverse_nil, List.nil_append, List.cons_append, List.map_cons, List.map_nil, List.sum_cons, List.sum_nil, Value.category, List.length_cons, List.length_nil, List.set_cons_zero, List.set_cons_succ, Option.toList_some, Option.toList_none, lv_args, ↓reduceIte, Nat.reduceAdd, Nat.reduceSub, Nat.reduceMul, Nat.reduceEqDiff, Nat.reduceLeDiff, Nat.reduceLT, reduceCtorEq, Bool.false_eq_true, and_true, true_and, and_self, and_false, false_and, Nat.zero_add, Nat.le_refl, Nat.zero_le, true_or, or_true, not_true_eq_false, not_false_eq_true, forall_const, false_implies, implies_true, true_implies, Int32.reduceAdd, Int32.reduceLE, Int32.reduceLT, Int32.reduceSub, Int32.reduceMul, Int32.reduceToNatClampNeg, og_36, oi_36, ef_36_4, ef_36_19, ef_36_20, ef_36_21, ef_36_22, ef_36_23, og_37, oi_37, oq_37, es_37, og_38, oi_38, oq_38, es_38, og_39, oi_39, oq_39, es_39, og_40, oi_40, oq_40, es_40, og_41, oi_41, es_41, og_42, oi_42, oq_42, es_42, og_43, oi_43, oq_43, es_43, og_44, oi_44, oq_44, es_44, og_45, oi_45, oq_45, es_45, og_46, oi_46, oq_46, es_46, og_47, oi_47, oq_47, es_47, og_48, oi_48, oq_48, es_48, og_49, oi_49, oq_49, es_49, og_50, oi_50, oq_50, es_50, og_51, oi_51, es_51, og_52, oi_52, oq_52, es_52, og_53, oi_53, oq_53, es_53, og_54, oi_54, oq_54, es_54, og_55, oi_55, oq_55, es_55, og_56, oi_56, oq_56, es_56, og_57, oi_57, oq_57, es_57, og_58, oi_58, oq_58, es_58]
  refine o_use (x_newOpen G τ m hR.2.2.2.2.2.2.1 hz (d := r) (a := 2) (b := nI q) (c := 0) hp hw r5 hx) ?_
  rintro v h' ⟨rfl, rfl⟩
  have hR1 := RMp_mk (k := p * 5 + r) (o := x) (t := 6 + q) (d := 1) (c := 0) hR (by omega) r0 (fun h => by omega) (fun h => by omega) (fun q' hq' => by
    have : q' = q := by omega
    rw [this]; exact hqx)
  rw [e1, e3] at hR1
  have hO1 : Ok (q_mk m (p * 5 + r) x (6 + q) 1) := Ok_mk hO (by omega) r0 x8 (by omega) (by decide) (by decide) (fun _ => Or.inl rfl) (fun h => by omega) (fun q' hq' => by
    have : q' = q := by omega
    rw [this, hl0]
    exact ⟨by omega, fun i hi => absurd hi (Nat.not_lt_zero _)⟩)
  have hw1 : (nwT τ 2 (nI q) 0 (p * 5 + r) x).2.2 36 19 = nI p := hw
  have hfr1 : frX σ (nwT τ 2 (nI q) 0 (p * 5 + r) x) := frX_t hfr fr_nw
  have hz1 : ∀ o, o < 8 → has (q_ds (q_mk m (p * 5 + r) x (6 + q) 1)) o = false → (nwT τ 2 (nI q) 0 (p * 5 + r) x).1 47 o = 0 := fun o ho hh => by
    have hne : o ≠ x := fun e => by
      have : has (va_up (q_ds m) (p * 5 + r) (x + 1)) o = false := hh
      rw [e, has_s (by omega) r0] at this
      cases this
    have hh' : has (va_up (q_ds m) (p * 5 + r) (x + 1)) o = false := hh
    rw [has_at (by omega) r0 hne] at hh'
    show upd (τ.1 47) x 2 o = 0
    simp only [upd]
    rw [if_neg hne]
    exact hz o ho hh'
  have hqx1 : qX (q_mk m (p * 5 + r) x (6 + q) 1) (nwT τ 2 (nI q) 0 (p * 5 + r) x) q := hqx
  have hD1 : freeD (q_mk m (p * 5 + r) x (6 + q) 1) p 0 = some w := by rw [freeD_nx hr]; exact hw2
  have hO2 : freeO (q_mk m (p * 5 + r) x (6 + q) 1) 0 = some y := by rw [freeO_nx (by omega) r0 hx]; exact hy
  have hl1 : ∀ j, j < 2 → lc j < 320 ∧ (nwT τ 2 (nI q) 0 (p * 5 + r) x).1 55 j = nI (lc j) := hl
  have hmm1 : q_mem (q_mk m (p * 5 + r) x (6 + q) 1) = mem := hmm
  generalize nwT τ 2 (nI q) 0 (p * 5 + r) x = τ1 at hR1 hw1 hfr1 hz1 hqx1 hl1 ⊢
  generalize q_mk m (p * 5 + r) x (6 + q) 1 = M1 at hR1 hO1 hz1 hqx1 hD1 hO2 hmm1 ⊢
  refine s_X_pipes_98 _ _ _ _ _ ?_
  simp only [k_X_pipes_98, o_iconst, o_lconst, o_iload, o_lload, o_aload, o_istore, o_lstore, o_astore, o_iinc, o_iadd, o_isub, o_imul, o_iand, o_ior, o_idiv, o_irem, o_lor, o_lushr, o_lshl, o_i2l, o_l2i, o_lcmp, o_dup, o_pop, o_dup2, o_ifeq, o_ifne, o_iflt, o_ifge, o_ifgt, o_ifle, o_icmpeq, o_icmpne, o_icmplt, o_icmpge, o_icmpgt, o_icmple, o_jmp, o_tsw, o_iret, o_zret, o_lret, o_vret, o_getf, o_putfI, o_putfR, o_iald, o_alen, o_lald, o_zald, o_iast, o_last, o_zast, o_aald, o_aast, o_new, o_newa, o_callS, o_callI, o_callV, o_objInit, o_mmax, o_mmin, o_lk, o_up1, o_up2, o_cl1, o_cl2, o_keep, o_c2, List.getElem?_cons_zero, List.getElem?_cons_succ, List.drop_zero, List.drop_succ_cons, List.take_zero, List.take_succ_cons, List.reverse_cons, List.reverse_nil, List.nil_append, List.cons_append, List.map_cons, List.map_nil, List.sum_cons, List.sum_nil, Value.category, List.length_cons, List.length_nil, List.set_cons_zero, List.set_cons_succ, Option.toList_some, Option.toList_none, lv_args, ↓reduceIte, Nat.reduceAdd, Nat.reduceSub, Nat.reduceMul, Nat.reduceEqDiff, Nat.reduceLeDiff, Nat.reduceLT, reduceCtorEq, Bool.false_eq_true, and_true, true_and, and_self, and_false, false_and, Nat.zero_add, Nat.le_refl, Nat.zero_le, true_or, or_true, not_true_eq_false, not_false_eq_true, forall_const, false_implies, implies_true, true_implies, Int32.reduceAdd, Int32.reduceLE, Int32.reduceLT, Int32.reduceSub, Int32.reduceMul, Int32.reduceToNatClampNeg, og_36, oi_36, ef_36_4, ef_36_19, ef_36_20, ef_36_21, ef_36_22, ef_36_23, og_37, oi_37, oq_37, es_37, og_38, oi_38, oq_38, es_38, og_39, oi_39, oq_39, es_39, og_40, oi_40, oq_40, es_40, og_41, oi_41, es_41, og_42, oi_42, oq_42, es_42, og_43, oi_43, oq_43, es_43, og_44, oi_44, oq_44, es_44, og_45, oi_45, oq_45, es_45, og_46, oi_46, oq_46, es_46, og_47, oi_47, oq_47, es_47, og_48, oi_48, oq_48, es_48, og_49, oi_49, oq_49, es_49, og_50, oi_50, oq_50, es_50, og_51, oi_51, es_51, og_52, oi_52, oq_52, es_52, og_53, oi_53, oq_53, es_53, og_54, oi_54, oq_54, es_54, og_55, oi_55, oq_55, es_55, og_56, oi_56, oq_56, es_56, og_57, oi_57, oq_57, es_57, og_58, oi_58, oq_58, es_58]
  refine o_use (x_freeDescriptor G τ1 M1 hO1.2.2.2.1 hR1.2.2.2.2.2.1 hp hw1) ?_
  rintro v h' ⟨rfl, rfl⟩
  rw [hD1]
  obtain ⟨-, -, w01⟩ := freeD_some hD1
  refine s_X_pipes_104 _ _ _ _ _ ?_
  simp only [k_X_pipes_104, o_iconst, o_lconst, o_iload, o_lload, o_aload, o_istore, o_lstore, o_astore, o_iinc, o_iadd, o_isub, o_imul, o_iand, o_ior, o_idiv, o_irem, o_lor, o_lushr, o_lshl, o_i2l, o_l2i, o_lcmp, o_dup, o_pop, o_dup2, o_ifeq, o_ifne, o_iflt, o_ifge, o_ifgt, o_ifle, o_icmpeq, o_icmpne, o_icmplt, o_icmpge, o_icmpgt, o_icmple, o_jmp, o_tsw, o_iret, o_zret, o_lret, o_vret, o_getf, o_putfI, o_putfR, o_iald, o_alen, o_lald, o_zald, o_iast, o_last, o_zast, o_aald, o_aast, o_new, o_newa, o_callS, o_callI, o_callV, o_objInit, o_mmax, o_mmin, o_lk, o_up1, o_up2, o_cl1, o_cl2, o_keep, o_c2, List.getElem?_cons_zero, List.getElem?_cons_succ, List.drop_zero, List.drop_succ_cons, List.take_zero, List.take_succ_cons, List.reverse_cons, List.reverse_nil, List.nil_append, List.cons_append, List.map_cons, List.map_nil, List.sum_cons, List.sum_nil, Value.category, List.length_cons, List.length_nil, List.set_cons_zero, List.set_cons_succ, Option.toList_some, Option.toList_none, lv_args, ↓reduceIte, Nat.reduceAdd, Nat.reduceSub, Nat.reduceMul, Nat.reduceEqDiff, Nat.reduceLeDiff, Nat.reduceLT, reduceCtorEq, Bool.false_eq_true, and_true, true_and, and_self, and_false, false_and, Nat.zero_add, Nat.le_refl, Nat.zero_le, true_or, or_true, not_true_eq_false, not_false_eq_true, forall_const, false_implies, implies_true, true_implies, Int32.reduceAdd, Int32.reduceLE, Int32.reduceLT, Int32.reduceSub, Int32.reduceMul, Int32.reduceToNatClampNeg, og_36, oi_36, ef_36_4, ef_36_19, ef_36_20, ef_36_21, ef_36_22, ef_36_23, og_37, oi_37, oq_37, es_37, og_38, oi_38, oq_38, es_38, og_39, oi_39, oq_39, es_39, og_40, oi_40, oq_40, es_40, og_41, oi_41, es_41, og_42, oi_42, oq_42, es_42, og_43, oi_43, oq_43, es_43, og_44, oi_44, oq_44, es_44, og_45, oi_45, oq_45, es_45, og_46, oi_46, oq_46, es_46, og_47, oi_47, oq_47, es_47, og_48, oi_48, oq_48, es_48, og_49, oi_49, oq_49, es_49, og_50, oi_50, oq_50, es_50, og_51, oi_51, es_51, og_52, oi_52, oq_52, es_52, og_53, oi_53, oq_53, es_53, og_54, oi_54, oq_54, es_54, og_55, oi_55, oq_55, es_55, og_56, oi_56, oq_56, es_56, og_57, oi_57, oq_57, es_57, og_58, oi_58, oq_58, es_58, oi_som]
  refine o_use (x_newOpen G τ1 M1 hR1.2.2.2.2.2.2.1 hz1 (d := w) (a := 3) (b := nI q) (c := 0) hp hw1 w5 hO2) ?_
  rintro v h' ⟨rfl, rfl⟩
  have hR2 := RMp_mk (k := p * 5 + w) (o := y) (t := 6 + q) (d := 2) (c := 0) hR1 (by omega) w01 (fun h => by omega) (fun h => by omega) (fun q' hq' => by
    have : q' = q := by omega
    rw [this]; exact hqx1)
  rw [e2, e3] at hR2
  have hfr2 : frX σ (nwT τ1 3 (nI q) 0 (p * 5 + w) y) := frX_t hfr1 fr_nw
  have hl2 : ∀ j, j < 2 → lc j < 320 ∧ (nwT τ1 3 (nI q) 0 (p * 5 + w) y).1 55 j = nI (lc j) := hl1
  have hmm2 : q_mem (q_mk M1 (p * 5 + w) y (6 + q) 2) = mem := hmm1
  generalize nwT τ1 3 (nI q) 0 (p * 5 + w) y = τ2 at hR2 hfr2 hl2 ⊢
  generalize q_mk M1 (p * 5 + w) y (6 + q) 2 = M2 at hR2 hmm2 ⊢
  have k0 := (hl2 0 (by decide)).2
  have k1 := (hl2 1 (by decide)).2
  refine s_X_pipes_110 _ _ _ _ _ ?_
  simp only [k_X_pipes_110, o_iconst, o_lconst, o_iload, o_lload, o_aload, o_istore, o_lstore, o_astore, o_iinc, o_iadd, o_isub, o_imul, o_iand, o_ior, o_idiv, o_irem, o_lor, o_lushr, o_lshl, o_i2l, o_l2i, o_lcmp, o_dup, o_pop, o_dup2, o_ifeq, o_ifne, o_iflt, o_ifge, o_ifgt, o_ifle, o_icmpeq, o_icmpne, o_icmplt, o_icmpge, o_icmpgt, o_icmple, o_jmp, o_tsw, o_iret, o_zret, o_lret, o_vret, o_getf, o_putfI, o_putfR, o_iald, o_alen, o_lald, o_zald, o_iast, o_last, o_zast, o_aald, o_aast, o_new, o_newa, o_callS, o_callI, o_callV, o_objInit, o_mmax, o_mmin, o_lk, o_up1, o_up2, o_cl1, o_cl2, o_keep, o_c2, List.getElem?_cons_zero, List.getElem?_cons_succ, List.drop_zero, List.drop_succ_cons, List.take_zero, List.take_succ_cons, List.reverse_cons, List.reverse_nil, List.nil_append, List.cons_append, List.map_cons, List.map_nil, List.sum_cons, List.sum_nil, Value.category, List.length_cons, List.length_nil, List.set_cons_zero, List.set_cons_succ, Option.toList_some, Option.toList_none, lv_args, ↓reduceIte, Nat.reduceAdd, Nat.reduceSub, Nat.reduceMul, Nat.reduceEqDiff, Nat.reduceLeDiff, Nat.reduceLT, reduceCtorEq, Bool.false_eq_true, and_true, true_and, and_self, and_false, false_and, Nat.zero_add, Nat.le_refl, Nat.zero_le, true_or, or_true, not_true_eq_false, not_false_eq_true, forall_const, false_implies, implies_true, true_implies, Int32.reduceAdd, Int32.reduceLE, Int32.reduceLT, Int32.reduceSub, Int32.reduceMul, Int32.reduceToNatClampNeg, og_36, oi_36, ef_36_4, ef_36_19, ef_36_20, ef_36_21, ef_36_22, ef_36_23, og_37, oi_37, oq_37, es_37, og_38, oi_38, oq_38, es_38, og_39, oi_39, oq_39, es_39, og_40, oi_40, oq_40, es_40, og_41, oi_41, es_41, og_42, oi_42, oq_42, es_42, og_43, oi_43, oq_43, es_43, og_44, oi_44, oq_44, es_44, og_45, oi_45, oq_45, es_45, og_46, oi_46, oq_46, es_46, og_47, oi_47, oq_47, es_47, og_48, oi_48, oq_48, es_48, og_49, oi_49, oq_49, es_49, og_50, oi_50, oq_50, es_50, og_51, oi_51, es_51, og_52, oi_52, oq_52, es_52, og_53, oi_53, oq_53, es_53, og_54, oi_54, oq_54, es_54, og_55, oi_55, oq_55, es_55, og_56, oi_56, oq_56, es_56, og_57, oi_57, oq_57, es_57, og_58, oi_58, oq_58, es_58, sI_1, sI_2, sL_1, sL_2, sL_3, sF_1, sF_2, sF_3, sI_sI, k0, k1, nI_clamp (show lc 0 < 2 ^ 31 by omega), nI_clamp (show lc 1 < 2 ^ 31 by omega)]
  refine ⟨vp_in_nI (n := 0) (by decide) (by decide), vp_in_nI h0.1 (by decide), vp_in_nI (n := 1) (by decide) (by decide), vp_in_nI h1.1 (by decide), ?_⟩
  have hb : ∀ k, k < 320 → τ2.1 37 k = nI (q_wr mem lc (piV r w) 0 k) := fun k hk => by
    rw [hR2.2.1 k hk, hmm2]
    rfl
  exact XP.mk (RMp_b hR2 (wr_s (wr_s hb))) (frX_t hfr2 (frX_sI (frX_r τ2) (by decide)))
def fpF (m : MS) : Nat → Bool := fun q => !pex m q
theorem x_pipes (G : oG) (σ : oT) (m : MS) (hO : Ok m) (hR : RM m σ) {p : Nat} {a : Int32} (hp : p < 3) (hw : σ.2.2 36 19 = nI p) (ha : σ.2.2 36 20 = a) : Mt G m_X_pipes [.ref 37] (enc σ) 0 0 (XP σ (sp_pipe m p a)) := by
  subst ha
  refine Mt.of (by decide) (Nat.le_of_ble_eq_true rfl) (s_X_pipes_0 _ _ _ _ _ ?_)
  simp only [k_X_pipes_0, o_iconst, o_lconst, o_iload, o_lload, o_aload, o_istore, o_lstore, o_astore, o_iinc, o_iadd, o_isub, o_imul, o_iand, o_ior, o_idiv, o_irem, o_lor, o_lushr, o_lshl, o_i2l, o_l2i, o_lcmp, o_dup, o_pop, o_dup2, o_ifeq, o_ifne, o_iflt, o_ifge, o_ifgt, o_ifle, o_icmpeq, o_icmpne, o_icmplt, o_icmpge, o_icmpgt, o_icmple, o_jmp, o_tsw, o_iret, o_zret, o_lret, o_vret, o_getf, o_putfI, o_putfR, o_iald, o_alen, o_lald, o_zald, o_iast, o_last, o_zast, o_aald, o_aast, o_new, o_newa, o_callS, o_callI, o_callV, o_objInit, o_mmax, o_mmin, o_lk, o_up1, o_up2, o_cl1, o_cl2, o_keep, o_c2, List.getElem?_cons_zero, List.getElem?_cons_succ, List.drop_zero, List.drop_succ_cons, List.take_zero, List.take_succ_cons, List.reverse_cons, List.reverse_nil, List.nil_append, List.cons_append, List.map_cons, List.map_nil, List.sum_cons, List.sum_nil, Value.category, List.length_cons, List.length_nil, List.set_cons_zero, List.set_cons_succ, Option.toList_some, Option.toList_none, lv_args, ↓reduceIte, Nat.reduceAdd, Nat.reduceSub, Nat.reduceMul, Nat.reduceEqDiff, Nat.reduceLeDiff, Nat.reduceLT, reduceCtorEq, Bool.false_eq_true, and_true, true_and, and_self, and_false, false_and, Nat.zero_add, Nat.le_refl, Nat.zero_le, true_or, or_true, not_true_eq_false, not_false_eq_true, forall_const, false_implies, implies_true, true_implies, Int32.reduceAdd, Int32.reduceLE, Int32.reduceLT, Int32.reduceSub, Int32.reduceMul, Int32.reduceToNatClampNeg, og_36, oi_36, ef_36_4, ef_36_19, ef_36_20, ef_36_21, ef_36_22, ef_36_23, og_37, oi_37, oq_37, es_37, og_38, oi_38, oq_38, es_38, og_39, oi_39, oq_39, es_39, og_40, oi_40, oq_40, es_40, og_41, oi_41, es_41, og_42, oi_42, oq_42, es_42, og_43, oi_43, oq_43, es_43, og_44, oi_44, oq_44, es_44, og_45, oi_45, oq_45, es_45, og_46, oi_46, oq_46, es_46, og_47, oi_47, oq_47, es_47, og_48, oi_48, oq_48, es_48, og_49, oi_49, oq_49, es_49, og_50, oi_50, oq_50, es_50, og_51, oi_51, es_51, og_52, oi_52, oq_52, es_52, og_53, oi_53, oq_53, es_53, og_54, oi_54, oq_54, es_54, og_55, oi_55, oq_55, es_55, og_56, oi_56, oq_56, es_56, og_57, oi_57, oq_57, es_57, og_58, oi_58, oq_58, es_58, sI_1, sI_2, sL_1, sL_2, sL_3, sF_1, sF_2, sF_3]
  have hS0 : frS σ (sF σ 36 23 0) := frS_F (frS_r σ)
  have hR0 := RM_S hR hS0
  refine o_use (x_range G (sF σ 36 23 0) m hO.1 hR0.1.1 (s := 0) (n := 2) (fl := 2) (σ.2.2 36 20) hp hw rfl (by decide) (Or.inr rfl)) ?_
  intro v h' hv
  obtain ⟨rfl, τ, s1, rfl, hS1, hK1, e23, s1le, -, hsp, hT1⟩ := XR_u hv
  have hS := frS_t hS0 hS1
  have hRt := RM_S hR hS
  have fr := frS_X hS
  have e19 : τ.2.2 36 19 = nI p := by rw [hS.2.2 36 19 (by decide)]; exact hw
  refine s_X_pipes_15 _ _ _ _ _ ?_
  unfold sp_pipe
  cases hok : q_okn m p (σ.2.2 36 20) 2 2 with
  | false =>
    simp only [k_X_pipes_15, o_iconst, o_lconst, o_iload, o_lload, o_aload, o_istore, o_lstore, o_astore, o_iinc, o_iadd, o_isub, o_imul, o_iand, o_ior, o_idiv, o_irem, o_lor, o_lushr, o_lshl, o_i2l, o_l2i, o_lcmp, o_dup, o_pop, o_dup2, o_ifeq, o_ifne, o_iflt, o_ifge, o_ifgt, o_ifle, o_icmpeq, o_icmpne, o_icmplt, o_icmpge, o_icmpgt, o_icmple, o_jmp, o_tsw, o_iret, o_zret, o_lret, o_vret, o_getf, o_putfI, o_putfR, o_iald, o_alen, o_lald, o_zald, o_iast, o_last, o_zast, o_aald, o_aast, o_new, o_newa, o_callS, o_callI, o_callV, o_objInit, o_mmax, o_mmin, o_lk, o_up1, o_up2, o_cl1, o_cl2, o_keep, o_c2, List.getElem?_cons_zero, List.getElem?_cons_succ, List.drop_zero, List.drop_succ_cons, List.take_zero, List.take_succ_cons, List.reverse_cons, List.reverse_nil, List.nil_append, List.cons_append, List.map_cons, List.map_nil, List.sum_cons, List.sum_nil, Value.category, List.length_cons, List.length_nil, List.set_cons_zero, List.set_cons_succ, Option.toList_some, Option.toList_none, lv_args, ↓reduceIte, Nat.reduceAdd, Nat.reduceSub, Nat.reduceMul, Nat.reduceEqDiff, Nat.reduceLeDiff, Nat.reduceLT, reduceCtorEq, Bool.false_eq_true, and_true, true_and, and_self, and_false, false_and, Nat.zero_add, Nat.le_refl, Nat.zero_le, true_or, or_true, not_true_eq_false, not_false_eq_true, forall_const, false_implies, implies_true, true_implies, Int32.reduceAdd, Int32.reduceLE, Int32.reduceLT, Int32.reduceSub, Int32.reduceMul, Int32.reduceToNatClampNeg, og_36, oi_36, ef_36_4, ef_36_19, ef_36_20, ef_36_21, ef_36_22, ef_36_23, og_37, oi_37, oq_37, es_37, og_38, oi_38, oq_38, es_38, og_39, oi_39, oq_39, es_39, og_40, oi_40, oq_40, es_40, og_41, oi_41, es_41, og_42, oi_42, oq_42, es_42, og_43, oi_43, oq_43, es_43, og_44, oi_44, oq_44, es_44, og_45, oi_45, oq_45, es_45, og_46, oi_46, oq_46, es_46, og_47, oi_47, oq_47, es_47, og_48, oi_48, oq_48, es_48, og_49, oi_49, oq_49, es_49, og_50, oi_50, oq_50, es_50, og_51, oi_51, es_51, og_52, oi_52, oq_52, es_52, og_53, oi_53, oq_53, es_53, og_54, oi_54, oq_54, es_54, og_55, oi_55, oq_55, es_55, og_56, oi_56, oq_56, es_56, og_57, oi_57, oq_57, es_57, og_58, oi_58, oq_58, es_58, bz_f]
    exact XP.mk hRt.1 fr
  | true =>
    obtain ⟨-, hL1⟩ := hT1 hok
    rw [if_pos rfl]
    simp only [k_X_pipes_15, o_iconst, o_lconst, o_iload, o_lload, o_aload, o_istore, o_lstore, o_astore, o_iinc, o_iadd, o_isub, o_imul, o_iand, o_ior, o_idiv, o_irem, o_lor, o_lushr, o_lshl, o_i2l, o_l2i, o_lcmp, o_dup, o_pop, o_dup2, o_ifeq, o_ifne, o_iflt, o_ifge, o_ifgt, o_ifle, o_icmpeq, o_icmpne, o_icmplt, o_icmpge, o_icmpgt, o_icmple, o_jmp, o_tsw, o_iret, o_zret, o_lret, o_vret, o_getf, o_putfI, o_putfR, o_iald, o_alen, o_lald, o_zald, o_iast, o_last, o_zast, o_aald, o_aast, o_new, o_newa, o_callS, o_callI, o_callV, o_objInit, o_mmax, o_mmin, o_lk, o_up1, o_up2, o_cl1, o_cl2, o_keep, o_c2, List.getElem?_cons_zero, List.getElem?_cons_succ, List.drop_zero, List.drop_succ_cons, List.take_zero, List.take_succ_cons, List.reverse_cons, List.reverse_nil, List.nil_append, List.cons_append, List.map_cons, List.map_nil, List.sum_cons, List.sum_nil, Value.category, List.length_cons, List.length_nil, List.set_cons_zero, List.set_cons_succ, Option.toList_some, Option.toList_none, lv_args, ↓reduceIte, Nat.reduceAdd, Nat.reduceSub, Nat.reduceMul, Nat.reduceEqDiff, Nat.reduceLeDiff, Nat.reduceLT, reduceCtorEq, Bool.false_eq_true, and_true, true_and, and_self, and_false, false_and, Nat.zero_add, Nat.le_refl, Nat.zero_le, true_or, or_true, not_true_eq_false, not_false_eq_true, forall_const, false_implies, implies_true, true_implies, Int32.reduceAdd, Int32.reduceLE, Int32.reduceLT, Int32.reduceSub, Int32.reduceMul, Int32.reduceToNatClampNeg, og_36, oi_36, ef_36_4, ef_36_19, ef_36_20, ef_36_21, ef_36_22, ef_36_23, og_37, oi_37, oq_37, es_37, og_38, oi_38, oq_38, es_38, og_39, oi_39, oq_39, es_39, og_40, oi_40, oq_40, es_40, og_41, oi_41, es_41, og_42, oi_42, oq_42, es_42, og_43, oi_43, oq_43, es_43, og_44, oi_44, oq_44, es_44, og_45, oi_45, oq_45, es_45, og_46, oi_46, oq_46, es_46, og_47, oi_47, oq_47, es_47, og_48, oi_48, oq_48, es_48, og_49, oi_49, oq_49, es_49, og_50, oi_50, oq_50, es_50, og_51, oi_51, es_51, og_52, oi_52, oq_52, es_52, og_53, oi_53, oq_53, es_53, og_54, oi_54, oq_54, es_54, og_55, oi_55, oq_55, es_55, og_56, oi_56, oq_56, es_56, og_57, oi_57, oq_57, es_57, og_58, oi_58, oq_58, es_58, bz_t, e19]
    refine ⟨fun _ => ?_, fun q => absurd q i01⟩
    refine o_use (x_descr0 G τ m hO.2.2.2.1 hRt.1.2.2.2.2.2.1 (nI p) (fun v h' => v = some (.int (sp_descr m (nI p))) ∧ h' = enc τ) ⟨rfl, rfl⟩) ?_
    rintro v h' ⟨rfl, rfl⟩
    have eD : sp_descr m (nI p) = nI (cnt (fun d => !fdF m p d) 5) := by
      unfold sp_descr
      rw [if_pos (show wI (nI p) 3 = true from wI_nI hp (by decide)), tN_nI (show p < 2 ^ 31 by omega)]
      refine congrArg nI (cnt_congr fun j hj => ?_)
      simp [fdF]
    have cD := cnt_neg (fdF m p) 5
    have bD := cnt_le (fun d => !fdF m p d) 5
    rw [eD]
    have lD := nI_leI (a := cnt (fun d => !fdF m p d) 5) (b := 3) (by omega) (by decide)
    refine s_X_pipes_29 _ _ _ _ _ ?_
    simp only [k_X_pipes_29, o_iconst, o_lconst, o_iload, o_lload, o_aload, o_istore, o_lstore, o_astore, o_iinc, o_iadd, o_isub, o_imul, o_iand, o_ior, o_idiv, o_irem, o_lor, o_lushr, o_lshl, o_i2l, o_l2i, o_lcmp, o_dup, o_pop, o_dup2, o_ifeq, o_ifne, o_iflt, o_ifge, o_ifgt, o_ifle, o_icmpeq, o_icmpne, o_icmplt, o_icmpge, o_icmpgt, o_icmple, o_jmp, o_tsw, o_iret, o_zret, o_lret, o_vret, o_getf, o_putfI, o_putfR, o_iald, o_alen, o_lald, o_zald, o_iast, o_last, o_zast, o_aald, o_aast, o_new, o_newa, o_callS, o_callI, o_callV, o_objInit, o_mmax, o_mmin, o_lk, o_up1, o_up2, o_cl1, o_cl2, o_keep, o_c2, List.getElem?_cons_zero, List.getElem?_cons_succ, List.drop_zero, List.drop_succ_cons, List.take_zero, List.take_succ_cons, List.reverse_cons, List.reverse_nil, List.nil_append, List.cons_append, List.map_cons, List.map_nil, List.sum_cons, List.sum_nil, Value.category, List.length_cons, List.length_nil, List.set_cons_zero, List.set_cons_succ, Option.toList_some, Option.toList_none, lv_args, ↓reduceIte, Nat.reduceAdd, Nat.reduceSub, Nat.reduceMul, Nat.reduceEqDiff, Nat.reduceLeDiff, Nat.reduceLT, reduceCtorEq, Bool.false_eq_true, and_true, true_and, and_self, and_false, false_and, Nat.zero_add, Nat.le_refl, Nat.zero_le, true_or, or_true, not_true_eq_false, not_false_eq_true, forall_const, false_implies, implies_true, true_implies, Int32.reduceAdd, Int32.reduceLE, Int32.reduceLT, Int32.reduceSub, Int32.reduceMul, Int32.reduceToNatClampNeg, og_36, oi_36, ef_36_4, ef_36_19, ef_36_20, ef_36_21, ef_36_22, ef_36_23, og_37, oi_37, oq_37, es_37, og_38, oi_38, oq_38, es_38, og_39, oi_39, oq_39, es_39, og_40, oi_40, oq_40, es_40, og_41, oi_41, es_41, og_42, oi_42, oq_42, es_42, og_43, oi_43, oq_43, es_43, og_44, oi_44, oq_44, es_44, og_45, oi_45, oq_45, es_45, og_46, oi_46, oq_46, es_46, og_47, oi_47, oq_47, es_47, og_48, oi_48, oq_48, es_48, og_49, oi_49, oq_49, es_49, og_50, oi_50, oq_50, es_50, og_51, oi_51, es_51, og_52, oi_52, oq_52, es_52, og_53, oi_53, oq_53, es_53, og_54, oi_54, oq_54, es_54, og_55, oi_55, oq_55, es_55, og_56, oi_56, oq_56, es_56, og_57, oi_57, oq_57, es_57, og_58, oi_58, oq_58, es_58]
    refine ⟨fun qD => ?_, fun qD => ?_⟩
    · have qD' := lD.mp qD
      cases hr : freeD m p 0 with
      | none =>
        have := lst_c0 (f := fdF m p) (N := 5) hr
        omega
      | some r =>
      try dsimp only
      cases hw2 : freeD m p (r + 1) with
      | none =>
        have := lst_c1 (f := fdF m p) (N := 5) hr hw2
        omega
      | some w =>
      refine o_use (x_count2 G τ m hRt.1.2.2.2.2.2.2.1 hRt.2.1 (fun v h' => v = some (.int (nI (cnt (has (q_ds m)) 8))) ∧ h' = enc τ) ⟨rfl, rfl⟩) ?_
      rintro v h' ⟨rfl, rfl⟩
      have cO := cnt_neg (foF m) 8
      have eO : cnt (fun o => !foF m o) 8 = cnt (has (q_ds m)) 8 := cnt_congr fun j hj => by simp [foF, fpF]
      rw [eO] at cO
      have lO := nI_ltI (a := 6) (b := cnt (has (q_ds m)) 8) (by decide) (by omega)
      refine s_X_pipes_41 _ _ _ _ _ ?_
      simp only [k_X_pipes_41, o_iconst, o_lconst, o_iload, o_lload, o_aload, o_istore, o_lstore, o_astore, o_iinc, o_iadd, o_isub, o_imul, o_iand, o_ior, o_idiv, o_irem, o_lor, o_lushr, o_lshl, o_i2l, o_l2i, o_lcmp, o_dup, o_pop, o_dup2, o_ifeq, o_ifne, o_iflt, o_ifge, o_ifgt, o_ifle, o_icmpeq, o_icmpne, o_icmplt, o_icmpge, o_icmpgt, o_icmple, o_jmp, o_tsw, o_iret, o_zret, o_lret, o_vret, o_getf, o_putfI, o_putfR, o_iald, o_alen, o_lald, o_zald, o_iast, o_last, o_zast, o_aald, o_aast, o_new, o_newa, o_callS, o_callI, o_callV, o_objInit, o_mmax, o_mmin, o_lk, o_up1, o_up2, o_cl1, o_cl2, o_keep, o_c2, List.getElem?_cons_zero, List.getElem?_cons_succ, List.drop_zero, List.drop_succ_cons, List.take_zero, List.take_succ_cons, List.reverse_cons, List.reverse_nil, List.nil_append, List.cons_append, List.map_cons, List.map_nil, List.sum_cons, List.sum_nil, Value.category, List.length_cons, List.length_nil, List.set_cons_zero, List.set_cons_succ, Option.toList_some, Option.toList_none, lv_args, ↓reduceIte, Nat.reduceAdd, Nat.reduceSub, Nat.reduceMul, Nat.reduceEqDiff, Nat.reduceLeDiff, Nat.reduceLT, reduceCtorEq, Bool.false_eq_true, and_true, true_and, and_self, and_false, false_and, Nat.zero_add, Nat.le_refl, Nat.zero_le, true_or, or_true, not_true_eq_false, not_false_eq_true, forall_const, false_implies, implies_true, true_implies, Int32.reduceAdd, Int32.reduceLE, Int32.reduceLT, Int32.reduceSub, Int32.reduceMul, Int32.reduceToNatClampNeg, og_36, oi_36, ef_36_4, ef_36_19, ef_36_20, ef_36_21, ef_36_22, ef_36_23, og_37, oi_37, oq_37, es_37, og_38, oi_38, oq_38, es_38, og_39, oi_39, oq_39, es_39, og_40, oi_40, oq_40, es_40, og_41, oi_41, es_41, og_42, oi_42, oq_42, es_42, og_43, oi_43, oq_43, es_43, og_44, oi_44, oq_44, es_44, og_45, oi_45, oq_45, es_45, og_46, oi_46, oq_46, es_46, og_47, oi_47, oq_47, es_47, og_48, oi_48, oq_48, es_48, og_49, oi_49, oq_49, es_49, og_50, oi_50, oq_50, es_50, og_51, oi_51, es_51, og_52, oi_52, oq_52, es_52, og_53, oi_53, oq_53, es_53, og_54, oi_54, oq_54, es_54, og_55, oi_55, oq_55, es_55, og_56, oi_56, oq_56, es_56, og_57, oi_57, oq_57, es_57, og_58, oi_58, oq_58, es_58]
      refine ⟨fun qO => ?_, fun qO => ?_⟩
      · have qO' := lO.mp qO
        cases hx : freeO m 0 with
        | none => exact XP.mk hRt.1 fr
        | some x =>
        try dsimp only
        cases hy : freeO m (x + 1) with
        | none => exact XP.mk hRt.1 fr
        | some y =>
          have := lst_c2 (f := foF m) (N := 8) hx hy
          omega
      · have qO' : ¬ 6 < cnt (has (q_ds m)) 8 := fun h => qO (lO.mpr h)
        cases hx : freeO m 0 with
        | none =>
          have := lst_c0 (f := foF m) (N := 8) hx
          omega
        | some x =>
        try dsimp only
        cases hy : freeO m (x + 1) with
        | none =>
          have := lst_c1 (f := foF m) (N := 8) hx hy
          omega
        | some y =>
        refine o_use (x_count3 G τ m hRt.1.2.2.2.2.2.2.2.2 hRt.2.2.2 (fun v h' => v = some (.int (nI (cnt (pex m) 2))) ∧ h' = enc τ) ⟨rfl, rfl⟩) ?_
        rintro v h' ⟨rfl, rfl⟩
        have cP := cnt_neg (fpF m) 2
        have eP : cnt (fun q => !fpF m q) 2 = cnt (pex m) 2 := cnt_congr fun j hj => by simp [foF, fpF]
        rw [eP] at cP
        have lP := nI_eq (a := cnt (pex m) 2) (b := 2) (by omega) (by decide)
        refine s_X_pipes_51 _ _ _ _ _ ?_
        simp only [k_X_pipes_51, o_iconst, o_lconst, o_iload, o_lload, o_aload, o_istore, o_lstore, o_astore, o_iinc, o_iadd, o_isub, o_imul, o_iand, o_ior, o_idiv, o_irem, o_lor, o_lushr, o_lshl, o_i2l, o_l2i, o_lcmp, o_dup, o_pop, o_dup2, o_ifeq, o_ifne, o_iflt, o_ifge, o_ifgt, o_ifle, o_icmpeq, o_icmpne, o_icmplt, o_icmpge, o_icmpgt, o_icmple, o_jmp, o_tsw, o_iret, o_zret, o_lret, o_vret, o_getf, o_putfI, o_putfR, o_iald, o_alen, o_lald, o_zald, o_iast, o_last, o_zast, o_aald, o_aast, o_new, o_newa, o_callS, o_callI, o_callV, o_objInit, o_mmax, o_mmin, o_lk, o_up1, o_up2, o_cl1, o_cl2, o_keep, o_c2, List.getElem?_cons_zero, List.getElem?_cons_succ, List.drop_zero, List.drop_succ_cons, List.take_zero, List.take_succ_cons, List.reverse_cons, List.reverse_nil, List.nil_append, List.cons_append, List.map_cons, List.map_nil, List.sum_cons, List.sum_nil, Value.category, List.length_cons, List.length_nil, List.set_cons_zero, List.set_cons_succ, Option.toList_some, Option.toList_none, lv_args, ↓reduceIte, Nat.reduceAdd, Nat.reduceSub, Nat.reduceMul, Nat.reduceEqDiff, Nat.reduceLeDiff, Nat.reduceLT, reduceCtorEq, Bool.false_eq_true, and_true, true_and, and_self, and_false, false_and, Nat.zero_add, Nat.le_refl, Nat.zero_le, true_or, or_true, not_true_eq_false, not_false_eq_true, forall_const, false_implies, implies_true, true_implies, Int32.reduceAdd, Int32.reduceLE, Int32.reduceLT, Int32.reduceSub, Int32.reduceMul, Int32.reduceToNatClampNeg, og_36, oi_36, ef_36_4, ef_36_19, ef_36_20, ef_36_21, ef_36_22, ef_36_23, og_37, oi_37, oq_37, es_37, og_38, oi_38, oq_38, es_38, og_39, oi_39, oq_39, es_39, og_40, oi_40, oq_40, es_40, og_41, oi_41, es_41, og_42, oi_42, oq_42, es_42, og_43, oi_43, oq_43, es_43, og_44, oi_44, oq_44, es_44, og_45, oi_45, oq_45, es_45, og_46, oi_46, oq_46, es_46, og_47, oi_47, oq_47, es_47, og_48, oi_48, oq_48, es_48, og_49, oi_49, oq_49, es_49, og_50, oi_50, oq_50, es_50, og_51, oi_51, es_51, og_52, oi_52, oq_52, es_52, og_53, oi_53, oq_53, es_53, og_54, oi_54, oq_54, es_54, og_55, oi_55, oq_55, es_55, og_56, oi_56, oq_56, es_56, og_57, oi_57, oq_57, es_57, og_58, oi_58, oq_58, es_58]
        refine ⟨fun qP => ?_, fun qP => ?_⟩
        · have qP' : ¬ cnt (pex m) 2 = 2 := fun h => qP (lP.mpr h)
          cases hq : freeP m with
          | none =>
            have := lst_c0 (f := fpF m) (N := 2) hq
            omega
          | some q =>
            obtain ⟨q2, q0⟩ := freeP_some hq
            have e01 : q = if pex m 0 = true then 1 else 0 := by
              cases h0 : pex m 0 with
              | true =>
                rw [if_pos rfl]
                by_cases e : q = 0
                · rw [e, h0] at q0; cases q0
                · omega
              | false =>
                unfold freeP at hq
                rw [lst_t (by rw [h0]; rfl)] at hq
                cases hq
                rfl
            obtain ⟨hR1, hq1⟩ := RMp_hl0 hRt.1 q0
            have fin := pip_92 G σ (sI (sI τ 51 (upd (τ.1 51) q 1)) 52 (upd (τ.1 52) q 0)) (q_shl m (va_up (q_hl m) q 0)) (Ok_hl0 hO) hR1 hRt.2.1 (frX_t fr (frX_sI (frX_sI (frX_r τ) (by decide)) (by decide))) (r := r) (w := w) (x := x) (y := y) (q := q) hp e19 q2 hq1 (va_s (q_hl m) q 0) hr hw2 hx hy (mem := q_mem m) (lc := fun j => q_loc m p (tN (σ.2.2 36 20) + j)) rfl (fun j hj => ⟨q_loc_lt hO.1 _ _, by
              have := hL1 j hj
              rw [Nat.zero_add] at this
              exact this⟩)
            have hpz := pipe_z hRt.1.2.2.2.2.2.2.2.2 hRt.2.2.2 (f := 0) (by decide)
            refine s_X_pipes_58 _ _ _ _ _ ?_
            simp only [k_X_pipes_58, o_iconst, o_lconst, o_iload, o_lload, o_aload, o_istore, o_lstore, o_astore, o_iinc, o_iadd, o_isub, o_imul, o_iand, o_ior, o_idiv, o_irem, o_lor, o_lushr, o_lshl, o_i2l, o_l2i, o_lcmp, o_dup, o_pop, o_dup2, o_ifeq, o_ifne, o_iflt, o_ifge, o_ifgt, o_ifle, o_icmpeq, o_icmpne, o_icmplt, o_icmpge, o_icmpgt, o_icmple, o_jmp, o_tsw, o_iret, o_zret, o_lret, o_vret, o_getf, o_putfI, o_putfR, o_iald, o_alen, o_lald, o_zald, o_iast, o_last, o_zast, o_aald, o_aast, o_new, o_newa, o_callS, o_callI, o_callV, o_objInit, o_mmax, o_mmin, o_lk, o_up1, o_up2, o_cl1, o_cl2, o_keep, o_c2, List.getElem?_cons_zero, List.getElem?_cons_succ, List.drop_zero, List.drop_succ_cons, List.take_zero, List.take_succ_cons, List.reverse_cons, List.reverse_nil, List.nil_append, List.cons_append, List.map_cons, List.map_nil, List.sum_cons, List.sum_nil, Value.category, List.length_cons, List.length_nil, List.set_cons_zero, List.set_cons_succ, Option.toList_some, Option.toList_none, lv_args, ↓reduceIte, Nat.reduceAdd, Nat.reduceSub, Nat.reduceMul, Nat.reduceEqDiff, Nat.reduceLeDiff, Nat.reduceLT, reduceCtorEq, Bool.false_eq_true, and_true, true_and, and_self, and_false, false_and, Nat.zero_add, Nat.le_refl, Nat.zero_le, true_or, or_true, not_true_eq_false, not_false_eq_true, forall_const, false_implies, implies_true, true_implies, Int32.reduceAdd, Int32.reduceLE, Int32.reduceLT, Int32.reduceSub, Int32.reduceMul, Int32.reduceToNatClampNeg, og_36, oi_36, ef_36_4, ef_36_19, ef_36_20, ef_36_21, ef_36_22, ef_36_23, og_37, oi_37, oq_37, es_37, og_38, oi_38, oq_38, es_38, og_39, oi_39, oq_39, es_39, og_40, oi_40, oq_40, es_40, og_41, oi_41, es_41, og_42, oi_42, oq_42, es_42, og_43, oi_43, oq_43, es_43, og_44, oi_44, oq_44, es_44, og_45, oi_45, oq_45, es_45, og_46, oi_46, oq_46, es_46, og_47, oi_47, oq_47, es_47, og_48, oi_48, oq_48, es_48, og_49, oi_49, oq_49, es_49, og_50, oi_50, oq_50, es_50, og_51, oi_51, es_51, og_52, oi_52, oq_52, es_52, og_53, oi_53, oq_53, es_53, og_54, oi_54, oq_54, es_54, og_55, oi_55, oq_55, es_55, og_56, oi_56, oq_56, es_56, og_57, oi_57, oq_57, es_57, og_58, oi_58, oq_58, es_58, sI_1, sI_2, sL_1, sL_2, sL_3, sF_1, sF_2, sF_3, nar1]
            refine ⟨vp_in_nI (n := 0) (by decide) (by decide), fun z => ?_, fun z => ?_⟩
            · rw [hpz.mp z, if_neg (by decide)] at e01
              subst e01
              refine s_X_pipes_71 _ _ _ _ _ ?_
              simp only [k_X_pipes_71, o_iconst, o_lconst, o_iload, o_lload, o_aload, o_istore, o_lstore, o_astore, o_iinc, o_iadd, o_isub, o_imul, o_iand, o_ior, o_idiv, o_irem, o_lor, o_lushr, o_lshl, o_i2l, o_l2i, o_lcmp, o_dup, o_pop, o_dup2, o_ifeq, o_ifne, o_iflt, o_ifge, o_ifgt, o_ifle, o_icmpeq, o_icmpne, o_icmplt, o_icmpge, o_icmpgt, o_icmple, o_jmp, o_tsw, o_iret, o_zret, o_lret, o_vret, o_getf, o_putfI, o_putfR, o_iald, o_alen, o_lald, o_zald, o_iast, o_last, o_zast, o_aald, o_aast, o_new, o_newa, o_callS, o_callI, o_callV, o_objInit, o_mmax, o_mmin, o_lk, o_up1, o_up2, o_cl1, o_cl2, o_keep, o_c2, List.getElem?_cons_zero, List.getElem?_cons_succ, List.drop_zero, List.drop_succ_cons, List.take_zero, List.take_succ_cons, List.reverse_cons, List.reverse_nil, List.nil_append, List.cons_append, List.map_cons, List.map_nil, List.sum_cons, List.sum_nil, Value.category, List.length_cons, List.length_nil, List.set_cons_zero, List.set_cons_succ, Option.toList_some, Option.toList_none, lv_args, ↓reduceIte, Nat.reduceAdd, Nat.reduceSub, Nat.reduceMul, Nat.reduceEqDiff, Nat.reduceLeDiff, Nat.reduceLT, reduceCtorEq, Bool.false_eq_true, and_true, true_and, and_self, and_false, false_and, Nat.zero_add, Nat.le_refl, Nat.zero_le, true_or, or_true, not_true_eq_false, not_false_eq_true, forall_const, false_implies, implies_true, true_implies, Int32.reduceAdd, Int32.reduceLE, Int32.reduceLT, Int32.reduceSub, Int32.reduceMul, Int32.reduceToNatClampNeg, og_36, oi_36, ef_36_4, ef_36_19, ef_36_20, ef_36_21, ef_36_22, ef_36_23, og_37, oi_37, oq_37, es_37, og_38, oi_38, oq_38, es_38, og_39, oi_39, oq_39, es_39, og_40, oi_40, oq_40, es_40, og_41, oi_41, es_41, og_42, oi_42, oq_42, es_42, og_43, oi_43, oq_43, es_43, og_44, oi_44, oq_44, es_44, og_45, oi_45, oq_45, es_45, og_46, oi_46, oq_46, es_46, og_47, oi_47, oq_47, es_47, og_48, oi_48, oq_48, es_48, og_49, oi_49, oq_49, es_49, og_50, oi_50, oq_50, es_50, og_51, oi_51, es_51, og_52, oi_52, oq_52, es_52, og_53, oi_53, oq_53, es_53, og_54, oi_54, oq_54, es_54, og_55, oi_55, oq_55, es_55, og_56, oi_56, oq_56, es_56, og_57, oi_57, oq_57, es_57, og_58, oi_58, oq_58, es_58, sI_1, sI_2, sL_1, sL_2, sL_3, sF_1, sF_2, sF_3, nar1]
              refine ⟨vp_in_nI (n := 0) (by decide) (by decide), vp_in_nI (n := 0) (by decide) (by decide), ?_⟩
              refine o_use (x_freeDescriptor G (sI (sI τ 51 (upd (τ.1 51) 0 1)) 52 (upd (τ.1 52) 0 0)) m hO.2.2.2.1 hRt.1.2.2.2.2.2.1 hp e19) ?_
              rintro v h' ⟨rfl, rfl⟩
              rw [hr]
              exact fin
            · rw [b_t (fun h => z (hpz.mpr h)), if_pos rfl] at e01
              subst e01
              refine ⟨vp_in_nI (n := 1) (by decide) (by decide), vp_in_nI (n := 1) (by decide) (by decide), ?_⟩
              refine o_use (x_freeDescriptor G (sI (sI τ 51 (upd (τ.1 51) 1 1)) 52 (upd (τ.1 52) 1 0)) m hO.2.2.2.1 hRt.1.2.2.2.2.2.1 hp e19) ?_
              rintro v h' ⟨rfl, rfl⟩
              rw [hr]
              exact fin
        · have qP' := lP.mp qP
          cases hq : freeP m with
          | none => exact XP.mk hRt.1 fr
          | some q =>
            obtain ⟨q2, q0⟩ := freeP_some hq
            have := cnt_pos (f := fpF m) (n := 2) (j := q) q2 (by unfold fpF; rw [q0]; rfl)
            omega
    · have qD' : ¬ cnt (fun d => !fdF m p d) 5 ≤ 3 := fun h => qD (lD.mpr h)
      cases hr : freeD m p 0 with
      | none => exact XP.mk hRt.1 fr
      | some r =>
      try dsimp only
      cases hw2 : freeD m p (r + 1) with
      | none => exact XP.mk hRt.1 fr
      | some w =>
        have := lst_c2 (f := fdF m p) (N := 5) hr hw2
        omega
