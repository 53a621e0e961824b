/-! Closing, doubling, seeking, protecting: the first side. -/
theorem tN_nI {k : Nat} (h : k < 2 ^ 31) : tN (nI k) = k := nI_clamp h
def q_at (m : MS) (p : Nat) (d : Int32) : Option Nat := if wI d 5 = true then (match q_ds m (p * 5 + tN d) with
  | 0 => none
  | o + 1 => some o) else none
theorem at_some {m : MS} (hO : OkD m) {p o : Nat} {d : Int32} (hp : p < 3) (h : q_at m p d = some o) : ∃ j : Nat, j < 5 ∧ d = nI j ∧ q_ds m (p * 5 + j) = o + 1 ∧ o < 8 ∧ has (q_ds m) o = true := by
  unfold q_at at h
  split at h
  · rename_i hw
    obtain ⟨j, hj, rfl⟩ := wI_t (n := 5) (by decide) hw
    rw [tN_nI (show j < 2 ^ 31 by omega)] at h
    split at h
    · cases h
    · rename_i x e
      cases h
      have h8 := hO.1 (p * 5 + j)
      refine ⟨j, hj, rfl, e, by omega, ?_⟩
      unfold has ocnt
      exact decide_eq_true (cnt_pos (j := p * 5 + j) (by omega) (decide_eq_true e))
  · cases h
theorem c_at2 (G : oG) (σ : oT) (m : MS) (hR : RCd m σ) {p : Nat} (d : Int32) (hp : p < 3) : Mt G m_O_at [.ref 9, .int (nI p), .int d] (enc σ) 0 0 (fun v h' => v = some (.int (oi (q_at m p d))) ∧ h' = enc σ) := by
  have h := c_at G σ d hp
  have e : (if wI d 5 = true then σ.1 9 (p * 5 + d.toNatClampNeg) else -1) = oi (q_at m p d) := by
    unfold q_at
    by_cases hw : wI d 5 = true
    · rw [if_pos hw, if_pos hw]
      obtain ⟨j, hj, rfl⟩ := wI_t (n := 5) (by decide) hw
      rw [nI_clamp (show j < 2 ^ 31 by omega), tN_nI (show j < 2 ^ 31 by omega), hR.1 _ (by omega)]
      cases q_ds m (p * 5 + j) <;> rfl
    · rw [if_neg hw, if_neg hw]
      rfl
  rw [e] at h
  exact h
theorem oi_m1 {o : Nat} (ho : o < 160) : ¬ oi (some o) = -1 := nI_nm1 o ho
theorem opn_mono {m : MS} {ds : Nat → Nat} (h : ∀ o, o < 8 → has ds o = true → has (q_ds m) o = true) (t g : Nat) : opn (q_sds m ds) t g ≤ opn m t g := by
  refine cnt_mono fun o ho h1 => ?_
  unfold opF at h1 ⊢
  rw [Bool.and_eq_true] at h1 ⊢
  exact ⟨h o ho h1.1, h1.2⟩
theorem fex_mono {m : MS} {ds : Nat → Nat} (h : ∀ o, o < 8 → has ds o = true → has (q_ds m) o = true) {f : Nat} (hf : fex (q_sds m ds) f = true) : fex m f = true := by
  have := opn_mono h f 3
  unfold fex at hf ⊢
  rw [Bool.or_eq_true, decide_eq_true_eq, decide_eq_true_eq] at hf ⊢
  rcases hf with h1 | h1
  · exact Or.inl h1
  · right; omega
theorem pex_mono {m : MS} {ds : Nat → Nat} (h : ∀ o, o < 8 → has ds o = true → has (q_ds m) o = true) {q : Nat} (hf : pex (q_sds m ds) q = true) : pex m q = true := by
  have := opn_mono h (6 + q) 3
  unfold pex at hf ⊢
  rw [decide_eq_true_eq] at hf ⊢
  omega
theorem sI_comm {σ : oT} {j k : Nat} {f g : Nat → Int32} (h : j ≠ k) : sI (sI σ j f) k g = sI (sI σ k g) j f := by
  unfold sI
  congr 1
  funext i
  by_cases h1 : i = k
  · subst h1; simp [Ne.symm h]
  · by_cases h2 : i = j
    · subst h2; simp [h1]
    · simp [h1, h2]
theorem RC_ds {m : MS} {σ : oT} {ds : Nat → Nat} {a b : Nat → Int32} (h : RC m σ) (hm : ∀ o, o < 8 → has ds o = true → has (q_ds m) o = true) (hd : RCd (q_sds m ds) (sI (sI σ 9 a) 10 b)) : RC (q_sds m ds) (sI (sI σ 9 a) 10 b) :=
  ⟨h.1, h.2.1, h.2.2.1, h.2.2.2.1, h.2.2.2.2.1, hd, fun o ho hh => h.2.2.2.2.2.2.1 o ho (hm o ho hh), fun f hf hh => (RCf_sI (RCf_sI h.2.2.2.2.2.2.2.1 (by decide)) (by decide)) f hf (fex_mono hm hh), fun q hq hh => (RCq_sI (RCq_sI h.2.2.2.2.2.2.2.2 (by decide)) (by decide)) q hq (pex_mono hm hh)⟩
def sp_close (m : MS) (p : Nat) (a : Int32) : Int32 × MS := match q_at m p a with
  | none => (-9, m)
  | some _ => (0, q_sds m (va_up (q_ds m) (p * 5 + tN a) 0))
theorem ocnt_cl {ds : Nat → Nat} {k o : Nat} (hk : k < 15) (h : ds k = o + 1) (x : Nat) : ocnt (va_up ds k 0) x + (if x = o then 1 else 0) = ocnt ds x := by
  have := cnt_up ds k 0 (x + 1) 15 hk
  rw [h, if_neg (show ¬ 0 = x + 1 by omega)] at this
  unfold ocnt
  by_cases hx : x = o
  · rw [if_pos hx]; rw [if_pos (by omega)] at this; omega
  · rw [if_neg hx]; rw [if_neg (by omega)] at this; omega
theorem ocnt_at {ds : Nat → Nat} {k o : Nat} (hk : k < 15) (h : ds k = 0) (x : Nat) : ocnt (va_up ds k (o + 1)) x = ocnt ds x + (if x = o then 1 else 0) := by
  have := cnt_up ds k (o + 1) (x + 1) 15 hk
  rw [h, if_neg (show ¬ 0 = x + 1 by omega)] at this
  unfold ocnt
  by_cases hx : x = o
  · rw [if_pos hx]; rw [if_pos (by omega)] at this; omega
  · rw [if_neg hx]; rw [if_neg (by omega)] at this; omega
theorem c_close (G : oG) (σ : oT) (m : MS) (hO : Ok m) (hR : RC m σ) {p : Nat} (a : Int32) (hp : p < 3) : Mt G m_T_close [.ref 1, .int (nI p), .int a] (enc σ) 0 0 (SP σ (sp_close m p a)) := by
  refine Mt.of (by decide) (Nat.le_of_ble_eq_true rfl) (s_T_close_0 _ _ _ _ _ ?_)
  simp only [k_T_close_0, o_iconst, o_lconst, o_iload, o_lload, o_aload, o_istore, o_lstore, o_astore, o_iinc, o_iadd, o_isub, o_imul, o_iand, o_ior, o_idiv, o_irem, o_lor, o_lushr, o_lshl, o_i2l, o_l2i, o_lcmp, o_dup, o_pop, o_dup2, o_ifeq, o_ifne, o_iflt, o_ifge, o_ifgt, o_ifle, o_icmpeq, o_icmpne, o_icmplt, o_icmpge, o_icmpgt, o_icmple, o_jmp, o_tsw, o_iret, o_zret, o_lret, o_vret, o_getf, o_putfI, o_putfR, o_iald, o_alen, o_lald, o_zald, o_iast, o_last, o_zast, o_aald, o_aast, o_new, o_newa, o_callS, o_callI, o_callV, o_objInit, o_mmax, o_mmin, o_lk, o_up1, o_up2, o_cl1, o_cl2, o_keep, o_c2, List.getElem?_cons_zero, List.getElem?_cons_succ, List.drop_zero, List.drop_succ_cons, List.take_zero, List.take_succ_cons, List.reverse_cons, List.reverse_nil, List.nil_append, List.cons_append, List.map_cons, List.map_nil, List.sum_cons, List.sum_nil, Value.category, List.length_cons, List.length_nil, List.set_cons_zero, List.set_cons_succ, Option.toList_some, Option.toList_none, lv_args, ↓reduceIte, Nat.reduceAdd, Nat.reduceSub, Nat.reduceMul, Nat.reduceEqDiff, Nat.reduceLeDiff, Nat.reduceLT, reduceCtorEq, Bool.false_eq_true, and_true, true_and, and_self, and_false, false_and, Nat.zero_add, Nat.le_refl, Nat.zero_le, true_or, or_true, not_true_eq_false, not_false_eq_true, forall_const, false_implies, implies_true, true_implies, Int32.reduceAdd, Int32.reduceLE, Int32.reduceLT, Int32.reduceSub, Int32.reduceMul, Int32.reduceToNatClampNeg, og_0, oi_0, ef_0_8, og_1, oi_1, og_2, oi_2, oq_2, es_2, og_3, oi_3, oq_3, es_3, og_4, oi_4, oq_4, es_4, og_5, oi_5, ef_5_2, og_6, oi_6, es_6, og_7, oi_7, oq_7, es_7, og_8, oi_8, og_9, oi_9, oq_9, es_9, og_10, oi_10, oq_10, es_10, og_11, oi_11, oq_11, es_11, og_12, oi_12, oq_12, es_12, og_13, oi_13, oq_13, es_13, og_14, oi_14, og_15, oi_15, og_16, oi_16, ef_16_2, og_17, oi_17, oq_17, es_17, og_18, oi_18, oq_18, es_18, og_19, oi_19, oq_19, es_19, og_20, oi_20, ef_20_1, og_21, oi_21, oq_21, es_21, og_22, oi_22, ef_22_1, og_23, oi_23, oq_23, es_23, og_24, oi_24, ef_24_1, og_25, oi_25, oq_25, es_25, og_26, oi_26, ef_26_1, og_27, oi_27, oq_27, es_27, og_28, oi_28, ef_28_1, og_29, oi_29, oq_29, es_29, og_30, oi_30, ef_30_1, og_31, oi_31, oq_31, es_31, og_32, oi_32, ef_32_1, og_33, oi_33, oq_33, es_33, og_34, oi_34, ef_34_1, og_35, oi_35, oq_35, es_35]
  refine o_use (c_at2 G σ m hR.2.2.2.2.2.1 a hp) ?_
  rintro w h' ⟨rfl, rfl⟩
  refine s_T_close_9 _ _ _ _ _ ?_
  unfold sp_close
  cases h : q_at m p a with
  | none =>
    simp only [k_T_close_9, o_iconst, o_lconst, o_iload, o_lload, o_aload, o_istore, o_lstore, o_astore, o_iinc, o_iadd, o_isub, o_imul, o_iand, o_ior, o_idiv, o_irem, o_lor, o_lushr, o_lshl, o_i2l, o_l2i, o_lcmp, o_dup, o_pop, o_dup2, o_ifeq, o_ifne, o_iflt, o_ifge, o_ifgt, o_ifle, o_icmpeq, o_icmpne, o_icmplt, o_icmpge, o_icmpgt, o_icmple, o_jmp, o_tsw, o_iret, o_zret, o_lret, o_vret, o_getf, o_putfI, o_putfR, o_iald, o_alen, o_lald, o_zald, o_iast, o_last, o_zast, o_aald, o_aast, o_new, o_newa, o_callS, o_callI, o_callV, o_objInit, o_mmax, o_mmin, o_lk, o_up1, o_up2, o_cl1, o_cl2, o_keep, o_c2, List.getElem?_cons_zero, List.getElem?_cons_succ, List.drop_zero, List.drop_succ_cons, List.take_zero, List.take_succ_cons, List.reverse_cons, List.reverse_nil, List.nil_append, List.cons_append, List.map_cons, List.map_nil, List.sum_cons, List.sum_nil, Value.category, List.length_cons, List.length_nil, List.set_cons_zero, List.set_cons_succ, Option.toList_some, Option.toList_none, lv_args, ↓reduceIte, Nat.reduceAdd, Nat.reduceSub, Nat.reduceMul, Nat.reduceEqDiff, Nat.reduceLeDiff, Nat.reduceLT, reduceCtorEq, Bool.false_eq_true, and_true, true_and, and_self, and_false, false_and, Nat.zero_add, Nat.le_refl, Nat.zero_le, true_or, or_true, not_true_eq_false, not_false_eq_true, forall_const, false_implies, implies_true, true_implies, Int32.reduceAdd, Int32.reduceLE, Int32.reduceLT, Int32.reduceSub, Int32.reduceMul, Int32.reduceToNatClampNeg, og_0, oi_0, ef_0_8, og_1, oi_1, og_2, oi_2, oq_2, es_2, og_3, oi_3, oq_3, es_3, og_4, oi_4, oq_4, es_4, og_5, oi_5, ef_5_2, og_6, oi_6, es_6, og_7, oi_7, oq_7, es_7, og_8, oi_8, og_9, oi_9, oq_9, es_9, og_10, oi_10, oq_10, es_10, og_11, oi_11, oq_11, es_11, og_12, oi_12, oq_12, es_12, og_13, oi_13, oq_13, es_13, og_14, oi_14, og_15, oi_15, og_16, oi_16, ef_16_2, og_17, oi_17, oq_17, es_17, og_18, oi_18, oq_18, es_18, og_19, oi_19, oq_19, es_19, og_20, oi_20, ef_20_1, og_21, oi_21, oq_21, es_21, og_22, oi_22, ef_22_1, og_23, oi_23, oq_23, es_23, og_24, oi_24, ef_24_1, og_25, oi_25, oq_25, es_25, og_26, oi_26, ef_26_1, og_27, oi_27, oq_27, es_27, og_28, oi_28, ef_28_1, og_29, oi_29, oq_29, es_29, og_30, oi_30, ef_30_1, og_31, oi_31, oq_31, es_31, og_32, oi_32, ef_32_1, og_33, oi_33, oq_33, es_33, og_34, oi_34, ef_34_1, og_35, oi_35, oq_35, es_35, oi]
    exact SP.mk hR (frC_r σ)
  | some o =>
    obtain ⟨j, hj, rfl, e1, e2, e3⟩ := at_some hO.2.2.2.1 hp h
    simp only [k_T_close_9, o_iconst, o_lconst, o_iload, o_lload, o_aload, o_istore, o_lstore, o_astore, o_iinc, o_iadd, o_isub, o_imul, o_iand, o_ior, o_idiv, o_irem, o_lor, o_lushr, o_lshl, o_i2l, o_l2i, o_lcmp, o_dup, o_pop, o_dup2, o_ifeq, o_ifne, o_iflt, o_ifge, o_ifgt, o_ifle, o_icmpeq, o_icmpne, o_icmplt, o_icmpge, o_icmpgt, o_icmple, o_jmp, o_tsw, o_iret, o_zret, o_lret, o_vret, o_getf, o_putfI, o_putfR, o_iald, o_alen, o_lald, o_zald, o_iast, o_last, o_zast, o_aald, o_aast, o_new, o_newa, o_callS, o_callI, o_callV, o_objInit, o_mmax, o_mmin, o_lk, o_up1, o_up2, o_cl1, o_cl2, o_keep, o_c2, List.getElem?_cons_zero, List.getElem?_cons_succ, List.drop_zero, List.drop_succ_cons, List.take_zero, List.take_succ_cons, List.reverse_cons, List.reverse_nil, List.nil_append, List.cons_append, List.map_cons, List.map_nil, List.sum_cons, List.sum_nil, Value.category, List.length_cons, List.length_nil, List.set_cons_zero, List.set_cons_succ, Option.toList_some, Option.toList_none, lv_args, ↓reduceIte, Nat.reduceAdd, Nat.reduceSub, Nat.reduceMul, Nat.reduceEqDiff, Nat.reduceLeDiff, Nat.reduceLT, reduceCtorEq, Bool.false_eq_true, and_true, true_and, and_self, and_false, false_and, Nat.zero_add, Nat.le_refl, Nat.zero_le, true_or, or_true, not_true_eq_false, not_false_eq_true, forall_const, false_implies, implies_true, true_implies, Int32.reduceAdd, Int32.reduceLE, Int32.reduceLT, Int32.reduceSub, Int32.reduceMul, Int32.reduceToNatClampNeg, og_0, oi_0, ef_0_8, og_1, oi_1, og_2, oi_2, oq_2, es_2, og_3, oi_3, oq_3, es_3, og_4, oi_4, oq_4, es_4, og_5, oi_5, ef_5_2, og_6, oi_6, es_6, og_7, oi_7, oq_7, es_7, og_8, oi_8, og_9, oi_9, oq_9, es_9, og_10, oi_10, oq_10, es_10, og_11, oi_11, oq_11, es_11, og_12, oi_12, oq_12, es_12, og_13, oi_13, oq_13, es_13, og_14, oi_14, og_15, oi_15, og_16, oi_16, ef_16_2, og_17, oi_17, oq_17, es_17, og_18, oi_18, oq_18, es_18, og_19, oi_19, oq_19, es_19, og_20, oi_20, ef_20_1, og_21, oi_21, oq_21, es_21, og_22, oi_22, ef_22_1, og_23, oi_23, oq_23, es_23, og_24, oi_24, ef_24_1, og_25, oi_25, oq_25, es_25, og_26, oi_26, ef_26_1, og_27, oi_27, oq_27, es_27, og_28, oi_28, ef_28_1, og_29, oi_29, oq_29, es_29, og_30, oi_30, ef_30_1, og_31, oi_31, oq_31, es_31, og_32, oi_32, ef_32_1, og_33, oi_33, oq_33, es_33, og_34, oi_34, ef_34_1, og_35, oi_35, oq_35, es_35]
    refine ⟨fun _ => ?_, fun q => absurd q (oi_m1 (by omega))⟩
    have hd := hR.2.2.2.2.2.1
    have e4 : σ.1 9 (p * 5 + j) = nI o := by rw [hd.1 _ (by omega), e1]; rfl
    refine o_use (c_detach G σ hp hj e2 e4) ?_
    rintro w h' ⟨rfl, rfl⟩
    refine s_T_close_25 _ _ _ _ _ ?_
    simp only [k_T_close_25, o_iconst, o_lconst, o_iload, o_lload, o_aload, o_istore, o_lstore, o_astore, o_iinc, o_iadd, o_isub, o_imul, o_iand, o_ior, o_idiv, o_irem, o_lor, o_lushr, o_lshl, o_i2l, o_l2i, o_lcmp, o_dup, o_pop, o_dup2, o_ifeq, o_ifne, o_iflt, o_ifge, o_ifgt, o_ifle, o_icmpeq, o_icmpne, o_icmplt, o_icmpge, o_icmpgt, o_icmple, o_jmp, o_tsw, o_iret, o_zret, o_lret, o_vret, o_getf, o_putfI, o_putfR, o_iald, o_alen, o_lald, o_zald, o_iast, o_last, o_zast, o_aald, o_aast, o_new, o_newa, o_callS, o_callI, o_callV, o_objInit, o_mmax, o_mmin, o_lk, o_up1, o_up2, o_cl1, o_cl2, o_keep, o_c2, List.getElem?_cons_zero, List.getElem?_cons_succ, List.drop_zero, List.drop_succ_cons, List.take_zero, List.take_succ_cons, List.reverse_cons, List.reverse_nil, List.nil_append, List.cons_append, List.map_cons, List.map_nil, List.sum_cons, List.sum_nil, Value.category, List.length_cons, List.length_nil, List.set_cons_zero, List.set_cons_succ, Option.toList_some, Option.toList_none, lv_args, ↓reduceIte, Nat.reduceAdd, Nat.reduceSub, Nat.reduceMul, Nat.reduceEqDiff, Nat.reduceLeDiff, Nat.reduceLT, reduceCtorEq, Bool.false_eq_true, and_true, true_and, and_self, and_false, false_and, Nat.zero_add, Nat.le_refl, Nat.zero_le, true_or, or_true, not_true_eq_false, not_false_eq_true, forall_const, false_implies, implies_true, true_implies, Int32.reduceAdd, Int32.reduceLE, Int32.reduceLT, Int32.reduceSub, Int32.reduceMul, Int32.reduceToNatClampNeg, tN_nI (show j < 2 ^ 31 by omega)]
    rw [sI_comm (by decide)]
    have hcl := ocnt_cl (ds := q_ds m) (k := p * 5 + j) (by omega) e1
    refine SP.mk (RC_ds hR (fun x hx hh => ?_) ⟨fun d hd2 => ?_, fun x hx => ?_⟩) (frC_sI (frC_sI (frC_r σ) (by decide)) (by decide))
    · have := hcl x
      unfold has at hh ⊢
      rw [decide_eq_true_eq] at hh ⊢
      omega
    · show upd (σ.1 9) (p * 5 + j) (-1) d = pgv (va_up (q_ds m) (p * 5 + j) 0 d)
      simp only [upd, va_up]
      by_cases hx : d = p * 5 + j
      · rw [if_pos hx, if_pos hx]; rfl
      · rw [if_neg hx, if_neg hx]; exact hd.1 d hd2
    · show upd (σ.1 10) o (σ.1 10 o - 1) x = nI (ocnt (va_up (q_ds m) (p * 5 + j) 0) x)
      have := hcl x
      simp only [upd]
      by_cases hx2 : x = o
      · rw [if_pos hx2] at this ⊢
        rw [hd.2 o e2, ← hx2, ← this, nI_pred]
      · rw [if_neg hx2] at this ⊢
        rw [hd.2 x hx, ← this]
        rfl
def sp_dup (m : MS) (p : Nat) (a : Int32) : Int32 × MS := match q_at m p a with
  | none => (-9, m)
  | some o => match freeD m p 0 with
    | none => (-24, m)
    | some d => (nI d, q_sds m (va_up (q_ds m) (p * 5 + d) (o + 1)))
theorem freeD_some {m : MS} {p i d : Nat} (h : freeD m p i = some d) : i ≤ d ∧ d < 5 ∧ q_ds m (p * 5 + d) = 0 := by
  obtain ⟨h1, h2, h3, -⟩ := lst_lt h
  refine ⟨h1, by omega, of_decide_eq_true h3⟩
/-- a descriptor that was closed stands for o now -/
theorem RCd_at {m : MS} {σ : oT} (hd : RCd m σ) {k o : Nat} (hk : k < 15) (h0 : q_ds m k = 0) (ho : o < 8) : RCd (q_sds m (va_up (q_ds m) k (o + 1))) (sI (sI σ 9 (upd (σ.1 9) k (nI o))) 10 (upd (σ.1 10) o (σ.1 10 o + 1))) := by
  have hat := ocnt_at (ds := q_ds m) (o := o) hk h0
  refine ⟨fun d hd2 => ?_, fun x hx => ?_⟩
  · show upd (σ.1 9) k (nI o) d = pgv (va_up (q_ds m) k (o + 1) d)
    simp only [upd, va_up]
    by_cases hx : d = k
    · rw [if_pos hx, if_pos hx]; rfl
    · rw [if_neg hx, if_neg hx]; exact hd.1 d hd2
  · show upd (σ.1 10) o (σ.1 10 o + 1) x = nI (ocnt (va_up (q_ds m) k (o + 1)) x)
    rw [hat x]
    simp only [upd]
    by_cases hx2 : x = o
    · rw [if_pos hx2, if_pos hx2, hd.2 o ho, hx2, nI_1]
    · rw [if_neg hx2, if_neg hx2, hd.2 x hx]
      rfl
theorem c_dup (G : oG) (σ : oT) (m : MS) (hO : Ok m) (hR : RC m σ) {p : Nat} (a : Int32) (hp : p < 3) : Mt G m_T_duplicate [.ref 1, .int (nI p), .int a] (enc σ) 0 0 (SP σ (sp_dup m p a)) := by
  refine Mt.of (by decide) (Nat.le_of_ble_eq_true rfl) (s_T_duplicate_0 _ _ _ _ _ ?_)
  simp only [k_T_duplicate_0, o_iconst, o_lconst, o_iload, o_lload, o_aload, o_istore, o_lstore, o_astore, o_iinc, o_iadd, o_isub, o_imul, o_iand, o_ior, o_idiv, o_irem, o_lor, o_lushr, o_lshl, o_i2l, o_l2i, o_lcmp, o_dup, o_pop, o_dup2, o_ifeq, o_ifne, o_iflt, o_ifge, o_ifgt, o_ifle, o_icmpeq, o_icmpne, o_icmplt, o_icmpge, o_icmpgt, o_icmple, o_jmp, o_tsw, o_iret, o_zret, o_lret, o_vret, o_getf, o_putfI, o_putfR, o_iald, o_alen, o_lald, o_zald, o_iast, o_last, o_zast, o_aald, o_aast, o_new, o_newa, o_callS, o_callI, o_callV, o_objInit, o_mmax, o_mmin, o_lk, o_up1, o_up2, o_cl1, o_cl2, o_keep, o_c2, List.getElem?_cons_zero, List.getElem?_cons_succ, List.drop_zero, List.drop_succ_cons, List.take_zero, List.take_succ_cons, List.reverse_cons, List.reverse_nil, List.nil_append, List.cons_append, List.map_cons, List.map_nil, List.sum_cons, List.sum_nil, Value.category, List.length_cons, List.length_nil, List.set_cons_zero, List.set_cons_succ, Option.toList_some, Option.toList_none, lv_args, ↓reduceIte, Nat.reduceAdd, Nat.reduceSub, Nat.reduceMul, Nat.reduceEqDiff, Nat.reduceLeDiff, Nat.reduceLT, reduceCtorEq, Bool.false_eq_true, and_true, true_and, and_self, and_false, false_and, Nat.zero_add, Nat.le_refl, Nat.zero_le, true_or, or_true, not_true_eq_false, not_false_eq_true, forall_const, false_implies, implies_true, true_implies, Int32.reduceAdd, Int32.reduceLE, Int32.reduceLT, Int32.reduceSub, Int32.reduceMul, Int32.reduceToNatClampNeg, og_0, oi_0, ef_0_8, og_1, oi_1, og_2, oi_2, oq_2, es_2, og_3, oi_3, oq_3, es_3, og_4, oi_4, oq_4, es_4, og_5, oi_5, ef_5_2, og_6, oi_6, es_6, og_7, oi_7, oq_7, es_7, og_8, oi_8, og_9, oi_9, oq_9, es_9, og_10, oi_10, oq_10, es_10, og_11, oi_11, oq_11, es_11, og_12, oi_12, oq_12, es_12, og_13, oi_13, oq_13, es_13, og_14, oi_14, og_15, oi_15, og_16, oi_16, ef_16_2, og_17, oi_17, oq_17, es_17, og_18, oi_18, oq_18, es_18, og_19, oi_19, oq_19, es_19, og_20, oi_20, ef_20_1, og_21, oi_21, oq_21, es_21, og_22, oi_22, ef_22_1, og_23, oi_23, oq_23, es_23, og_24, oi_24, ef_24_1, og_25, oi_25, oq_25, es_25, og_26, oi_26, ef_26_1, og_27, oi_27, oq_27, es_27, og_28, oi_28, ef_28_1, og_29, oi_29, oq_29, es_29, og_30, oi_30, ef_30_1, og_31, oi_31, oq_31, es_31, og_32, oi_32, ef_32_1, og_33, oi_33, oq_33, es_33, og_34, oi_34, ef_34_1, og_35, oi_35, oq_35, es_35]
  refine o_use (c_at2 G σ m hR.2.2.2.2.2.1 a hp) ?_
  rintro w h' ⟨rfl, rfl⟩
  refine s_T_duplicate_9 _ _ _ _ _ ?_
  unfold sp_dup
  cases h : q_at m p a with
  | none =>
    simp only [k_T_duplicate_9, o_iconst, o_lconst, o_iload, o_lload, o_aload, o_istore, o_lstore, o_astore, o_iinc, o_iadd, o_isub, o_imul, o_iand, o_ior, o_idiv, o_irem, o_lor, o_lushr, o_lshl, o_i2l, o_l2i, o_lcmp, o_dup, o_pop, o_dup2, o_ifeq, o_ifne, o_iflt, o_ifge, o_ifgt, o_ifle, o_icmpeq, o_icmpne, o_icmplt, o_icmpge, o_icmpgt, o_icmple, o_jmp, o_tsw, o_iret, o_zret, o_lret, o_vret, o_getf, o_putfI, o_putfR, o_iald, o_alen, o_lald, o_zald, o_iast, o_last, o_zast, o_aald, o_aast, o_new, o_newa, o_callS, o_callI, o_callV, o_objInit, o_mmax, o_mmin, o_lk, o_up1, o_up2, o_cl1, o_cl2, o_keep, o_c2, List.getElem?_cons_zero, List.getElem?_cons_succ, List.drop_zero, List.drop_succ_cons, List.take_zero, List.take_succ_cons, List.reverse_cons, List.reverse_nil, List.nil_append, List.cons_append, List.map_cons, List.map_nil, List.sum_cons, List.sum_nil, Value.category, List.length_cons, List.length_nil, List.set_cons_zero, List.set_cons_succ, Option.toList_some, Option.toList_none, lv_args, ↓reduceIte, Nat.reduceAdd, Nat.reduceSub, Nat.reduceMul, Nat.reduceEqDiff, Nat.reduceLeDiff, Nat.reduceLT, reduceCtorEq, Bool.false_eq_true, and_true, true_and, and_self, and_false, false_and, Nat.zero_add, Nat.le_refl, Nat.zero_le, true_or, or_true, not_true_eq_false, not_false_eq_true, forall_const, false_implies, implies_true, true_implies, Int32.reduceAdd, Int32.reduceLE, Int32.reduceLT, Int32.reduceSub, Int32.reduceMul, Int32.reduceToNatClampNeg, og_0, oi_0, ef_0_8, og_1, oi_1, og_2, oi_2, oq_2, es_2, og_3, oi_3, oq_3, es_3, og_4, oi_4, oq_4, es_4, og_5, oi_5, ef_5_2, og_6, oi_6, es_6, og_7, oi_7, oq_7, es_7, og_8, oi_8, og_9, oi_9, oq_9, es_9, og_10, oi_10, oq_10, es_10, og_11, oi_11, oq_11, es_11, og_12, oi_12, oq_12, es_12, og_13, oi_13, oq_13, es_13, og_14, oi_14, og_15, oi_15, og_16, oi_16, ef_16_2, og_17, oi_17, oq_17, es_17, og_18, oi_18, oq_18, es_18, og_19, oi_19, oq_19, es_19, og_20, oi_20, ef_20_1, og_21, oi_21, oq_21, es_21, og_22, oi_22, ef_22_1, og_23, oi_23, oq_23, es_23, og_24, oi_24, ef_24_1, og_25, oi_25, oq_25, es_25, og_26, oi_26, ef_26_1, og_27, oi_27, oq_27, es_27, og_28, oi_28, ef_28_1, og_29, oi_29, oq_29, es_29, og_30, oi_30, ef_30_1, og_31, oi_31, oq_31, es_31, og_32, oi_32, ef_32_1, og_33, oi_33, oq_33, es_33, og_34, oi_34, ef_34_1, og_35, oi_35, oq_35, es_35, oi]
    exact SP.mk hR (frC_r σ)
  | some o =>
    obtain ⟨j, hj, rfl, e1, e2, e3⟩ := at_some hO.2.2.2.1 hp h
    simp only [k_T_duplicate_9, o_iconst, o_lconst, o_iload, o_lload, o_aload, o_istore, o_lstore, o_astore, o_iinc, o_iadd, o_isub, o_imul, o_iand, o_ior, o_idiv, o_irem, o_lor, o_lushr, o_lshl, o_i2l, o_l2i, o_lcmp, o_dup, o_pop, o_dup2, o_ifeq, o_ifne, o_iflt, o_ifge, o_ifgt, o_ifle, o_icmpeq, o_icmpne, o_icmplt, o_icmpge, o_icmpgt, o_icmple, o_jmp, o_tsw, o_iret, o_zret, o_lret, o_vret, o_getf, o_putfI, o_putfR, o_iald, o_alen, o_lald, o_zald, o_iast, o_last, o_zast, o_aald, o_aast, o_new, o_newa, o_callS, o_callI, o_callV, o_objInit, o_mmax, o_mmin, o_lk, o_up1, o_up2, o_cl1, o_cl2, o_keep, o_c2, List.getElem?_cons_zero, List.getElem?_cons_succ, List.drop_zero, List.drop_succ_cons, List.take_zero, List.take_succ_cons, List.reverse_cons, List.reverse_nil, List.nil_append, List.cons_append, List.map_cons, List.map_nil, List.sum_cons, List.sum_nil, Value.category, List.length_cons, List.length_nil, List.set_cons_zero, List.set_cons_succ, Option.toList_some, Option.toList_none, lv_args, ↓reduceIte, Nat.reduceAdd, Nat.reduceSub, Nat.reduceMul, Nat.reduceEqDiff, Nat.reduceLeDiff, Nat.reduceLT, reduceCtorEq, Bool.false_eq_true, and_true, true_and, and_self, and_false, false_and, Nat.zero_add, Nat.le_refl, Nat.zero_le, true_or, or_true, not_true_eq_false, not_false_eq_true, forall_const, false_implies, implies_true, true_implies, Int32.reduceAdd, Int32.reduceLE, Int32.reduceLT, Int32.reduceSub, Int32.reduceMul, Int32.reduceToNatClampNeg, og_0, oi_0, ef_0_8, og_1, oi_1, og_2, oi_2, oq_2, es_2, og_3, oi_3, oq_3, es_3, og_4, oi_4, oq_4, es_4, og_5, oi_5, ef_5_2, og_6, oi_6, es_6, og_7, oi_7, oq_7, es_7, og_8, oi_8, og_9, oi_9, oq_9, es_9, og_10, oi_10, oq_10, es_10, og_11, oi_11, oq_11, es_11, og_12, oi_12, oq_12, es_12, og_13, oi_13, oq_13, es_13, og_14, oi_14, og_15, oi_15, og_16, oi_16, ef_16_2, og_17, oi_17, oq_17, es_17, og_18, oi_18, oq_18, es_18, og_19, oi_19, oq_19, es_19, og_20, oi_20, ef_20_1, og_21, oi_21, oq_21, es_21, og_22, oi_22, ef_22_1, og_23, oi_23, oq_23, es_23, og_24, oi_24, ef_24_1, og_25, oi_25, oq_25, es_25, og_26, oi_26, ef_26_1, og_27, oi_27, oq_27, es_27, og_28, oi_28, ef_28_1, og_29, oi_29, oq_29, es_29, og_30, oi_30, ef_30_1, og_31, oi_31, oq_31, es_31, og_32, oi_32, ef_32_1, og_33, oi_33, oq_33, es_33, og_34, oi_34, ef_34_1, og_35, oi_35, oq_35, es_35]
    refine ⟨fun _ => ?_, fun q => absurd q (oi_m1 (by omega))⟩
    refine o_use (c_leastClosed2 G σ m hO.2.2.2.1 hR.2.2.2.2.2.1 hp (i := 0) (by decide)) ?_
    rintro w h' ⟨rfl, rfl⟩
    refine s_T_duplicate_27 _ _ _ _ _ ?_
    cases h2 : freeD m p 0 with
    | none =>
      simp only [k_T_duplicate_27, o_iconst, o_lconst, o_iload, o_lload, o_aload, o_istore, o_lstore, o_astore, o_iinc, o_iadd, o_isub, o_imul, o_iand, o_ior, o_idiv, o_irem, o_lor, o_lushr, o_lshl, o_i2l, o_l2i, o_lcmp, o_dup, o_pop, o_dup2, o_ifeq, o_ifne, o_iflt, o_ifge, o_ifgt, o_ifle, o_icmpeq, o_icmpne, o_icmplt, o_icmpge, o_icmpgt, o_icmple, o_jmp, o_tsw, o_iret, o_zret, o_lret, o_vret, o_getf, o_putfI, o_putfR, o_iald, o_alen, o_lald, o_zald, o_iast, o_last, o_zast, o_aald, o_aast, o_new, o_newa, o_callS, o_callI, o_callV, o_objInit, o_mmax, o_mmin, o_lk, o_up1, o_up2, o_cl1, o_cl2, o_keep, o_c2, List.getElem?_cons_zero, List.getElem?_cons_succ, List.drop_zero, List.drop_succ_cons, List.take_zero, List.take_succ_cons, List.reverse_cons, List.reverse_nil, List.nil_append, List.cons_append, List.map_cons, List.map_nil, List.sum_cons, List.sum_nil, Value.category, List.length_cons, List.length_nil, List.set_cons_zero, List.set_cons_succ, Option.toList_some, Option.toList_none, lv_args, ↓reduceIte, Nat.reduceAdd, Nat.reduceSub, Nat.reduceMul, Nat.reduceEqDiff, Nat.reduceLeDiff, Nat.reduceLT, reduceCtorEq, Bool.false_eq_true, and_true, true_and, and_self, and_false, false_and, Nat.zero_add, Nat.le_refl, Nat.zero_le, true_or, or_true, not_true_eq_false, not_false_eq_true, forall_const, false_implies, implies_true, true_implies, Int32.reduceAdd, Int32.reduceLE, Int32.reduceLT, Int32.reduceSub, Int32.reduceMul, Int32.reduceToNatClampNeg, og_0, oi_0, ef_0_8, og_1, oi_1, og_2, oi_2, oq_2, es_2, og_3, oi_3, oq_3, es_3, og_4, oi_4, oq_4, es_4, og_5, oi_5, ef_5_2, og_6, oi_6, es_6, og_7, oi_7, oq_7, es_7, og_8, oi_8, og_9, oi_9, oq_9, es_9, og_10, oi_10, oq_10, es_10, og_11, oi_11, oq_11, es_11, og_12, oi_12, oq_12, es_12, og_13, oi_13, oq_13, es_13, og_14, oi_14, og_15, oi_15, og_16, oi_16, ef_16_2, og_17, oi_17, oq_17, es_17, og_18, oi_18, oq_18, es_18, og_19, oi_19, oq_19, es_19, og_20, oi_20, ef_20_1, og_21, oi_21, oq_21, es_21, og_22, oi_22, ef_22_1, og_23, oi_23, oq_23, es_23, og_24, oi_24, ef_24_1, og_25, oi_25, oq_25, es_25, og_26, oi_26, ef_26_1, og_27, oi_27, oq_27, es_27, og_28, oi_28, ef_28_1, og_29, oi_29, oq_29, es_29, og_30, oi_30, ef_30_1, og_31, oi_31, oq_31, es_31, og_32, oi_32, ef_32_1, og_33, oi_33, oq_33, es_33, og_34, oi_34, ef_34_1, og_35, oi_35, oq_35, es_35, oi]
      exact SP.mk hR (frC_r σ)
    | some d =>
      obtain ⟨-, d5, d0⟩ := freeD_some h2
      simp only [k_T_duplicate_27, o_iconst, o_lconst, o_iload, o_lload, o_aload, o_istore, o_lstore, o_astore, o_iinc, o_iadd, o_isub, o_imul, o_iand, o_ior, o_idiv, o_irem, o_lor, o_lushr, o_lshl, o_i2l, o_l2i, o_lcmp, o_dup, o_pop, o_dup2, o_ifeq, o_ifne, o_iflt, o_ifge, o_ifgt, o_ifle, o_icmpeq, o_icmpne, o_icmplt, o_icmpge, o_icmpgt, o_icmple, o_jmp, o_tsw, o_iret, o_zret, o_lret, o_vret, o_getf, o_putfI, o_putfR, o_iald, o_alen, o_lald, o_zald, o_iast, o_last, o_zast, o_aald, o_aast, o_new, o_newa, o_callS, o_callI, o_callV, o_objInit, o_mmax, o_mmin, o_lk, o_up1, o_up2, o_cl1, o_cl2, o_keep, o_c2, List.getElem?_cons_zero, List.getElem?_cons_succ, List.drop_zero, List.drop_succ_cons, List.take_zero, List.take_succ_cons, List.reverse_cons, List.reverse_nil, List.nil_append, List.cons_append, List.map_cons, List.map_nil, List.sum_cons, List.sum_nil, Value.category, List.length_cons, List.length_nil, List.set_cons_zero, List.set_cons_succ, Option.toList_some, Option.toList_none, lv_args, ↓reduceIte, Nat.reduceAdd, Nat.reduceSub, Nat.reduceMul, Nat.reduceEqDiff, Nat.reduceLeDiff, Nat.reduceLT, reduceCtorEq, Bool.false_eq_true, and_true, true_and, and_self, and_false, false_and, Nat.zero_add, Nat.le_refl, Nat.zero_le, true_or, or_true, not_true_eq_false, not_false_eq_true, forall_const, false_implies, implies_true, true_implies, Int32.reduceAdd, Int32.reduceLE, Int32.reduceLT, Int32.reduceSub, Int32.reduceMul, Int32.reduceToNatClampNeg, og_0, oi_0, ef_0_8, og_1, oi_1, og_2, oi_2, oq_2, es_2, og_3, oi_3, oq_3, es_3, og_4, oi_4, oq_4, es_4, og_5, oi_5, ef_5_2, og_6, oi_6, es_6, og_7, oi_7, oq_7, es_7, og_8, oi_8, og_9, oi_9, oq_9, es_9, og_10, oi_10, oq_10, es_10, og_11, oi_11, oq_11, es_11, og_12, oi_12, oq_12, es_12, og_13, oi_13, oq_13, es_13, og_14, oi_14, og_15, oi_15, og_16, oi_16, ef_16_2, og_17, oi_17, oq_17, es_17, og_18, oi_18, oq_18, es_18, og_19, oi_19, oq_19, es_19, og_20, oi_20, ef_20_1, og_21, oi_21, oq_21, es_21, og_22, oi_22, ef_22_1, og_23, oi_23, oq_23, es_23, og_24, oi_24, ef_24_1, og_25, oi_25, oq_25, es_25, og_26, oi_26, ef_26_1, og_27, oi_27, oq_27, es_27, og_28, oi_28, ef_28_1, og_29, oi_29, oq_29, es_29, og_30, oi_30, ef_30_1, og_31, oi_31, oq_31, es_31, og_32, oi_32, ef_32_1, og_33, oi_33, oq_33, es_33, og_34, oi_34, ef_34_1, og_35, oi_35, oq_35, es_35]
      refine ⟨fun _ => ?_, fun q => absurd q (oi_m1 (by omega))⟩
      refine o_use (c_attach G σ hp d5 e2) ?_
      rintro w h' ⟨rfl, rfl⟩
      refine s_T_duplicate_49 _ _ _ _ _ ?_
      simp only [k_T_duplicate_49, o_iconst, o_lconst, o_iload, o_lload, o_aload, o_istore, o_lstore, o_astore, o_iinc, o_iadd, o_isub, o_imul, o_iand, o_ior, o_idiv, o_irem, o_lor, o_lushr, o_lshl, o_i2l, o_l2i, o_lcmp, o_dup, o_pop, o_dup2, o_ifeq, o_ifne, o_iflt, o_ifge, o_ifgt, o_ifle, o_icmpeq, o_icmpne, o_icmplt, o_icmpge, o_icmpgt, o_icmple, o_jmp, o_tsw, o_iret, o_zret, o_lret, o_vret, o_getf, o_putfI, o_putfR, o_iald, o_alen, o_lald, o_zald, o_iast, o_last, o_zast, o_aald, o_aast, o_new, o_newa, o_callS, o_callI, o_callV, o_objInit, o_mmax, o_mmin, o_lk, o_up1, o_up2, o_cl1, o_cl2, o_keep, o_c2, List.getElem?_cons_zero, List.getElem?_cons_succ, List.drop_zero, List.drop_succ_cons, List.take_zero, List.take_succ_cons, List.reverse_cons, List.reverse_nil, List.nil_append, List.cons_append, List.map_cons, List.map_nil, List.sum_cons, List.sum_nil, Value.category, List.length_cons, List.length_nil, List.set_cons_zero, List.set_cons_succ, Option.toList_some, Option.toList_none, lv_args, ↓reduceIte, Nat.reduceAdd, Nat.reduceSub, Nat.reduceMul, Nat.reduceEqDiff, Nat.reduceLeDiff, Nat.reduceLT, reduceCtorEq, Bool.false_eq_true, and_true, true_and, and_self, and_false, false_and, Nat.zero_add, Nat.le_refl, Nat.zero_le, true_or, or_true, not_true_eq_false, not_false_eq_true, forall_const, false_implies, implies_true, true_implies, Int32.reduceAdd, Int32.reduceLE, Int32.reduceLT, Int32.reduceSub, Int32.reduceMul, Int32.reduceToNatClampNeg]
      refine SP.mk (RC_ds hR (fun x hx hh => ?_) (RCd_at hR.2.2.2.2.2.1 (by omega) d0 e2)) (frC_sI (frC_sI (frC_r σ) (by decide)) (by decide))
      have := ocnt_at (ds := q_ds m) (o := o) (show p * 5 + d < 15 by omega) d0 x
      by_cases hx2 : x = o
      · rw [hx2]; exact e3
      · rw [if_neg hx2] at this
        unfold has at hh ⊢
        rw [decide_eq_true_eq] at hh ⊢
        omega
def sp_seek (m : MS) (p : Nat) (a b : Int32) : Int32 × MS := match q_at m p a with
  | none => (-9, m)
  | some o => if 6 ≤ q_tg m o then (-29, m) else if wI b 25 = true then (b, q_sps m (va_up (q_ps m) o (tN b))) else (-22, m)
theorem RC_ps {m : MS} {σ : oT} {o x : Nat} (h : RC m σ) : RC (q_sps m (va_up (q_ps m) o x)) (sI σ 13 (upd (σ.1 13) o (nI x))) :=
  ⟨h.1, h.2.1, h.2.2.1, h.2.2.2.1, h.2.2.2.2.1, h.2.2.2.2.2.1, fun j hj hh => by
    obtain ⟨e1, e2, e3⟩ := h.2.2.2.2.2.2.1 j hj hh
    refine ⟨e1, e2, ?_⟩
    show upd (σ.1 13) o (nI x) j = nI (va_up (q_ps m) o x j)
    simp only [upd, va_up]
    by_cases hx : j = o
    · rw [if_pos hx, if_pos hx]
    · rw [if_neg hx, if_neg hx]; exact e3, RCf_sI h.2.2.2.2.2.2.2.1 (by decide), RCq_sI h.2.2.2.2.2.2.2.2 (by decide)⟩
theorem c_seek (G : oG) (σ : oT) (m : MS) (hO : Ok m) (hR : RC m σ) {p : Nat} (a b : Int32) (hp : p < 3) : Mt G m_T_seek [.ref 1, .int (nI p), .int a, .int b] (enc σ) 0 0 (SP σ (sp_seek m p a b)) := by
  refine Mt.of (by decide) (Nat.le_of_ble_eq_true rfl) (s_T_seek_0 _ _ _ _ _ ?_)
  simp only [k_T_seek_0, o_iconst, o_lconst, o_iload, o_lload, o_aload, o_istore, o_lstore, o_astore, o_iinc, o_iadd, o_isub, o_imul, o_iand, o_ior, o_idiv, o_irem, o_lor, o_lushr, o_lshl, o_i2l, o_l2i, o_lcmp, o_dup, o_pop, o_dup2, o_ifeq, o_ifne, o_iflt, o_ifge, o_ifgt, o_ifle, o_icmpeq, o_icmpne, o_icmplt, o_icmpge, o_icmpgt, o_icmple, o_jmp, o_tsw, o_iret, o_zret, o_lret, o_vret, o_getf, o_putfI, o_putfR, o_iald, o_alen, o_lald, o_zald, o_iast, o_last, o_zast, o_aald, o_aast, o_new, o_newa, o_callS, o_callI, o_callV, o_objInit, o_mmax, o_mmin, o_lk, o_up1, o_up2, o_cl1, o_cl2, o_keep, o_c2, List.getElem?_cons_zero, List.getElem?_cons_succ, List.drop_zero, List.drop_succ_cons, List.take_zero, List.take_succ_cons, List.reverse_cons, List.reverse_nil, List.nil_append, List.cons_append, List.map_cons, List.map_nil, List.sum_cons, List.sum_nil, Value.category, List.length_cons, List.length_nil, List.set_cons_zero, List.set_cons_succ, Option.toList_some, Option.toList_none, lv_args, ↓reduceIte, Nat.reduceAdd, Nat.reduceSub, Nat.reduceMul, Nat.reduceEqDiff, Nat.reduceLeDiff, Nat.reduceLT, reduceCtorEq, Bool.false_eq_true, and_true, true_and, and_self, and_false, false_and, Nat.zero_add, Nat.le_refl, Nat.zero_le, true_or, or_true, not_true_eq_false, not_false_eq_true, forall_const, false_implies, implies_true, true_implies, Int32.reduceAdd, Int32.reduceLE, Int32.reduceLT, Int32.reduceSub, Int32.reduceMul, Int32.reduceToNatClampNeg, og_0, oi_0, ef_0_8, og_1, oi_1, og_2, oi_2, oq_2, es_2, og_3, oi_3, oq_3, es_3, og_4, oi_4, oq_4, es_4, og_5, oi_5, ef_5_2, og_6, oi_6, es_6, og_7, oi_7, oq_7, es_7, og_8, oi_8, og_9, oi_9, oq_9, es_9, og_10, oi_10, oq_10, es_10, og_11, oi_11, oq_11, es_11, og_12, oi_12, oq_12, es_12, og_13, oi_13, oq_13, es_13, og_14, oi_14, og_15, oi_15, og_16, oi_16, ef_16_2, og_17, oi_17, oq_17, es_17, og_18, oi_18, oq_18, es_18, og_19, oi_19, oq_19, es_19, og_20, oi_20, ef_20_1, og_21, oi_21, oq_21, es_21, og_22, oi_22, ef_22_1, og_23, oi_23, oq_23, es_23, og_24, oi_24, ef_24_1, og_25, oi_25, oq_25, es_25, og_26, oi_26, ef_26_1, og_27, oi_27, oq_27, es_27, og_28, oi_28, ef_28_1, og_29, oi_29, oq_29, es_29, og_30, oi_30, ef_30_1, og_31, oi_31, oq_31, es_31, og_32, oi_32, ef_32_1, og_33, oi_33, oq_33, es_33, og_34, oi_34, ef_34_1, og_35, oi_35, oq_35, es_35]
  refine o_use (c_at2 G σ m hR.2.2.2.2.2.1 a hp) ?_
  rintro w h' ⟨rfl, rfl⟩
  refine s_T_seek_9 _ _ _ _ _ ?_
  unfold sp_seek
  cases h : q_at m p a with
  | none =>
    simp only [k_T_seek_9, o_iconst, o_lconst, o_iload, o_lload, o_aload, o_istore, o_lstore, o_astore, o_iinc, o_iadd, o_isub, o_imul, o_iand, o_ior, o_idiv, o_irem, o_lor, o_lushr, o_lshl, o_i2l, o_l2i, o_lcmp, o_dup, o_pop, o_dup2, o_ifeq, o_ifne, o_iflt, o_ifge, o_ifgt, o_ifle, o_icmpeq, o_icmpne, o_icmplt, o_icmpge, o_icmpgt, o_icmple, o_jmp, o_tsw, o_iret, o_zret, o_lret, o_vret, o_getf, o_putfI, o_putfR, o_iald, o_alen, o_lald, o_zald, o_iast, o_last, o_zast, o_aald, o_aast, o_new, o_newa, o_callS, o_callI, o_callV, o_objInit, o_mmax, o_mmin, o_lk, o_up1, o_up2, o_cl1, o_cl2, o_keep, o_c2, List.getElem?_cons_zero, List.getElem?_cons_succ, List.drop_zero, List.drop_succ_cons, List.take_zero, List.take_succ_cons, List.reverse_cons, List.reverse_nil, List.nil_append, List.cons_append, List.map_cons, List.map_nil, List.sum_cons, List.sum_nil, Value.category, List.length_cons, List.length_nil, List.set_cons_zero, List.set_cons_succ, Option.toList_some, Option.toList_none, lv_args, ↓reduceIte, Nat.reduceAdd, Nat.reduceSub, Nat.reduceMul, Nat.reduceEqDiff, Nat.reduceLeDiff, Nat.reduceLT, reduceCtorEq, Bool.false_eq_true, and_true, true_and, and_self, and_false, false_and, Nat.zero_add, Nat.le_refl, Nat.zero_le, true_or, or_true, not_true_eq_false, not_false_eq_true, forall_const, false_implies, implies_true, true_implies, Int32.reduceAdd, Int32.reduceLE, Int32.reduceLT, Int32.reduceSub, Int32.reduceMul, Int32.reduceToNatClampNeg, og_0, oi_0, ef_0_8, og_1, oi_1, og_2, oi_2, oq_2, es_2, og_3, oi_3, oq_3, es_3, og_4, oi_4, oq_4, es_4, og_5, oi_5, ef_5_2, og_6, oi_6, es_6, og_7, oi_7, oq_7, es_7, og_8, oi_8, og_9, oi_9, oq_9, es_9, og_10, oi_10, oq_10, es_10, og_11, oi_11, oq_11, es_11, og_12, oi_12, oq_12, es_12, og_13, oi_13, oq_13, es_13, og_14, oi_14, og_15, oi_15, og_16, oi_16, ef_16_2, og_17, oi_17, oq_17, es_17, og_18, oi_18, oq_18, es_18, og_19, oi_19, oq_19, es_19, og_20, oi_20, ef_20_1, og_21, oi_21, oq_21, es_21, og_22, oi_22, ef_22_1, og_23, oi_23, oq_23, es_23, og_24, oi_24, ef_24_1, og_25, oi_25, oq_25, es_25, og_26, oi_26, ef_26_1, og_27, oi_27, oq_27, es_27, og_28, oi_28, ef_28_1, og_29, oi_29, oq_29, es_29, og_30, oi_30, ef_30_1, og_31, oi_31, oq_31, es_31, og_32, oi_32, ef_32_1, og_33, oi_33, oq_33, es_33, og_34, oi_34, ef_34_1, og_35, oi_35, oq_35, es_35, oi]
    exact SP.mk hR (frC_r σ)
  | some o =>
    obtain ⟨j, hj, rfl, e1, e2, e3⟩ := at_some hO.2.2.2.1 hp h
    obtain ⟨k1, k2, k3, k4, k5⟩ := hO.2.2.2.1.2 o e2 e3
    obtain ⟨r1, r2, r3⟩ := hR.2.2.2.2.2.2.1 o e2 e3
    simp only [k_T_seek_9, o_iconst, o_lconst, o_iload, o_lload, o_aload, o_istore, o_lstore, o_astore, o_iinc, o_iadd, o_isub, o_imul, o_iand, o_ior, o_idiv, o_irem, o_lor, o_lushr, o_lshl, o_i2l, o_l2i, o_lcmp, o_dup, o_pop, o_dup2, o_ifeq, o_ifne, o_iflt, o_ifge, o_ifgt, o_ifle, o_icmpeq, o_icmpne, o_icmplt, o_icmpge, o_icmpgt, o_icmple, o_jmp, o_tsw, o_iret, o_zret, o_lret, o_vret, o_getf, o_putfI, o_putfR, o_iald, o_alen, o_lald, o_zald, o_iast, o_last, o_zast, o_aald, o_aast, o_new, o_newa, o_callS, o_callI, o_callV, o_objInit, o_mmax, o_mmin, o_lk, o_up1, o_up2, o_cl1, o_cl2, o_keep, o_c2, List.getElem?_cons_zero, List.getElem?_cons_succ, List.drop_zero, List.drop_succ_cons, List.take_zero, List.take_succ_cons, List.reverse_cons, List.reverse_nil, List.nil_append, List.cons_append, List.map_cons, List.map_nil, List.sum_cons, List.sum_nil, Value.category, List.length_cons, List.length_nil, List.set_cons_zero, List.set_cons_succ, Option.toList_some, Option.toList_none, lv_args, ↓reduceIte, Nat.reduceAdd, Nat.reduceSub, Nat.reduceMul, Nat.reduceEqDiff, Nat.reduceLeDiff, Nat.reduceLT, reduceCtorEq, Bool.false_eq_true, and_true, true_and, and_self, and_false, false_and, Nat.zero_add, Nat.le_refl, Nat.zero_le, true_or, or_true, not_true_eq_false, not_false_eq_true, forall_const, false_implies, implies_true, true_implies, Int32.reduceAdd, Int32.reduceLE, Int32.reduceLT, Int32.reduceSub, Int32.reduceMul, Int32.reduceToNatClampNeg, og_0, oi_0, ef_0_8, og_1, oi_1, og_2, oi_2, oq_2, es_2, og_3, oi_3, oq_3, es_3, og_4, oi_4, oq_4, es_4, og_5, oi_5, ef_5_2, og_6, oi_6, es_6, og_7, oi_7, oq_7, es_7, og_8, oi_8, og_9, oi_9, oq_9, es_9, og_10, oi_10, oq_10, es_10, og_11, oi_11, oq_11, es_11, og_12, oi_12, oq_12, es_12, og_13, oi_13, oq_13, es_13, og_14, oi_14, og_15, oi_15, og_16, oi_16, ef_16_2, og_17, oi_17, oq_17, es_17, og_18, oi_18, oq_18, es_18, og_19, oi_19, oq_19, es_19, og_20, oi_20, ef_20_1, og_21, oi_21, oq_21, es_21, og_22, oi_22, ef_22_1, og_23, oi_23, oq_23, es_23, og_24, oi_24, ef_24_1, og_25, oi_25, oq_25, es_25, og_26, oi_26, ef_26_1, og_27, oi_27, oq_27, es_27, og_28, oi_28, ef_28_1, og_29, oi_29, oq_29, es_29, og_30, oi_30, ef_30_1, og_31, oi_31, oq_31, es_31, og_32, oi_32, ef_32_1, og_33, oi_33, oq_33, es_33, og_34, oi_34, ef_34_1, og_35, oi_35, oq_35, es_35]
    refine ⟨fun _ => ?_, fun q => absurd q (oi_m1 (by omega))⟩
    refine o_use (c_isOfPipe G σ e2 k1 r1) ?_
    rintro w h' ⟨rfl, rfl⟩
    refine s_T_seek_29 _ _ _ _ _ ?_
    by_cases h6 : 6 ≤ q_tg m o
    · rw [if_pos h6, decide_eq_true h6]
      simp only [k_T_seek_29, o_iconst, o_lconst, o_iload, o_lload, o_aload, o_istore, o_lstore, o_astore, o_iinc, o_iadd, o_isub, o_imul, o_iand, o_ior, o_idiv, o_irem, o_lor, o_lushr, o_lshl, o_i2l, o_l2i, o_lcmp, o_dup, o_pop, o_dup2, o_ifeq, o_ifne, o_iflt, o_ifge, o_ifgt, o_ifle, o_icmpeq, o_icmpne, o_icmplt, o_icmpge, o_icmpgt, o_icmple, o_jmp, o_tsw, o_iret, o_zret, o_lret, o_vret, o_getf, o_putfI, o_putfR, o_iald, o_alen, o_lald, o_zald, o_iast, o_last, o_zast, o_aald, o_aast, o_new, o_newa, o_callS, o_callI, o_callV, o_objInit, o_mmax, o_mmin, o_lk, o_up1, o_up2, o_cl1, o_cl2, o_keep, o_c2, List.getElem?_cons_zero, List.getElem?_cons_succ, List.drop_zero, List.drop_succ_cons, List.take_zero, List.take_succ_cons, List.reverse_cons, List.reverse_nil, List.nil_append, List.cons_append, List.map_cons, List.map_nil, List.sum_cons, List.sum_nil, Value.category, List.length_cons, List.length_nil, List.set_cons_zero, List.set_cons_succ, Option.toList_some, Option.toList_none, lv_args, ↓reduceIte, Nat.reduceAdd, Nat.reduceSub, Nat.reduceMul, Nat.reduceEqDiff, Nat.reduceLeDiff, Nat.reduceLT, reduceCtorEq, Bool.false_eq_true, and_true, true_and, and_self, and_false, false_and, Nat.zero_add, Nat.le_refl, Nat.zero_le, true_or, or_true, not_true_eq_false, not_false_eq_true, forall_const, false_implies, implies_true, true_implies, Int32.reduceAdd, Int32.reduceLE, Int32.reduceLT, Int32.reduceSub, Int32.reduceMul, Int32.reduceToNatClampNeg, bz_t]
      exact ⟨fun q => absurd q i01, fun _ => SP.mk hR (frC_r σ)⟩
    · rw [if_neg h6, decide_eq_false h6]
      simp only [k_T_seek_29, o_iconst, o_lconst, o_iload, o_lload, o_aload, o_istore, o_lstore, o_astore, o_iinc, o_iadd, o_isub, o_imul, o_iand, o_ior, o_idiv, o_irem, o_lor, o_lushr, o_lshl, o_i2l, o_l2i, o_lcmp, o_dup, o_pop, o_dup2, o_ifeq, o_ifne, o_iflt, o_ifge, o_ifgt, o_ifle, o_icmpeq, o_icmpne, o_icmplt, o_icmpge, o_icmpgt, o_icmple, o_jmp, o_tsw, o_iret, o_zret, o_lret, o_vret, o_getf, o_putfI, o_putfR, o_iald, o_alen, o_lald, o_zald, o_iast, o_last, o_zast, o_aald, o_aast, o_new, o_newa, o_callS, o_callI, o_callV, o_objInit, o_mmax, o_mmin, o_lk, o_up1, o_up2, o_cl1, o_cl2, o_keep, o_c2, List.getElem?_cons_zero, List.getElem?_cons_succ, List.drop_zero, List.drop_succ_cons, List.take_zero, List.take_succ_cons, List.reverse_cons, List.reverse_nil, List.nil_append, List.cons_append, List.map_cons, List.map_nil, List.sum_cons, List.sum_nil, Value.category, List.length_cons, List.length_nil, List.set_cons_zero, List.set_cons_succ, Option.toList_some, Option.toList_none, lv_args, ↓reduceIte, Nat.reduceAdd, Nat.reduceSub, Nat.reduceMul, Nat.reduceEqDiff, Nat.reduceLeDiff, Nat.reduceLT, reduceCtorEq, Bool.false_eq_true, and_true, true_and, and_self, and_false, false_and, Nat.zero_add, Nat.le_refl, Nat.zero_le, true_or, or_true, not_true_eq_false, not_false_eq_true, forall_const, false_implies, implies_true, true_implies, Int32.reduceAdd, Int32.reduceLE, Int32.reduceLT, Int32.reduceSub, Int32.reduceMul, Int32.reduceToNatClampNeg, bz_f]
      refine s_T_seek_35 _ _ _ _ _ ?_
      have h4 := wI_le (x := b) (n := 24) (by decide)
      simp only [k_T_seek_35, o_iconst, o_lconst, o_iload, o_lload, o_aload, o_istore, o_lstore, o_astore, o_iinc, o_iadd, o_isub, o_imul, o_iand, o_ior, o_idiv, o_irem, o_lor, o_lushr, o_lshl, o_i2l, o_l2i, o_lcmp, o_dup, o_pop, o_dup2, o_ifeq, o_ifne, o_iflt, o_ifge, o_ifgt, o_ifle, o_icmpeq, o_icmpne, o_icmplt, o_icmpge, o_icmpgt, o_icmple, o_jmp, o_tsw, o_iret, o_zret, o_lret, o_vret, o_getf, o_putfI, o_putfR, o_iald, o_alen, o_lald, o_zald, o_iast, o_last, o_zast, o_aald, o_aast, o_new, o_newa, o_callS, o_callI, o_callV, o_objInit, o_mmax, o_mmin, o_lk, o_up1, o_up2, o_cl1, o_cl2, o_keep, o_c2, List.getElem?_cons_zero, List.getElem?_cons_succ, List.drop_zero, List.drop_succ_cons, List.take_zero, List.take_succ_cons, List.reverse_cons, List.reverse_nil, List.nil_append, List.cons_append, List.map_cons, List.map_nil, List.sum_cons, List.sum_nil, Value.category, List.length_cons, List.length_nil, List.set_cons_zero, List.set_cons_succ, Option.toList_some, Option.toList_none, lv_args, ↓reduceIte, Nat.reduceAdd, Nat.reduceSub, Nat.reduceMul, Nat.reduceEqDiff, Nat.reduceLeDiff, Nat.reduceLT, reduceCtorEq, Bool.false_eq_true, and_true, true_and, and_self, and_false, false_and, Nat.zero_add, Nat.le_refl, Nat.zero_le, true_or, or_true, not_true_eq_false, not_false_eq_true, forall_const, false_implies, implies_true, true_implies, Int32.reduceAdd, Int32.reduceLE, Int32.reduceLT, Int32.reduceSub, Int32.reduceMul, Int32.reduceToNatClampNeg, og_0, oi_0, ef_0_8, og_1, oi_1, og_2, oi_2, oq_2, es_2, og_3, oi_3, oq_3, es_3, og_4, oi_4, oq_4, es_4, og_5, oi_5, ef_5_2, og_6, oi_6, es_6, og_7, oi_7, oq_7, es_7, og_8, oi_8, og_9, oi_9, oq_9, es_9, og_10, oi_10, oq_10, es_10, og_11, oi_11, oq_11, es_11, og_12, oi_12, oq_12, es_12, og_13, oi_13, oq_13, es_13, og_14, oi_14, og_15, oi_15, og_16, oi_16, ef_16_2, og_17, oi_17, oq_17, es_17, og_18, oi_18, oq_18, es_18, og_19, oi_19, oq_19, es_19, og_20, oi_20, ef_20_1, og_21, oi_21, oq_21, es_21, og_22, oi_22, ef_22_1, og_23, oi_23, oq_23, es_23, og_24, oi_24, ef_24_1, og_25, oi_25, oq_25, es_25, og_26, oi_26, ef_26_1, og_27, oi_27, oq_27, es_27, og_28, oi_28, ef_28_1, og_29, oi_29, oq_29, es_29, og_30, oi_30, ef_30_1, og_31, oi_31, oq_31, es_31, og_32, oi_32, ef_32_1, og_33, oi_33, oq_33, es_33, og_34, oi_34, ef_34_1, og_35, oi_35, oq_35, es_35, oi, nI_clamp (show o < 2 ^ 31 by omega)]
      refine ⟨fun q1 => ?_, fun q1 => ⟨fun q2 => ⟨vp_in_nI e2 (by decide), ?_⟩, fun q2 => ?_⟩⟩
      · rw [decide_eq_false (fun h => h q1)] at h4
        have h5 : wI b 25 = false := h4
        rw [h5, if_neg (by decide)]
        exact SP.mk hR (frC_r σ)
      · rw [decide_eq_true q1, decide_eq_true (show b ≤ nI 24 from q2)] at h4
        have h5 : wI b 25 = true := h4
        obtain ⟨b, hb, rfl⟩ := wI_t (n := 25) (by decide) h5
        rw [if_pos h5, tN_nI (show b < 2 ^ 31 by omega)]
        exact SP.mk (RC_ps hR) (frC_sI (frC_r σ) (by decide))
      · rw [decide_eq_false (show ¬ b ≤ nI 24 from q2), Bool.and_false] at h4
        have h5 : wI b 25 = false := h4
        rw [h5, if_neg (by decide)]
        exact SP.mk hR (frC_r σ)
def sp_protect (m : MS) (p : Nat) (a b : Int32) : Int32 × MS := if (wI a 16 && wI b 4) = true then (if q_pg m (p * 16 + tN a) ≠ 0 ∧ (q_pg m (p * 16 + tN a) - 1) / 4 % 2 = 1 then (nI ((q_pg m (p * 16 + tN a) - 1) % 4), q_spg m (va_up (q_pg m) (p * 16 + tN a) (q_pg m (p * 16 + tN a) - (q_pg m (p * 16 + tN a) - 1) % 4 + tN b))) else (-14, m)) else (-22, m)
theorem bit4 : ∀ e, e < 160 → ((nI e &&& 4 = 0) ↔ ¬ e / 4 % 2 = 1) := by decide +kernel
theorem bit3 : ∀ e, e < 160 → nI e &&& 3 = nI (e % 4) := by decide +kernel
theorem c_protect (G : oG) (σ : oT) (m : MS) (hO : Ok m) (hR : RC m σ) {p : Nat} (a b : Int32) (hp : p < 3) : Mt G m_T_protect [.ref 1, .int (nI p), .int a, .int b] (enc σ) 0 0 (SP σ (sp_protect m p a b)) := by
  refine Mt.of (by decide) (Nat.le_of_ble_eq_true rfl) (s_T_protect_0 _ _ _ _ _ ?_)
  simp only [k_T_protect_0, o_iconst, o_lconst, o_iload, o_lload, o_aload, o_istore, o_lstore, o_astore, o_iinc, o_iadd, o_isub, o_imul, o_iand, o_ior, o_idiv, o_irem, o_lor, o_lushr, o_lshl, o_i2l, o_l2i, o_lcmp, o_dup, o_pop, o_dup2, o_ifeq, o_ifne, o_iflt, o_ifge, o_ifgt, o_ifle, o_icmpeq, o_icmpne, o_icmplt, o_icmpge, o_icmpgt, o_icmple, o_jmp, o_tsw, o_iret, o_zret, o_lret, o_vret, o_getf, o_putfI, o_putfR, o_iald, o_alen, o_lald, o_zald, o_iast, o_last, o_zast, o_aald, o_aast, o_new, o_newa, o_callS, o_callI, o_callV, o_objInit, o_mmax, o_mmin, o_lk, o_up1, o_up2, o_cl1, o_cl2, o_keep, o_c2, List.getElem?_cons_zero, List.getElem?_cons_succ, List.drop_zero, List.drop_succ_cons, List.take_zero, List.take_succ_cons, List.reverse_cons, List.reverse_nil, List.nil_append, List.cons_append, List.map_cons, List.map_nil, List.sum_cons, List.sum_nil, Value.category, List.length_cons, List.length_nil, List.set_cons_zero, List.set_cons_succ, Option.toList_some, Option.toList_none, lv_args, ↓reduceIte, Nat.reduceAdd, Nat.reduceSub, Nat.reduceMul, Nat.reduceEqDiff, Nat.reduceLeDiff, Nat.reduceLT, reduceCtorEq, Bool.false_eq_true, and_true, true_and, and_self, and_false, false_and, Nat.zero_add, Nat.le_refl, Nat.zero_le, true_or, or_true, not_true_eq_false, not_false_eq_true, forall_const, false_implies, implies_true, true_implies, Int32.reduceAdd, Int32.reduceLE, Int32.reduceLT, Int32.reduceSub, Int32.reduceMul, Int32.reduceToNatClampNeg, og_0, oi_0, ef_0_8, og_1, oi_1, og_2, oi_2, oq_2, es_2, og_3, oi_3, oq_3, es_3, og_4, oi_4, oq_4, es_4, og_5, oi_5, ef_5_2, og_6, oi_6, es_6, og_7, oi_7, oq_7, es_7, og_8, oi_8, og_9, oi_9, oq_9, es_9, og_10, oi_10, oq_10, es_10, og_11, oi_11, oq_11, es_11, og_12, oi_12, oq_12, es_12, og_13, oi_13, oq_13, es_13, og_14, oi_14, og_15, oi_15, og_16, oi_16, ef_16_2, og_17, oi_17, oq_17, es_17, og_18, oi_18, oq_18, es_18, og_19, oi_19, oq_19, es_19, og_20, oi_20, ef_20_1, og_21, oi_21, oq_21, es_21, og_22, oi_22, ef_22_1, og_23, oi_23, oq_23, es_23, og_24, oi_24, ef_24_1, og_25, oi_25, oq_25, es_25, og_26, oi_26, ef_26_1, og_27, oi_27, oq_27, es_27, og_28, oi_28, ef_28_1, og_29, oi_29, oq_29, es_29, og_30, oi_30, ef_30_1, og_31, oi_31, oq_31, es_31, og_32, oi_32, ef_32_1, og_33, oi_33, oq_33, es_33, og_34, oi_34, ef_34_1, og_35, oi_35, oq_35, es_35]
  refine o_use (c_isWithin G (enc σ) a 16) ?_
  rintro w h' ⟨rfl, rfl⟩
  refine s_T_protect_6 _ _ _ _ _ ?_
  unfold sp_protect
  cases h1 : wI a 16 with
  | false =>
    simp only [k_T_protect_6, o_iconst, o_lconst, o_iload, o_lload, o_aload, o_istore, o_lstore, o_astore, o_iinc, o_iadd, o_isub, o_imul, o_iand, o_ior, o_idiv, o_irem, o_lor, o_lushr, o_lshl, o_i2l, o_l2i, o_lcmp, o_dup, o_pop, o_dup2, o_ifeq, o_ifne, o_iflt, o_ifge, o_ifgt, o_ifle, o_icmpeq, o_icmpne, o_icmplt, o_icmpge, o_icmpgt, o_icmple, o_jmp, o_tsw, o_iret, o_zret, o_lret, o_vret, o_getf, o_putfI, o_putfR, o_iald, o_alen, o_lald, o_zald, o_iast, o_last, o_zast, o_aald, o_aast, o_new, o_newa, o_callS, o_callI, o_callV, o_objInit, o_mmax, o_mmin, o_lk, o_up1, o_up2, o_cl1, o_cl2, o_keep, o_c2, List.getElem?_cons_zero, List.getElem?_cons_succ, List.drop_zero, List.drop_succ_cons, List.take_zero, List.take_succ_cons, List.reverse_cons, List.reverse_nil, List.nil_append, List.cons_append, List.map_cons, List.map_nil, List.sum_cons, List.sum_nil, Value.category, List.length_cons, List.length_nil, List.set_cons_zero, List.set_cons_succ, Option.toList_some, Option.toList_none, lv_args, ↓reduceIte, Nat.reduceAdd, Nat.reduceSub, Nat.reduceMul, Nat.reduceEqDiff, Nat.reduceLeDiff, Nat.reduceLT, reduceCtorEq, Bool.false_eq_true, and_true, true_and, and_self, and_false, false_and, Nat.zero_add, Nat.le_refl, Nat.zero_le, true_or, or_true, not_true_eq_false, not_false_eq_true, forall_const, false_implies, implies_true, true_implies, Int32.reduceAdd, Int32.reduceLE, Int32.reduceLT, Int32.reduceSub, Int32.reduceMul, Int32.reduceToNatClampNeg, bz_f, Bool.false_and]
    exact SP.mk hR (frC_r σ)
  | true =>
  obtain ⟨a, ha, rfl⟩ := wI_t (n := 16) (by decide) h1
  rw [tN_nI (show a < 2 ^ 31 by omega), Bool.true_and]
  have h4 := wI_le (x := b) (n := 3) (by decide)
  simp only [k_T_protect_6, o_iconst, o_lconst, o_iload, o_lload, o_aload, o_istore, o_lstore, o_astore, o_iinc, o_iadd, o_isub, o_imul, o_iand, o_ior, o_idiv, o_irem, o_lor, o_lushr, o_lshl, o_i2l, o_l2i, o_lcmp, o_dup, o_pop, o_dup2, o_ifeq, o_ifne, o_iflt, o_ifge, o_ifgt, o_ifle, o_icmpeq, o_icmpne, o_icmplt, o_icmpge, o_icmpgt, o_icmple, o_jmp, o_tsw, o_iret, o_zret, o_lret, o_vret, o_getf, o_putfI, o_putfR, o_iald, o_alen, o_lald, o_zald, o_iast, o_last, o_zast, o_aald, o_aast, o_new, o_newa, o_callS, o_callI, o_callV, o_objInit, o_mmax, o_mmin, o_lk, o_up1, o_up2, o_cl1, o_cl2, o_keep, o_c2, List.getElem?_cons_zero, List.getElem?_cons_succ, List.drop_zero, List.drop_succ_cons, List.take_zero, List.take_succ_cons, List.reverse_cons, List.reverse_nil, List.nil_append, List.cons_append, List.map_cons, List.map_nil, List.sum_cons, List.sum_nil, Value.category, List.length_cons, List.length_nil, List.set_cons_zero, List.set_cons_succ, Option.toList_some, Option.toList_none, lv_args, ↓reduceIte, Nat.reduceAdd, Nat.reduceSub, Nat.reduceMul, Nat.reduceEqDiff, Nat.reduceLeDiff, Nat.reduceLT, reduceCtorEq, Bool.false_eq_true, and_true, true_and, and_self, and_false, false_and, Nat.zero_add, Nat.le_refl, Nat.zero_le, true_or, or_true, not_true_eq_false, not_false_eq_true, forall_const, false_implies, implies_true, true_implies, Int32.reduceAdd, Int32.reduceLE, Int32.reduceLT, Int32.reduceSub, Int32.reduceMul, Int32.reduceToNatClampNeg, og_0, oi_0, ef_0_8, og_1, oi_1, og_2, oi_2, oq_2, es_2, og_3, oi_3, oq_3, es_3, og_4, oi_4, oq_4, es_4, og_5, oi_5, ef_5_2, og_6, oi_6, es_6, og_7, oi_7, oq_7, es_7, og_8, oi_8, og_9, oi_9, oq_9, es_9, og_10, oi_10, oq_10, es_10, og_11, oi_11, oq_11, es_11, og_12, oi_12, oq_12, es_12, og_13, oi_13, oq_13, es_13, og_14, oi_14, og_15, oi_15, og_16, oi_16, ef_16_2, og_17, oi_17, oq_17, es_17, og_18, oi_18, oq_18, es_18, og_19, oi_19, oq_19, es_19, og_20, oi_20, ef_20_1, og_21, oi_21, oq_21, es_21, og_22, oi_22, ef_22_1, og_23, oi_23, oq_23, es_23, og_24, oi_24, ef_24_1, og_25, oi_25, oq_25, es_25, og_26, oi_26, ef_26_1, og_27, oi_27, oq_27, es_27, og_28, oi_28, ef_28_1, og_29, oi_29, oq_29, es_29, og_30, oi_30, ef_30_1, og_31, oi_31, oq_31, es_31, og_32, oi_32, ef_32_1, og_33, oi_33, oq_33, es_33, og_34, oi_34, ef_34_1, og_35, oi_35, oq_35, es_35, bz_t]
  refine ⟨fun q => absurd q i01, fun _ => ⟨fun q1 => ?_, fun q1 => ⟨fun q2 => ?_, fun q2 => ?_⟩⟩⟩
  · rw [decide_eq_false (fun h => h q1)] at h4
    have h5 : wI b 4 = false := h4
    rw [h5, if_neg (by decide)]
    exact SP.mk hR (frC_r σ)
  · rw [decide_eq_true q1, decide_eq_true (show b ≤ nI 3 from q2)] at h4
    have h5 : wI b 4 = true := h4
    obtain ⟨b, hb, rfl⟩ := wI_t (n := 4) (by decide) h5
    rw [if_pos h5, tN_nI (show b < 2 ^ 31 by omega)]
    refine o_use (c_entry G σ hp ha) ?_
    rintro w h' ⟨rfl, rfl⟩
    refine s_T_protect_30 _ _ _ _ _ ?_
    simp only [k_T_protect_30, o_iconst, o_lconst, o_iload, o_lload, o_aload, o_istore, o_lstore, o_astore, o_iinc, o_iadd, o_isub, o_imul, o_iand, o_ior, o_idiv, o_irem, o_lor, o_lushr, o_lshl, o_i2l, o_l2i, o_lcmp, o_dup, o_pop, o_dup2, o_ifeq, o_ifne, o_iflt, o_ifge, o_ifgt, o_ifle, o_icmpeq, o_icmpne, o_icmplt, o_icmpge, o_icmpgt, o_icmple, o_jmp, o_tsw, o_iret, o_zret, o_lret, o_vret, o_getf, o_putfI, o_putfR, o_iald, o_alen, o_lald, o_zald, o_iast, o_last, o_zast, o_aald, o_aast, o_new, o_newa, o_callS, o_callI, o_callV, o_objInit, o_mmax, o_mmin, o_lk, o_up1, o_up2, o_cl1, o_cl2, o_keep, o_c2, List.getElem?_cons_zero, List.getElem?_cons_succ, List.drop_zero, List.drop_succ_cons, List.take_zero, List.take_succ_cons, List.reverse_cons, List.reverse_nil, List.nil_append, List.cons_append, List.map_cons, List.map_nil, List.sum_cons, List.sum_nil, Value.category, List.length_cons, List.length_nil, List.set_cons_zero, List.set_cons_succ, Option.toList_some, Option.toList_none, lv_args, ↓reduceIte, Nat.reduceAdd, Nat.reduceSub, Nat.reduceMul, Nat.reduceEqDiff, Nat.reduceLeDiff, Nat.reduceLT, reduceCtorEq, Bool.false_eq_true, and_true, true_and, and_self, and_false, false_and, Nat.zero_add, Nat.le_refl, Nat.zero_le, true_or, or_true, not_true_eq_false, not_false_eq_true, forall_const, false_implies, implies_true, true_implies, Int32.reduceAdd, Int32.reduceLE, Int32.reduceLT, Int32.reduceSub, Int32.reduceMul, Int32.reduceToNatClampNeg, og_0, oi_0, ef_0_8, og_1, oi_1, og_2, oi_2, oq_2, es_2, og_3, oi_3, oq_3, es_3, og_4, oi_4, oq_4, es_4, og_5, oi_5, ef_5_2, og_6, oi_6, es_6, og_7, oi_7, oq_7, es_7, og_8, oi_8, og_9, oi_9, oq_9, es_9, og_10, oi_10, oq_10, es_10, og_11, oi_11, oq_11, es_11, og_12, oi_12, oq_12, es_12, og_13, oi_13, oq_13, es_13, og_14, oi_14, og_15, oi_15, og_16, oi_16, ef_16_2, og_17, oi_17, oq_17, es_17, og_18, oi_18, oq_18, es_18, og_19, oi_19, oq_19, es_19, og_20, oi_20, ef_20_1, og_21, oi_21, oq_21, es_21, og_22, oi_22, ef_22_1, og_23, oi_23, oq_23, es_23, og_24, oi_24, ef_24_1, og_25, oi_25, oq_25, es_25, og_26, oi_26, ef_26_1, og_27, oi_27, oq_27, es_27, og_28, oi_28, ef_28_1, og_29, oi_29, oq_29, es_29, og_30, oi_30, ef_30_1, og_31, oi_31, oq_31, es_31, og_32, oi_32, ef_32_1, og_33, oi_33, oq_33, es_33, og_34, oi_34, ef_34_1, og_35, oi_35, oq_35, es_35, hR.1 (p * 16 + a) (by omega)]
    by_cases h0 : q_pg m (p * 16 + a) = 0
    · rw [if_neg (fun q => q.1 h0), h0]
      exact ⟨fun _ => SP.mk hR (frC_r σ), fun q => absurd rfl q⟩
    · obtain ⟨e1, e2⟩ := pgv_div hO.1 h0
      generalize hE : q_pg m (p * 16 + a) = E at *
      have e3 : nI (E - 1) - nI ((E - 1) % 4) + nI b = nI (E - 1 - (E - 1) % 4 + b) := by rw [pk_sub (Nat.mod_le _ _), nI_add]
      rw [e1, bit3 _ e2, e3]
      refine ⟨fun q => absurd q (nI_nm1 _ e2), fun _ => ⟨fun q => ?_, fun q => ?_⟩⟩
      · have hb4 : (E - 1) / 4 % 2 = 1 := Classical.byContradiction fun hh => q ((bit4 _ e2).mpr hh)
        rw [if_pos ⟨h0, hb4⟩]
        refine o_use (c_setEntry G σ (nI (E - 1 - (E - 1) % 4 + b)) hp ha) ?_
        rintro w h' ⟨rfl, rfl⟩
        refine s_T_protect_70 _ _ _ _ _ ?_
        simp only [k_T_protect_70, o_iconst, o_lconst, o_iload, o_lload, o_aload, o_istore, o_lstore, o_astore, o_iinc, o_iadd, o_isub, o_imul, o_iand, o_ior, o_idiv, o_irem, o_lor, o_lushr, o_lshl, o_i2l, o_l2i, o_lcmp, o_dup, o_pop, o_dup2, o_ifeq, o_ifne, o_iflt, o_ifge, o_ifgt, o_ifle, o_icmpeq, o_icmpne, o_icmplt, o_icmpge, o_icmpgt, o_icmple, o_jmp, o_tsw, o_iret, o_zret, o_lret, o_vret, o_getf, o_putfI, o_putfR, o_iald, o_alen, o_lald, o_zald, o_iast, o_last, o_zast, o_aald, o_aast, o_new, o_newa, o_callS, o_callI, o_callV, o_objInit, o_mmax, o_mmin, o_lk, o_up1, o_up2, o_cl1, o_cl2, o_keep, o_c2, List.getElem?_cons_zero, List.getElem?_cons_succ, List.drop_zero, List.drop_succ_cons, List.take_zero, List.take_succ_cons, List.reverse_cons, List.reverse_nil, List.nil_append, List.cons_append, List.map_cons, List.map_nil, List.sum_cons, List.sum_nil, Value.category, List.length_cons, List.length_nil, List.set_cons_zero, List.set_cons_succ, Option.toList_some, Option.toList_none, lv_args, ↓reduceIte, Nat.reduceAdd, Nat.reduceSub, Nat.reduceMul, Nat.reduceEqDiff, Nat.reduceLeDiff, Nat.reduceLT, reduceCtorEq, Bool.false_eq_true, and_true, true_and, and_self, and_false, false_and, Nat.zero_add, Nat.le_refl, Nat.zero_le, true_or, or_true, not_true_eq_false, not_false_eq_true, forall_const, false_implies, implies_true, true_implies, Int32.reduceAdd, Int32.reduceLE, Int32.reduceLT, Int32.reduceSub, Int32.reduceMul, Int32.reduceToNatClampNeg]
        refine SP.mk (RC_g hR ?_) (frC_sI (frC_r σ) (by decide))
        intro k hk
        simp only [upd, va_up]
        by_cases h : k = p * 16 + a
        · rw [if_pos h, if_pos h, show E - (E - 1) % 4 + b = (E - 1 - (E - 1) % 4 + b) + 1 by omega]; rfl
        · rw [if_neg h, if_neg h]; exact hR.1 k hk
      · rw [if_neg (fun hh => (bit4 _ e2).mp q hh.2)]
        exact SP.mk hR (frC_r σ)
  · rw [decide_eq_false (show ¬ b ≤ nI 3 from q2), Bool.and_false] at h4
    have h5 : wI b 4 = false := h4
    rw [h5, if_neg (by decide)]
    exact SP.mk hR (frC_r σ)
