/-! A new thing that a descriptor stands for. -/
def q_mk (m : MS) (k o t d : Nat) : MS := q_sds (q_sps (q_smd (q_stg m (va_up (q_tg m) o t)) (va_up (q_md m) o d)) (va_up (q_ps m) o 0)) (va_up (q_ds m) k (o + 1))
theorem has_at {ds : Nat → Nat} {k o : Nat} (hk : k < 15) (h : ds k = 0) {x : Nat} (hx : x ≠ o) : has (va_up ds k (o + 1)) x = has ds x := by
  have := ocnt_at (o := o) hk h x
  unfold has
  rw [this, if_neg hx, Nat.add_zero]
theorem opF_mk {m : MS} {k o t d : Nat} (hk : k < 15) (h0 : q_ds m k = 0) {t' g x : Nat} (h : opF (q_mk m k o t d) t' g x = true) : opF m t' g x = true ∨ (x = o ∧ t' = t) := by
  by_cases hx : x = o
  · right
    refine ⟨hx, ?_⟩
    unfold opF at h
    rw [Bool.and_eq_true, Bool.and_eq_true, decide_eq_true_eq] at h
    have e : q_tg (q_mk m k o t d) x = t := by
      show va_up (q_tg m) o t x = t
      simp [va_up, hx]
    omega
  · left
    unfold opF at h ⊢
    have e1 : has (q_ds (q_mk m k o t d)) x = has (q_ds m) x := has_at hk h0 hx
    have e2 : q_tg (q_mk m k o t d) x = q_tg m x := by
      show va_up (q_tg m) o t x = _
      simp [va_up, hx]
    have e3 : q_md (q_mk m k o t d) x = q_md m x := by
      show va_up (q_md m) o d x = _
      simp [va_up, hx]
    rw [e1, e2, e3] at h
    exact h
theorem opn_mk {m : MS} {k o t d : Nat} (hk : k < 15) (h0 : q_ds m k = 0) {t' g : Nat} (h : 0 < opn (q_mk m k o t d) t' g) : 0 < opn m t' g ∨ t' = t := by
  obtain ⟨x, hx, hf⟩ := cnt_ex h
  rcases opF_mk hk h0 hf with e | e
  · exact Or.inl (cnt_pos hx e)
  · exact Or.inr e.2
theorem fex_mk {m : MS} {k o t d f : Nat} (hk : k < 15) (h0 : q_ds m k = 0) (h : fex (q_mk m k o t d) f = true) : fex m f = true ∨ f = t := by
  unfold fex at h
  rw [Bool.or_eq_true, decide_eq_true_eq, decide_eq_true_eq] at h
  unfold fex
  rw [Bool.or_eq_true, decide_eq_true_eq, decide_eq_true_eq]
  rcases h with e | e
  · exact Or.inl (Or.inl e)
  · rcases opn_mk hk h0 e with e | e
    · exact Or.inl (Or.inr e)
    · exact Or.inr e
theorem pex_mk {m : MS} {k o t d q : Nat} (hk : k < 15) (h0 : q_ds m k = 0) (h : pex (q_mk m k o t d) q = true) : pex m q = true ∨ 6 + q = t := by
  unfold pex at h ⊢
  rw [decide_eq_true_eq] at h ⊢
  exact opn_mk hk h0 h
def fC (m : MS) (σ : oT) (f : Nat) : Prop := σ.2.2 (20 + 2 * f) 1 = nI (q_sz m f) ∧ ∀ i, i < q_sz m f → σ.1 (21 + 2 * f) i = nI (q_dat m f i)
def qC (m : MS) (σ : oT) (q : Nat) : Prop := σ.2.2 (32 + 2 * q) 1 = nI (q_hl m q) ∧ ∀ i, i < q_hl m q → σ.1 (33 + 2 * q) i = nI (q_pb m q i)
abbrev mkT (σ : oT) (x y : Int32) (k o : Nat) : oT := sI (sI (sI (sI (sI σ 11 (upd (σ.1 11) o x)) 12 (upd (σ.1 12) o y)) 13 (upd (σ.1 13) o 0)) 9 (upd (σ.1 9) k (nI o))) 10 (upd (σ.1 10) o (σ.1 10 o + 1))
theorem RC_mk {m : MS} {σ : oT} {k o t d : Nat} (h : RC m σ) (hk : k < 15) (h0 : q_ds m k = 0) (ho : o < 8) (hno : has (q_ds m) o = false) (hf : t < 6 → fC m σ t) (hq : ∀ q, 6 + q = t → qC m σ q) : RC (q_mk m k o t d) (mkT σ (nI t) (nI d) k o) := by
  have hd := RCd_at h.2.2.2.2.2.1 hk h0 ho
  refine ⟨h.1, h.2.1, h.2.2.1, h.2.2.2.1, h.2.2.2.2.1, hd, ?_, ?_, ?_⟩
  · intro x hx hh
    show upd (σ.1 11) o (nI t) x = nI (va_up (q_tg m) o t x) ∧ upd (σ.1 12) o (nI d) x = nI (va_up (q_md m) o d x) ∧ upd (σ.1 13) o 0 x = nI (va_up (q_ps m) o 0 x)
    simp only [upd, va_up]
    by_cases e : x = o
    · rw [if_pos e, if_pos e, if_pos e, if_pos e, if_pos e, if_pos e]
      exact ⟨rfl, rfl, rfl⟩
    · rw [if_neg e, if_neg e, if_neg e, if_neg e, if_neg e, if_neg e]
      refine h.2.2.2.2.2.2.1 x hx ?_
      have e1 : has (q_ds (q_mk m k o t d)) x = has (q_ds m) x := has_at hk h0 e
      rw [← e1]
      exact hh
  · intro f hf6 hh
    have key : fC m σ f := by
      rcases fex_mk hk h0 hh with e | e
      · exact h.2.2.2.2.2.2.2.1 f hf6 e
      · subst e; exact hf hf6
    refine ⟨key.1, fun i hi => ?_⟩
    show (mkT σ (nI t) (nI d) k o).1 (21 + 2 * f) i = _
    rw [sI_1, if_neg (by omega), sI_1, if_neg (by omega), sI_1, if_neg (by omega), sI_1, if_neg (by omega), sI_1, if_neg (by omega)]
    exact key.2 i hi
  · intro q hq2 hh
    have key : qC m σ q := by
      rcases pex_mk hk h0 hh with e | e
      · exact h.2.2.2.2.2.2.2.2 q hq2 e
      · exact hq q e
    refine ⟨key.1, fun i hi => ?_⟩
    show (mkT σ (nI t) (nI d) k o).1 (33 + 2 * q) i = _
    rw [sI_1, if_neg (by omega), sI_1, if_neg (by omega), sI_1, if_neg (by omega), sI_1, if_neg (by omega), sI_1, if_neg (by omega)]
    exact key.2 i hi
theorem fr_mk {σ : oT} {x y : Int32} {k o : Nat} : frC σ (mkT σ x y k o) := frC_sI (frC_sI (frC_sI (frC_sI (frC_sI (frC_r σ) (by decide)) (by decide)) (by decide)) (by decide)) (by decide)
/-- as RC, but nothing is known of the file f -/
def RC0 (f : Nat) (m : MS) (σ : oT) : Prop := RCg m σ ∧ RCb m σ ∧ RCe m σ ∧ σ.2.2 0 8 = q_trp m ∧ RCn (q_nm m) σ ∧ RCd m σ ∧ RCo m σ ∧ (∀ f', f' < 6 → f' ≠ f → fex m f' = true → fC m σ f') ∧ RCq m σ
theorem RC.to0 {m : MS} {σ : oT} (h : RC m σ) (f : Nat) : RC0 f m σ := ⟨h.1, h.2.1, h.2.2.1, h.2.2.2.1, h.2.2.2.2.1, h.2.2.2.2.2.1, h.2.2.2.2.2.2.1, fun f' hf _ he => h.2.2.2.2.2.2.2.1 f' hf he, h.2.2.2.2.2.2.2.2⟩
theorem RC0.empty {f : Nat} {m : MS} {σ : oT} (h : RC0 f m σ) (hf : f < 6) : RC (q_ssz m (va_up (q_sz m) f 0)) (sF σ (20 + 2 * f) 1 0) ∧ fC (q_ssz m (va_up (q_sz m) f 0)) (sF σ (20 + 2 * f) 1 0) f := by
  have hz : fC (q_ssz m (va_up (q_sz m) f 0)) (sF σ (20 + 2 * f) 1 0) f := by
    have e : q_sz (q_ssz m (va_up (q_sz m) f 0)) f = 0 := by
      show va_up (q_sz m) f 0 f = 0
      simp [va_up]
    refine ⟨?_, fun i hi => ?_⟩
    · rw [e, sF_3, if_pos rfl, if_pos rfl]; rfl
    · rw [e] at hi; omega
  refine ⟨⟨h.1, h.2.1, h.2.2.1, ?_, ⟨h.2.2.2.2.1.1, ?_, h.2.2.2.2.1.2.2⟩, h.2.2.2.2.2.1, h.2.2.2.2.2.2.1, fun f' hf' he => ?_, RCq_sF h.2.2.2.2.2.2.2.2 (by omega)⟩, hz⟩
  · rw [sF_3, if_neg (by omega)]; exact h.2.2.2.1
  · rw [sF_3, if_neg (by omega)]; exact h.2.2.2.2.1.2.1
  · by_cases e : f' = f
    · subst e; exact hz
    · have hh := h.2.2.2.2.2.2.2.1 f' hf' e he
      have e2 : q_sz (q_ssz m (va_up (q_sz m) f 0)) f' = q_sz m f' := by
        show va_up (q_sz m) f 0 f' = _
        simp [va_up, e]
      refine ⟨?_, fun i hi => ?_⟩
      · rw [e2, sF_3, if_neg (by omega)]; exact hh.1
      · rw [e2] at hi; exact hh.2 i hi
theorem RC0.name {f : Nat} {m : MS} {σ τ : oT} {k : Nat} (h : RC m σ) (h1 : ∀ k, k ≠ 7 → τ.1 k = σ.1 k) (h2 : ∀ k, k ≠ 5 → τ.2.2 k = σ.2.2 k) (hn : RCn (q_ins k f (q_nm m)) τ) : RC0 f (q_snm m (q_ins k f (q_nm m))) τ := by
  refine ⟨?_, ?_, ?_, ?_, hn, ?_, ?_, ?_, ?_⟩
  · intro k hk; rw [h1 3 (by decide)]; exact h.1 k hk
  · intro k hk; rw [h1 2 (by decide)]; exact h.2.1 k hk
  · intro k hk; rw [h1 4 (by decide)]; exact h.2.2.1 k hk
  · rw [h2 0 (by decide)]; exact h.2.2.2.1
  · refine ⟨fun d hd => ?_, fun o ho => ?_⟩
    · rw [h1 9 (by decide)]; exact h.2.2.2.2.2.1.1 d hd
    · rw [h1 10 (by decide)]; exact h.2.2.2.2.2.1.2 o ho
  · intro o ho hh
    rw [h1 11 (by decide), h1 12 (by decide), h1 13 (by decide)]
    exact h.2.2.2.2.2.2.1 o ho hh
  · intro f' hf6 hne hh
    have e : fex m f' = true := by
      refine fex_nm_le (fun h5 => ?_) hh
      rw [nof_countP, countP_ins, ← nof_countP] at h5
      rw [if_neg (by simpa using Ne.symm hne), Nat.add_zero] at h5
      unfold fex
      rw [decide_eq_true h5]
      rfl
    unfold fC
    rw [h1 (21 + 2 * f') (by omega), h2 (20 + 2 * f') (by omega)]
    exact h.2.2.2.2.2.2.2.1 f' hf6 e
  · intro q hq hh
    rw [h1 (33 + 2 * q) (by omega), h2 (32 + 2 * q) (by omega)]
    exact h.2.2.2.2.2.2.2.2 q hq hh
def opm (b : Int32) : Bool := wI b 16 && (!decide (tN b % 4 = 0) && (decide (tN b / 8 % 2 = 0) || decide (tN b / 2 % 2 = 1)))
theorem mb3 : ∀ b, b < 16 → (nI b &&& 3 = nI (b % 4)) ∧ ((nI b &&& 3 = 0) ↔ b % 4 = 0) ∧ ((nI b &&& 8 = 0) ↔ b / 8 % 2 = 0) ∧ ((nI b &&& 2 = 0) ↔ b / 2 % 2 = 0) ∧ ((nI b &&& 4 = 0) ↔ b / 4 % 2 = 0) := by decide +kernel
theorem c_isOpenMode (G : oG) (h : oH) (b : Int32) : Mt G m_T_isOpenMode [.int b] h 0 0 (fun v h' => v = some (.int (bz (opm b))) ∧ h' = h) := by
  refine Mt.of (by decide) (Nat.le_of_ble_eq_true rfl) (s_T_isOpenMode_0 _ _ _ _ _ ?_)
  simp only [k_T_isOpenMode_0, o_iconst, o_lconst, o_iload, o_lload, o_aload, o_istore, o_lstore, o_astore, o_iinc, o_iadd, o_isub, o_imul, o_iand, o_ior, o_idiv, o_irem, o_lor, o_lushr, o_lshl, o_i2l, o_l2i, o_lcmp, o_dup, o_pop, o_dup2, o_ifeq, o_ifne, o_iflt, o_ifge, o_ifgt, o_ifle, o_icmpeq, o_icmpne, o_icmplt, o_icmpge, o_icmpgt, o_icmple, o_jmp, o_tsw, o_iret, o_zret, o_lret, o_vret, o_getf, o_putfI, o_putfR, o_iald, o_alen, o_lald, o_zald, o_iast, o_last, o_zast, o_aald, o_aast, o_new, o_newa, o_callS, o_callI, o_callV, o_objInit, o_mmax, o_mmin, o_lk, o_up1, o_up2, o_cl1, o_cl2, o_keep, o_c2, List.getElem?_cons_zero, List.getElem?_cons_succ, List.drop_zero, List.drop_succ_cons, List.take_zero, List.take_succ_cons, List.reverse_cons, List.reverse_nil, List.nil_append, List.cons_append, List.map_cons, List.map_nil, List.sum_cons, List.sum_nil, Value.category, List.length_cons, List.length_nil, List.set_cons_zero, List.set_cons_succ, Option.toList_some, Option.toList_none, lv_args, ↓reduceIte, Nat.reduceAdd, Nat.reduceSub, Nat.reduceMul, Nat.reduceEqDiff, Nat.reduceLeDiff, Nat.reduceLT, reduceCtorEq, Bool.false_eq_true, and_true, true_and, and_self, and_false, false_and, Nat.zero_add, Nat.le_refl, Nat.zero_le, true_or, or_true, not_true_eq_false, not_false_eq_true, forall_const, false_implies, implies_true, true_implies, Int32.reduceAdd, Int32.reduceLE, Int32.reduceLT, Int32.reduceSub, Int32.reduceMul, Int32.reduceToNatClampNeg]
  have h4 := wI_le (x := b) (n := 15) (by decide)
  refine ⟨fun q1 => ?_, fun q1 => ⟨fun q2 => ?_, fun q2 => ?_⟩⟩
  · rw [decide_eq_false (fun h => h q1)] at h4
    have h5 : wI b 16 = false := h4
    simp [opm, h5, bz]
  · rw [decide_eq_false (show ¬ b ≤ nI 15 from i_nle q2), Bool.and_false] at h4
    have h5 : wI b 16 = false := h4
    simp [opm, h5, bz]
  · rw [decide_eq_true q1, decide_eq_true (show b ≤ nI 15 from i_ge q2)] at h4
    have h5 : wI b 16 = true := h4
    obtain ⟨b, hb, rfl⟩ := wI_t (n := 16) (by decide) h5
    obtain ⟨-, m1, m2, m3, m4⟩ := mb3 b hb
    refine ⟨fun q3 => ?_, fun q3 => ?_⟩
    · refine s_T_isOpenMode_18 _ _ _ _ _ ?_
      have q4 : ¬ b % 4 = 0 := fun h => q3 (m1.mpr h)
      simp only [k_T_isOpenMode_18, o_iconst, o_lconst, o_iload, o_lload, o_aload, o_istore, o_lstore, o_astore, o_iinc, o_iadd, o_isub, o_imul, o_iand, o_ior, o_idiv, o_irem, o_lor, o_lushr, o_lshl, o_i2l, o_l2i, o_lcmp, o_dup, o_pop, o_dup2, o_ifeq, o_ifne, o_iflt, o_ifge, o_ifgt, o_ifle, o_icmpeq, o_icmpne, o_icmplt, o_icmpge, o_icmpgt, o_icmple, o_jmp, o_tsw, o_iret, o_zret, o_lret, o_vret, o_getf, o_putfI, o_putfR, o_iald, o_alen, o_lald, o_zald, o_iast, o_last, o_zast, o_aald, o_aast, o_new, o_newa, o_callS, o_callI, o_callV, o_objInit, o_mmax, o_mmin, o_lk, o_up1, o_up2, o_cl1, o_cl2, o_keep, o_c2, List.getElem?_cons_zero, List.getElem?_cons_succ, List.drop_zero, List.drop_succ_cons, List.take_zero, List.take_succ_cons, List.reverse_cons, List.reverse_nil, List.nil_append, List.cons_append, List.map_cons, List.map_nil, List.sum_cons, List.sum_nil, Value.category, List.length_cons, List.length_nil, List.set_cons_zero, List.set_cons_succ, Option.toList_some, Option.toList_none, lv_args, ↓reduceIte, Nat.reduceAdd, Nat.reduceSub, Nat.reduceMul, Nat.reduceEqDiff, Nat.reduceLeDiff, Nat.reduceLT, reduceCtorEq, Bool.false_eq_true, and_true, true_and, and_self, and_false, false_and, Nat.zero_add, Nat.le_refl, Nat.zero_le, true_or, or_true, not_true_eq_false, not_false_eq_true, forall_const, false_implies, implies_true, true_implies, Int32.reduceAdd, Int32.reduceLE, Int32.reduceLT, Int32.reduceSub, Int32.reduceMul, Int32.reduceToNatClampNeg, m2, m3]
      refine ⟨fun q5 => ?_, fun q5 => ⟨fun q6 => ?_, fun q6 => ?_⟩⟩
      · simp [opm, h5, tN_nI (show b < 2 ^ 31 by omega), q4, q5, bz]
      · simp [opm, h5, tN_nI (show b < 2 ^ 31 by omega), q4, q5, q6, bz]
      · have q7 : b / 2 % 2 = 1 := by omega
        simp [opm, h5, tN_nI (show b < 2 ^ 31 by omega), q4, q5, q7, bz]
    · simp [opm, h5, tN_nI (show b < 2 ^ 31 by omega), m1.mp q3, bz]
def q_opn (m : MS) (p d o f : Nat) (b : Int32) : Int32 × MS := (nI d, q_mk m (p * 5 + d) o f (tN b % 4))
def sp_open (m : MS) (p : Nat) (a b : Int32) : Int32 × MS := if opm b = true then (match q_str m p a with
  | none => (-14, m)
  | some s => if q_key s = 0 then (-2, m) else match nix (q_nm m) (q_key s) with
    | some i => (match freeD m p 0 with
      | none => (-24, m)
      | some d => match freeO m 0 with
        | none => (-23, m)
        | some o => if tN b / 8 % 2 = 0 then q_opn m p d o ((q_nm m).getD i (0, 0)).2 b else q_opn (q_ssz m (va_up (q_sz m) ((q_nm m).getD i (0, 0)).2 0)) p d o ((q_nm m).getD i (0, 0)).2 b)
    | none => if tN b / 4 % 2 = 0 then (-2, m) else match freeD m p 0 with
      | none => (-24, m)
      | some d => match freeO m 0 with
        | none => (-23, m)
        | some o => match freeF m with
          | none => (-28, m)
          | some f => if (q_nm m).length = 8 then (-28, m) else q_opn (q_ssz (q_snm m (q_ins (q_key s) f (q_nm m))) (va_up (q_sz m) f 0)) p d o f b) else (-22, m)
theorem freeO_some {m : MS} {i o : Nat} (hi : i ≤ 8) (h : freeO m i = some o) : i ≤ o ∧ o < 8 ∧ has (q_ds m) o = false := by
  obtain ⟨h1, h2, h3, -⟩ := lst_lt h
  refine ⟨h1, by omega, ?_⟩
  simpa using h3
theorem freeF_some {m : MS} {f : Nat} (h : freeF m = some f) : f < 6 ∧ fex m f = false := by
  obtain ⟨h1, h2, h3, -⟩ := lst_lt h
  refine ⟨by omega, ?_⟩
  simpa using h3
theorem open_end (G : oG) (σ τ : oT) (m : MS) (hR : RC m τ) (hfr : frC σ τ) {p d o f b : Nat} (hp : p < 3) (hd : d < 5) (h0 : q_ds m (p * 5 + d) = 0) (ho : o < 8) (hno : has (q_ds m) o = false) (hf6 : f < 6) (hf : fC m τ f) (hb : b < 16) : ∃ (mc ms : Nat) (P : oP), mc ≤ 0 ∧ ms ≤ 0 ∧ Mt G m_O_make [.ref 9, .int (nI o), .int (nI f), .int (nI b &&& 3)] (enc τ) mc ms P ∧ ∀ (w : Option Value) (h' : oH), P w h' → Wp G m_T_open (SP σ (q_opn m p d o f (nI b))) 210 (0 - mc) (0 - ms) [(0, .ref 1), (1, .int (nI p)), (7, .int (nI d)), (8, .int (nI o))] (w.toList ++ []) h' := by
  obtain ⟨m1, -⟩ := mb3 b hb
  rw [m1]
  refine o_use (c_omake G τ (nI f) (nI (b % 4)) ho) ?_
  rintro w h' ⟨rfl, rfl⟩
  refine s_T_open_210 _ _ _ _ _ ?_
  simp only [k_T_open_210, o_iconst, o_lconst, o_iload, o_lload, o_aload, o_istore, o_lstore, o_astore, o_iinc, o_iadd, o_isub, o_imul, o_iand, o_ior, o_idiv, o_irem, o_lor, o_lushr, o_lshl, o_i2l, o_l2i, o_lcmp, o_dup, o_pop, o_dup2, o_ifeq, o_ifne, o_iflt, o_ifge, o_ifgt, o_ifle, o_icmpeq, o_icmpne, o_icmplt, o_icmpge, o_icmpgt, o_icmple, o_jmp, o_tsw, o_iret, o_zret, o_lret, o_vret, o_getf, o_putfI, o_putfR, o_iald, o_alen, o_lald, o_zald, o_iast, o_last, o_zast, o_aald, o_aast, o_new, o_newa, o_callS, o_callI, o_callV, o_objInit, o_mmax, o_mmin, o_lk, o_up1, o_up2, o_cl1, o_cl2, o_keep, o_c2, List.getElem?_cons_zero, List.getElem?_cons_succ, List.drop_zero, List.drop_succ_cons, List.take_zero, List.take_succ_cons, List.reverse_cons, List.reverse_nil, List.nil_append, List.cons_append, List.map_cons, List.map_nil, List.sum_cons, List.sum_nil, Value.category, List.length_cons, List.length_nil, List.set_cons_zero, List.set_cons_succ, Option.toList_some, Option.toList_none, lv_args, ↓reduceIte, Nat.reduceAdd, Nat.reduceSub, Nat.reduceMul, Nat.reduceEqDiff, Nat.reduceLeDiff, Nat.reduceLT, reduceCtorEq, Bool.false_eq_true, and_true, true_and, and_self, and_false, false_and, Nat.zero_add, Nat.le_refl, Nat.zero_le, true_or, or_true, not_true_eq_false, not_false_eq_true, forall_const, false_implies, implies_true, true_implies, Int32.reduceAdd, Int32.reduceLE, Int32.reduceLT, Int32.reduceSub, Int32.reduceMul, Int32.reduceToNatClampNeg, og_0, oi_0, ef_0_8, og_1, oi_1, og_2, oi_2, oq_2, es_2, og_3, oi_3, oq_3, es_3, og_4, oi_4, oq_4, es_4, og_5, oi_5, ef_5_2, og_6, oi_6, es_6, og_7, oi_7, oq_7, es_7, og_8, oi_8, og_9, oi_9, oq_9, es_9, og_10, oi_10, oq_10, es_10, og_11, oi_11, oq_11, es_11, og_12, oi_12, oq_12, es_12, og_13, oi_13, oq_13, es_13, og_14, oi_14, og_15, oi_15, og_16, oi_16, ef_16_2, og_17, oi_17, oq_17, es_17, og_18, oi_18, oq_18, es_18, og_19, oi_19, oq_19, es_19, og_20, oi_20, ef_20_1, og_21, oi_21, oq_21, es_21, og_22, oi_22, ef_22_1, og_23, oi_23, oq_23, es_23, og_24, oi_24, ef_24_1, og_25, oi_25, oq_25, es_25, og_26, oi_26, ef_26_1, og_27, oi_27, oq_27, es_27, og_28, oi_28, ef_28_1, og_29, oi_29, oq_29, es_29, og_30, oi_30, ef_30_1, og_31, oi_31, oq_31, es_31, og_32, oi_32, ef_32_1, og_33, oi_33, oq_33, es_33, og_34, oi_34, ef_34_1, og_35, oi_35, oq_35, es_35]
  refine o_use (c_attach G _ hp hd ho) ?_
  rintro w h' ⟨rfl, rfl⟩
  refine s_T_open_222 _ _ _ _ _ ?_
  simp only [k_T_open_222, o_iconst, o_lconst, o_iload, o_lload, o_aload, o_istore, o_lstore, o_astore, o_iinc, o_iadd, o_isub, o_imul, o_iand, o_ior, o_idiv, o_irem, o_lor, o_lushr, o_lshl, o_i2l, o_l2i, o_lcmp, o_dup, o_pop, o_dup2, o_ifeq, o_ifne, o_iflt, o_ifge, o_ifgt, o_ifle, o_icmpeq, o_icmpne, o_icmplt, o_icmpge, o_icmpgt, o_icmple, o_jmp, o_tsw, o_iret, o_zret, o_lret, o_vret, o_getf, o_putfI, o_putfR, o_iald, o_alen, o_lald, o_zald, o_iast, o_last, o_zast, o_aald, o_aast, o_new, o_newa, o_callS, o_callI, o_callV, o_objInit, o_mmax, o_mmin, o_lk, o_up1, o_up2, o_cl1, o_cl2, o_keep, o_c2, List.getElem?_cons_zero, List.getElem?_cons_succ, List.drop_zero, List.drop_succ_cons, List.take_zero, List.take_succ_cons, List.reverse_cons, List.reverse_nil, List.nil_append, List.cons_append, List.map_cons, List.map_nil, List.sum_cons, List.sum_nil, Value.category, List.length_cons, List.length_nil, List.set_cons_zero, List.set_cons_succ, Option.toList_some, Option.toList_none, lv_args, ↓reduceIte, Nat.reduceAdd, Nat.reduceSub, Nat.reduceMul, Nat.reduceEqDiff, Nat.reduceLeDiff, Nat.reduceLT, reduceCtorEq, Bool.false_eq_true, and_true, true_and, and_self, and_false, false_and, Nat.zero_add, Nat.le_refl, Nat.zero_le, true_or, or_true, not_true_eq_false, not_false_eq_true, forall_const, false_implies, implies_true, true_implies, Int32.reduceAdd, Int32.reduceLE, Int32.reduceLT, Int32.reduceSub, Int32.reduceMul, Int32.reduceToNatClampNeg]
  unfold q_opn
  rw [tN_nI (show b < 2 ^ 31 by omega)]
  exact SP.mk (RC_mk hR (by omega) h0 ho hno (fun _ => hf) (fun q hq => by omega)) (frC_t hfr fr_mk)
