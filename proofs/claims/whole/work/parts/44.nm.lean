/-! Names taken away, given, changed: the first side. -/
theorem q_rd_ok {m : MS} (hO : OkM m) (hK : OkB m) {p n : Nat} : ∀ {a : Nat} {bs : List Nat}, q_rd m p n a = some bs → bs.length < n ∧ ∀ b ∈ bs, 0 < b ∧ b < 256 := by
  induction n with
  | zero => intro a bs h; cases h
  | succ n ih =>
    intro a bs h
    simp only [q_rd] at h
    split at h
    · split at h
      · cases h
        exact ⟨by simp, fun b hb => absurd hb List.not_mem_nil⟩
      · rename_i h1 h2
        cases hr : q_rd m p n (a + 1) with
        | none => rw [hr] at h; cases h
        | some r =>
          rw [hr] at h
          cases h
          obtain ⟨h3, h4⟩ := ih hr
          refine ⟨by simp only [List.length_cons]; omega, fun b hb => ?_⟩
          rcases List.mem_cons.mp hb with e | e
          · rw [e]
            have := hK _ (q_loc_lt hO p a)
            exact ⟨Nat.pos_of_ne_zero h2, this⟩
          · exact h4 b e
    · cases h
theorem q_fold_lt {bs : List Nat} : ∀ {x k : Nat}, (∀ b ∈ bs, b < 256) → x < 256 ^ k → q_fold x bs < 256 ^ (k + bs.length) := by
  induction bs with
  | nil => intro x k _ hx; simpa [q_fold] using hx
  | cons b r ih =>
    intro x k hb hx
    have h1 := hb b List.mem_cons_self
    have h2 : x * 256 + b < 256 ^ (k + 1) := by rw [Nat.pow_succ]; omega
    have := ih (x := x * 256 + b) (k := k + 1) (fun c hc => hb c (List.mem_cons_of_mem _ hc)) h2
    rw [show k + (b :: r).length = k + 1 + r.length by simp only [List.length_cons]; omega]
    exact this
theorem q_fold_ge {bs : List Nat} : ∀ {x : Nat}, x ≤ q_fold x bs := by
  induction bs with
  | nil => intro x; exact Nat.le_refl _
  | cons b r ih => intro x; exact Nat.le_trans (by omega) (ih (x := x * 256 + b))
theorem q_key_ok {bs : List Nat} (hl : bs.length ≤ 7) (hb : ∀ b ∈ bs, 0 < b ∧ b < 256) : q_key bs < 2 ^ 56 ∧ (q_key bs = 0 ↔ bs = []) := by
  have h1 : q_fold 0 bs < 256 ^ (0 + bs.length) := q_fold_lt (fun b h => (hb b h).2) (by decide)
  rw [Nat.zero_add] at h1
  have h2 : 256 ^ bs.length * 256 ^ (7 - bs.length) = 2 ^ 56 := by
    rw [← Nat.pow_add, show bs.length + (7 - bs.length) = 7 by omega]
  have hp : 0 < 256 ^ (7 - bs.length) := Nat.pow_pos (by decide)
  refine ⟨?_, ?_⟩
  · show q_fold 0 bs * _ < _
    rw [← h2]
    exact Nat.mul_lt_mul_of_pos_right h1 hp
  · constructor
    · intro h
      cases bs with
      | nil => rfl
      | cons b r =>
        exfalso
        have h3 : q_fold 0 (b :: r) = 0 := by
          have : q_fold 0 (b :: r) * 256 ^ (7 - (b :: r).length) = 0 := h
          rcases Nat.mul_eq_zero.mp this with e | e
          · exact e
          · omega
        have h4 : 0 * 256 + b ≤ q_fold (0 * 256 + b) r := q_fold_ge
        have h5 := (hb b List.mem_cons_self).1
        have h6 : q_fold 0 (b :: r) = q_fold (0 * 256 + b) r := rfl
        omega
    · rintro rfl
      rfl
theorem q_str_ok {m : MS} (hO : OkM m) (hK : OkB m) {p : Nat} {a : Int32} {bs : List Nat} (h : q_str m p a = some bs) : bs.length ≤ 7 ∧ (∀ b ∈ bs, 0 < b ∧ b < 256) ∧ q_key bs < 2 ^ 56 ∧ (q_key bs = 0 ↔ bs = []) := by
  unfold q_str at h
  split at h
  · cases h
  · obtain ⟨h1, h2⟩ := q_rd_ok hO hK h
    exact ⟨by omega, h2, q_key_ok (by omega) h2⟩
theorem lN_m1 {k : Nat} (h : k < 2 ^ 56) : ¬ lN k = -1 := by
  intro q
  have := congrArg Int64.toInt q
  rw [pk_lT (by omega)] at this
  have e : ((-1 : Int64)).toInt = -1 := by decide
  omega
theorem lN_0 {k : Nat} (h : k < 2 ^ 56) : lN k = 0 ↔ k = 0 := pk_lEQ (b := 0) (by omega) (by decide)
theorem cntF_sh (f : Nat → Bool) (k : Nat) : ∀ i, cntF f (i + 1) k = cntF (fun j => f (j + 1)) i k := by
  induction k with
  | zero => intro i; rfl
  | succ k ih => intro i; simp only [cntF]; rw [ih]
theorem nof_countP (l : List (Nat × Nat)) (f : Nat) : nof l f = l.countP (fun x => decide (x.2 = f)) := by
  unfold nof
  rw [← cntF_0, Nat.zero_add]
  induction l with
  | nil => rfl
  | cons x r ih =>
    rw [List.countP_cons, ← ih]
    simp only [List.length_cons, cntF, List.getD_cons_zero]
    rw [cntF_sh]
    simp only [List.getD_cons_succ]
    omega
theorem countP_erase {P : Nat × Nat → Bool} {l : List (Nat × Nat)} : ∀ {i : Nat}, i < l.length → (l.eraseIdx i).countP P + (if P (l.getD i (0, 0)) = true then 1 else 0) = l.countP P := by
  induction l with
  | nil => intro i h; exact absurd h (Nat.not_lt_zero _)
  | cons x r ih =>
    intro i h
    cases i with
    | zero => simp [List.countP_cons]
    | succ i =>
      have := ih (i := i) (by simpa using h)
      simp only [List.eraseIdx_cons_succ, List.countP_cons, List.getD_cons_succ]
      omega
theorem countP_ins {P : Nat × Nat → Bool} (k f : Nat) (l : List (Nat × Nat)) : (q_ins k f l).countP P = l.countP P + (if P (k, f) = true then 1 else 0) := by
  induction l with
  | nil => simp [q_ins, List.countP_cons]
  | cons x r ih =>
    simp only [q_ins]
    split
    · simp only [List.countP_cons, ih]; omega
    · simp only [List.countP_cons]
theorem mem_ins {k f : Nat} {l : List (Nat × Nat)} {y : Nat × Nat} : y ∈ q_ins k f l ↔ y = (k, f) ∨ y ∈ l := by
  induction l with
  | nil => simp [q_ins]
  | cons x r ih =>
    simp only [q_ins]
    split
    · simp only [List.mem_cons, ih]
      constructor
      · rintro (h | h | h)
        · exact Or.inr (Or.inl h)
        · exact Or.inl h
        · exact Or.inr (Or.inr h)
      · rintro (h | h | h)
        · exact Or.inr (Or.inl h)
        · exact Or.inl h
        · exact Or.inr (Or.inr h)
    · simp only [List.mem_cons]
theorem ins_len (k f : Nat) (l : List (Nat × Nat)) : (q_ins k f l).length = l.length + 1 := by
  induction l with
  | nil => rfl
  | cons x r ih =>
    simp only [q_ins]
    split
    · simp only [List.length_cons, ih]
    · simp only [List.length_cons]
theorem nix_none {l : List (Nat × Nat)} {k : Nat} (h : nix l k = none) : ∀ x ∈ l, x.1 ≠ k := by
  intro x hx
  obtain ⟨i, hi, e⟩ := List.getElem_of_mem hx
  have := lst_no h i (Nat.zero_le _) (by omega)
  have e2 := of_decide_eq_false this
  have e3 : l.getD i (0, 0) = x := by simp [List.getD, hi, e]
  rw [e3] at e2
  exact e2
theorem nix_some {l : List (Nat × Nat)} {k i : Nat} (h : nix l k = some i) : i < l.length ∧ (l.getD i (0, 0)).1 = k := by
  obtain ⟨h1, h2, h3, -⟩ := lst_lt h
  exact ⟨by omega, of_decide_eq_true h3⟩
theorem OkN_erase {l : List (Nat × Nat)} (h : OkN l) (i : Nat) : OkN (l.eraseIdx i) := by
  have hs := List.eraseIdx_sublist l i
  exact ⟨Nat.le_trans hs.length_le h.1, fun x hx => h.2.1 x (hs.subset hx), h.2.2.sublist hs⟩
theorem OkN_ins {l : List (Nat × Nat)} (h : OkN l) {k f : Nat} (h8 : l.length < 8) (hk : 0 < k) (hk2 : k < 2 ^ 56) (hf : f < 6) (hn : ∀ x ∈ l, x.1 ≠ k) : OkN (q_ins k f l) := by
  refine ⟨by rw [ins_len]; omega, fun x hx => ?_, ?_⟩
  · rcases mem_ins.mp hx with e | e
    · rw [e]; exact ⟨hk, hk2, hf⟩
    · exact h.2.1 x e
  · have hs := h.2.2
    clear h h8
    induction l with
    | nil => simp [q_ins]
    | cons x r ih =>
      have hs2 := List.pairwise_cons.mp hs
      simp only [q_ins]
      split
      · rename_i hle
        refine List.pairwise_cons.mpr ⟨fun y hy => ?_, ih (fun z hz => hn z (List.mem_cons_of_mem _ hz)) hs2.2⟩
        rcases mem_ins.mp hy with e | e
        · rw [e]
          have := hn x List.mem_cons_self
          show x.1 < k
          omega
        · exact hs2.1 y e
      · rename_i hle
        refine List.pairwise_cons.mpr ⟨fun y hy => ?_, hs⟩
        show k < y.1
        rcases List.mem_cons.mp hy with e | e
        · rw [e]; omega
        · have := hs2.1 y e; omega
/-- the names change, no file comes into being -/
theorem RC_nm {m : MS} {σ τ : oT} {l : List (Nat × Nat)} (h : RC m σ) (h1 : ∀ k, k ≠ 7 → τ.1 k = σ.1 k) (h2 : ∀ k, k ≠ 5 → τ.2.2 k = σ.2.2 k) (hn : RCn l τ) (hf : ∀ f, f < 6 → nof l f ≤ nof (q_nm m) f) : RC (q_snm m l) τ := by
  have hx : ∀ f, f < 6 → fex (q_snm m l) f = true → fex m f = true := by
    intro f hf6 hh
    have := hf f hf6
    unfold fex at hh ⊢
    rw [Bool.or_eq_true, decide_eq_true_eq, decide_eq_true_eq] at hh ⊢
    rcases hh with e | e
    · left
      have e2 : 0 < nof l f := e
      omega
    · exact Or.inr e
  refine ⟨?_, ?_, ?_, ?_, hn, ?_, ?_, ?_, ?_⟩
  · intro k hk; rw [h1 3 (by decide)]; exact h.1 k hk
  · intro k hk; rw [h1 2 (by decide)]; exact h.2.1 k hk
  · intro k hk; rw [h1 4 (by decide)]; exact h.2.2.1 k hk
  · rw [h2 0 (by decide)]; exact h.2.2.2.1
  · refine ⟨fun d hd => ?_, fun o ho => ?_⟩
    · rw [h1 9 (by decide)]; exact h.2.2.2.2.2.1.1 d hd
    · rw [h1 10 (by decide)]; exact h.2.2.2.2.2.1.2 o ho
  · intro o ho hh
    rw [h1 11 (by decide), h1 12 (by decide), h1 13 (by decide)]
    exact h.2.2.2.2.2.2.1 o ho hh
  · intro f hf6 hh
    rw [h1 (21 + 2 * f) (by omega), h2 (20 + 2 * f) (by omega)]
    exact h.2.2.2.2.2.2.2.1 f hf6 (hx f hf6 hh)
  · intro q hq hh
    rw [h1 (33 + 2 * q) (by omega), h2 (32 + 2 * q) (by omega)]
    exact h.2.2.2.2.2.2.2.2 q hq hh
theorem rem1 {σ : oT} {x : Int32} {ft : Nat → Int64} {ff : Nat → Int32} : (∀ k, k ≠ 7 → (sI (sL (sF σ 5 2 x) ft) 7 ff).1 k = σ.1 k) ∧ ∀ k, k ≠ 5 → (sI (sL (sF σ 5 2 x) ft) 7 ff).2.2 k = σ.2.2 k :=
  ⟨fun k hk => by rw [sI_1, if_neg hk]; rfl, fun k hk => by funext j; show (sF σ 5 2 x).2.2 k j = _; rw [sF_3, if_neg hk]⟩
theorem add1 {σ : oT} {x : Int32} {ft : Nat → Int64} {ff : Nat → Int32} : (∀ k, k ≠ 7 → (sF (sI (sL σ ft) 7 ff) 5 2 x).1 k = σ.1 k) ∧ ∀ k, k ≠ 5 → (sF (sI (sL σ ft) 7 ff) 5 2 x).2.2 k = σ.2.2 k :=
  ⟨fun k hk => by show (sI (sL σ ft) 7 ff).1 k = _; rw [sI_1, if_neg hk]; rfl, fun k hk => by funext j; rw [sF_3, if_neg hk]; rfl⟩
theorem fr1 {σ : oT} {x : Int32} {ft : Nat → Int64} {ff : Nat → Int32} : frC σ (sI (sL (sF σ 5 2 x) ft) 7 ff) := frC_sI (frC_sL (frC_sF (frC_r σ) (by decide))) (by decide)
theorem fr2 {σ : oT} {x : Int32} {ft : Nat → Int64} {ff : Nat → Int32} : frC σ (sF (sI (sL σ ft) 7 ff) 5 2 x) := frC_sF (frC_sI (frC_sL (frC_r σ)) (by decide)) (by decide)
def sp_unlink (m : MS) (p : Nat) (a : Int32) : Int32 × MS := match q_str m p a with
  | none => (-14, m)
  | some bs => match nix (q_nm m) (q_key bs) with
    | none => (-2, m)
    | some i => (0, q_snm m ((q_nm m).eraseIdx i))
theorem c_unlink (G : oG) (σ : oT) (m : MS) (hO : Ok m) (hR : RC m σ) {p : Nat} (a : Int32) (hp : p < 3) : Mt G m_T_unlink [.ref 1, .int (nI p), .int a] (enc σ) 0 0 (SP σ (sp_unlink m p a)) := by
  have hn8 := hO.2.2.1.1
  refine Mt.of (by decide) (Nat.le_of_ble_eq_true rfl) (s_T_unlink_0 _ _ _ _ _ ?_)
  simp only [k_T_unlink_0, o_iconst, o_lconst, o_iload, o_lload, o_aload, o_istore, o_lstore, o_astore, o_iinc, o_iadd, o_isub, o_imul, o_iand, o_ior, o_idiv, o_irem, o_lor, o_lushr, o_lshl, o_i2l, o_l2i, o_lcmp, o_dup, o_pop, o_dup2, o_ifeq, o_ifne, o_iflt, o_ifge, o_ifgt, o_ifle, o_icmpeq, o_icmpne, o_icmplt, o_icmpge, o_icmpgt, o_icmple, o_jmp, o_tsw, o_iret, o_zret, o_lret, o_vret, o_getf, o_putfI, o_putfR, o_iald, o_alen, o_lald, o_zald, o_iast, o_last, o_zast, o_aald, o_aast, o_new, o_newa, o_callS, o_callI, o_callV, o_objInit, o_mmax, o_mmin, o_lk, o_up1, o_up2, o_cl1, o_cl2, o_keep, o_c2, List.getElem?_cons_zero, List.getElem?_cons_succ, List.drop_zero, List.drop_succ_cons, List.take_zero, List.take_succ_cons, List.reverse_cons, List.reverse_nil, List.nil_append, List.cons_append, List.map_cons, List.map_nil, List.sum_cons, List.sum_nil, Value.category, List.length_cons, List.length_nil, List.set_cons_zero, List.set_cons_succ, Option.toList_some, Option.toList_none, lv_args, ↓reduceIte, Nat.reduceAdd, Nat.reduceSub, Nat.reduceMul, Nat.reduceEqDiff, Nat.reduceLeDiff, Nat.reduceLT, reduceCtorEq, Bool.false_eq_true, and_true, true_and, and_self, and_false, false_and, Nat.zero_add, Nat.le_refl, Nat.zero_le, true_or, or_true, not_true_eq_false, not_false_eq_true, forall_const, false_implies, implies_true, true_implies, Int32.reduceAdd, Int32.reduceLE, Int32.reduceLT, Int32.reduceSub, Int32.reduceMul, Int32.reduceToNatClampNeg, og_0, oi_0, ef_0_8, og_1, oi_1, og_2, oi_2, oq_2, es_2, og_3, oi_3, oq_3, es_3, og_4, oi_4, oq_4, es_4, og_5, oi_5, ef_5_2, og_6, oi_6, es_6, og_7, oi_7, oq_7, es_7, og_8, oi_8, og_9, oi_9, oq_9, es_9, og_10, oi_10, oq_10, es_10, og_11, oi_11, oq_11, es_11, og_12, oi_12, oq_12, es_12, og_13, oi_13, oq_13, es_13, og_14, oi_14, og_15, oi_15, og_16, oi_16, ef_16_2, og_17, oi_17, oq_17, es_17, og_18, oi_18, oq_18, es_18, og_19, oi_19, oq_19, es_19, og_20, oi_20, ef_20_1, og_21, oi_21, oq_21, es_21, og_22, oi_22, ef_22_1, og_23, oi_23, oq_23, es_23, og_24, oi_24, ef_24_1, og_25, oi_25, oq_25, es_25, og_26, oi_26, ef_26_1, og_27, oi_27, oq_27, es_27, og_28, oi_28, ef_28_1, og_29, oi_29, oq_29, es_29, og_30, oi_30, ef_30_1, og_31, oi_31, oq_31, es_31, og_32, oi_32, ef_32_1, og_33, oi_33, oq_33, es_33, og_34, oi_34, ef_34_1, og_35, oi_35, oq_35, es_35]
  refine o_use (c_textAt G σ m hO.1 hO.2.1 hR.1 hR.2.1 a hp) ?_
  rintro w h' ⟨rfl, rfl⟩
  refine s_T_unlink_9 _ _ _ _ _ ?_
  unfold sp_unlink
  cases h : q_str m p a with
  | none =>
    simp only [k_T_unlink_9, o_iconst, o_lconst, o_iload, o_lload, o_aload, o_istore, o_lstore, o_astore, o_iinc, o_iadd, o_isub, o_imul, o_iand, o_ior, o_idiv, o_irem, o_lor, o_lushr, o_lshl, o_i2l, o_l2i, o_lcmp, o_dup, o_pop, o_dup2, o_ifeq, o_ifne, o_iflt, o_ifge, o_ifgt, o_ifle, o_icmpeq, o_icmpne, o_icmplt, o_icmpge, o_icmpgt, o_icmple, o_jmp, o_tsw, o_iret, o_zret, o_lret, o_vret, o_getf, o_putfI, o_putfR, o_iald, o_alen, o_lald, o_zald, o_iast, o_last, o_zast, o_aald, o_aast, o_new, o_newa, o_callS, o_callI, o_callV, o_objInit, o_mmax, o_mmin, o_lk, o_up1, o_up2, o_cl1, o_cl2, o_keep, o_c2, List.getElem?_cons_zero, List.getElem?_cons_succ, List.drop_zero, List.drop_succ_cons, List.take_zero, List.take_succ_cons, List.reverse_cons, List.reverse_nil, List.nil_append, List.cons_append, List.map_cons, List.map_nil, List.sum_cons, List.sum_nil, Value.category, List.length_cons, List.length_nil, List.set_cons_zero, List.set_cons_succ, Option.toList_some, Option.toList_none, lv_args, ↓reduceIte, Nat.reduceAdd, Nat.reduceSub, Nat.reduceMul, Nat.reduceEqDiff, Nat.reduceLeDiff, Nat.reduceLT, reduceCtorEq, Bool.false_eq_true, and_true, true_and, and_self, and_false, false_and, Nat.zero_add, Nat.le_refl, Nat.zero_le, true_or, or_true, not_true_eq_false, not_false_eq_true, forall_const, false_implies, implies_true, true_implies, Int32.reduceAdd, Int32.reduceLE, Int32.reduceLT, Int32.reduceSub, Int32.reduceMul, Int32.reduceToNatClampNeg, og_0, oi_0, ef_0_8, og_1, oi_1, og_2, oi_2, oq_2, es_2, og_3, oi_3, oq_3, es_3, og_4, oi_4, oq_4, es_4, og_5, oi_5, ef_5_2, og_6, oi_6, es_6, og_7, oi_7, oq_7, es_7, og_8, oi_8, og_9, oi_9, oq_9, es_9, og_10, oi_10, oq_10, es_10, og_11, oi_11, oq_11, es_11, og_12, oi_12, oq_12, es_12, og_13, oi_13, oq_13, es_13, og_14, oi_14, og_15, oi_15, og_16, oi_16, ef_16_2, og_17, oi_17, oq_17, es_17, og_18, oi_18, oq_18, es_18, og_19, oi_19, oq_19, es_19, og_20, oi_20, ef_20_1, og_21, oi_21, oq_21, es_21, og_22, oi_22, ef_22_1, og_23, oi_23, oq_23, es_23, og_24, oi_24, ef_24_1, og_25, oi_25, oq_25, es_25, og_26, oi_26, ef_26_1, og_27, oi_27, oq_27, es_27, og_28, oi_28, ef_28_1, og_29, oi_29, oq_29, es_29, og_30, oi_30, ef_30_1, og_31, oi_31, oq_31, es_31, og_32, oi_32, ef_32_1, og_33, oi_33, oq_33, es_33, og_34, oi_34, ef_34_1, og_35, oi_35, oq_35, es_35, lg_cmp_eq, tx]
    exact SP.mk hR (frC_r σ)
  | some bs =>
    obtain ⟨g1, g2, g3, g4⟩ := q_str_ok hO.1 hO.2.1 h
    simp only [k_T_unlink_9, o_iconst, o_lconst, o_iload, o_lload, o_aload, o_istore, o_lstore, o_astore, o_iinc, o_iadd, o_isub, o_imul, o_iand, o_ior, o_idiv, o_irem, o_lor, o_lushr, o_lshl, o_i2l, o_l2i, o_lcmp, o_dup, o_pop, o_dup2, o_ifeq, o_ifne, o_iflt, o_ifge, o_ifgt, o_ifle, o_icmpeq, o_icmpne, o_icmplt, o_icmpge, o_icmpgt, o_icmple, o_jmp, o_tsw, o_iret, o_zret, o_lret, o_vret, o_getf, o_putfI, o_putfR, o_iald, o_alen, o_lald, o_zald, o_iast, o_last, o_zast, o_aald, o_aast, o_new, o_newa, o_callS, o_callI, o_callV, o_objInit, o_mmax, o_mmin, o_lk, o_up1, o_up2, o_cl1, o_cl2, o_keep, o_c2, List.getElem?_cons_zero, List.getElem?_cons_succ, List.drop_zero, List.drop_succ_cons, List.take_zero, List.take_succ_cons, List.reverse_cons, List.reverse_nil, List.nil_append, List.cons_append, List.map_cons, List.map_nil, List.sum_cons, List.sum_nil, Value.category, List.length_cons, List.length_nil, List.set_cons_zero, List.set_cons_succ, Option.toList_some, Option.toList_none, lv_args, ↓reduceIte, Nat.reduceAdd, Nat.reduceSub, Nat.reduceMul, Nat.reduceEqDiff, Nat.reduceLeDiff, Nat.reduceLT, reduceCtorEq, Bool.false_eq_true, and_true, true_and, and_self, and_false, false_and, Nat.zero_add, Nat.le_refl, Nat.zero_le, true_or, or_true, not_true_eq_false, not_false_eq_true, forall_const, false_implies, implies_true, true_implies, Int32.reduceAdd, Int32.reduceLE, Int32.reduceLT, Int32.reduceSub, Int32.reduceMul, Int32.reduceToNatClampNeg, og_0, oi_0, ef_0_8, og_1, oi_1, og_2, oi_2, oq_2, es_2, og_3, oi_3, oq_3, es_3, og_4, oi_4, oq_4, es_4, og_5, oi_5, ef_5_2, og_6, oi_6, es_6, og_7, oi_7, oq_7, es_7, og_8, oi_8, og_9, oi_9, oq_9, es_9, og_10, oi_10, oq_10, es_10, og_11, oi_11, oq_11, es_11, og_12, oi_12, oq_12, es_12, og_13, oi_13, oq_13, es_13, og_14, oi_14, og_15, oi_15, og_16, oi_16, ef_16_2, og_17, oi_17, oq_17, es_17, og_18, oi_18, oq_18, es_18, og_19, oi_19, oq_19, es_19, og_20, oi_20, ef_20_1, og_21, oi_21, oq_21, es_21, og_22, oi_22, ef_22_1, og_23, oi_23, oq_23, es_23, og_24, oi_24, ef_24_1, og_25, oi_25, oq_25, es_25, og_26, oi_26, ef_26_1, og_27, oi_27, oq_27, es_27, og_28, oi_28, ef_28_1, og_29, oi_29, oq_29, es_29, og_30, oi_30, ef_30_1, og_31, oi_31, oq_31, es_31, og_32, oi_32, ef_32_1, og_33, oi_33, oq_33, es_33, og_34, oi_34, ef_34_1, og_35, oi_35, oq_35, es_35, lg_cmp_eq, tx]
    refine ⟨fun _ => ?_, fun q => absurd q (lN_m1 g3)⟩
    refine o_use (c_find2 G σ hR.2.2.2.2.1 hO.2.2.1 (k := q_key bs) (by omega)) ?_
    rintro w h' ⟨rfl, rfl⟩
    refine s_T_unlink_29 _ _ _ _ _ ?_
    cases h2 : nix (q_nm m) (q_key bs) with
    | none =>
      simp only [k_T_unlink_29, o_iconst, o_lconst, o_iload, o_lload, o_aload, o_istore, o_lstore, o_astore, o_iinc, o_iadd, o_isub, o_imul, o_iand, o_ior, o_idiv, o_irem, o_lor, o_lushr, o_lshl, o_i2l, o_l2i, o_lcmp, o_dup, o_pop, o_dup2, o_ifeq, o_ifne, o_iflt, o_ifge, o_ifgt, o_ifle, o_icmpeq, o_icmpne, o_icmplt, o_icmpge, o_icmpgt, o_icmple, o_jmp, o_tsw, o_iret, o_zret, o_lret, o_vret, o_getf, o_putfI, o_putfR, o_iald, o_alen, o_lald, o_zald, o_iast, o_last, o_zast, o_aald, o_aast, o_new, o_newa, o_callS, o_callI, o_callV, o_objInit, o_mmax, o_mmin, o_lk, o_up1, o_up2, o_cl1, o_cl2, o_keep, o_c2, List.getElem?_cons_zero, List.getElem?_cons_succ, List.drop_zero, List.drop_succ_cons, List.take_zero, List.take_succ_cons, List.reverse_cons, List.reverse_nil, List.nil_append, List.cons_append, List.map_cons, List.map_nil, List.sum_cons, List.sum_nil, Value.category, List.length_cons, List.length_nil, List.set_cons_zero, List.set_cons_succ, Option.toList_some, Option.toList_none, lv_args, ↓reduceIte, Nat.reduceAdd, Nat.reduceSub, Nat.reduceMul, Nat.reduceEqDiff, Nat.reduceLeDiff, Nat.reduceLT, reduceCtorEq, Bool.false_eq_true, and_true, true_and, and_self, and_false, false_and, Nat.zero_add, Nat.le_refl, Nat.zero_le, true_or, or_true, not_true_eq_false, not_false_eq_true, forall_const, false_implies, implies_true, true_implies, Int32.reduceAdd, Int32.reduceLE, Int32.reduceLT, Int32.reduceSub, Int32.reduceMul, Int32.reduceToNatClampNeg, og_0, oi_0, ef_0_8, og_1, oi_1, og_2, oi_2, oq_2, es_2, og_3, oi_3, oq_3, es_3, og_4, oi_4, oq_4, es_4, og_5, oi_5, ef_5_2, og_6, oi_6, es_6, og_7, oi_7, oq_7, es_7, og_8, oi_8, og_9, oi_9, oq_9, es_9, og_10, oi_10, oq_10, es_10, og_11, oi_11, oq_11, es_11, og_12, oi_12, oq_12, es_12, og_13, oi_13, oq_13, es_13, og_14, oi_14, og_15, oi_15, og_16, oi_16, ef_16_2, og_17, oi_17, oq_17, es_17, og_18, oi_18, oq_18, es_18, og_19, oi_19, oq_19, es_19, og_20, oi_20, ef_20_1, og_21, oi_21, oq_21, es_21, og_22, oi_22, ef_22_1, og_23, oi_23, oq_23, es_23, og_24, oi_24, ef_24_1, og_25, oi_25, oq_25, es_25, og_26, oi_26, ef_26_1, og_27, oi_27, oq_27, es_27, og_28, oi_28, ef_28_1, og_29, oi_29, oq_29, es_29, og_30, oi_30, ef_30_1, og_31, oi_31, oq_31, es_31, og_32, oi_32, ef_32_1, og_33, oi_33, oq_33, es_33, og_34, oi_34, ef_34_1, og_35, oi_35, oq_35, es_35, oi]
      exact SP.mk hR (frC_r σ)
    | some i =>
      obtain ⟨i1, i2⟩ := nix_some h2
      simp only [k_T_unlink_29, o_iconst, o_lconst, o_iload, o_lload, o_aload, o_istore, o_lstore, o_astore, o_iinc, o_iadd, o_isub, o_imul, o_iand, o_ior, o_idiv, o_irem, o_lor, o_lushr, o_lshl, o_i2l, o_l2i, o_lcmp, o_dup, o_pop, o_dup2, o_ifeq, o_ifne, o_iflt, o_ifge, o_ifgt, o_ifle, o_icmpeq, o_icmpne, o_icmplt, o_icmpge, o_icmpgt, o_icmple, o_jmp, o_tsw, o_iret, o_zret, o_lret, o_vret, o_getf, o_putfI, o_putfR, o_iald, o_alen, o_lald, o_zald, o_iast, o_last, o_zast, o_aald, o_aast, o_new, o_newa, o_callS, o_callI, o_callV, o_objInit, o_mmax, o_mmin, o_lk, o_up1, o_up2, o_cl1, o_cl2, o_keep, o_c2, List.getElem?_cons_zero, List.getElem?_cons_succ, List.drop_zero, List.drop_succ_cons, List.take_zero, List.take_succ_cons, List.reverse_cons, List.reverse_nil, List.nil_append, List.cons_append, List.map_cons, List.map_nil, List.sum_cons, List.sum_nil, Value.category, List.length_cons, List.length_nil, List.set_cons_zero, List.set_cons_succ, Option.toList_some, Option.toList_none, lv_args, ↓reduceIte, Nat.reduceAdd, Nat.reduceSub, Nat.reduceMul, Nat.reduceEqDiff, Nat.reduceLeDiff, Nat.reduceLT, reduceCtorEq, Bool.false_eq_true, and_true, true_and, and_self, and_false, false_and, Nat.zero_add, Nat.le_refl, Nat.zero_le, true_or, or_true, not_true_eq_false, not_false_eq_true, forall_const, false_implies, implies_true, true_implies, Int32.reduceAdd, Int32.reduceLE, Int32.reduceLT, Int32.reduceSub, Int32.reduceMul, Int32.reduceToNatClampNeg, og_0, oi_0, ef_0_8, og_1, oi_1, og_2, oi_2, oq_2, es_2, og_3, oi_3, oq_3, es_3, og_4, oi_4, oq_4, es_4, og_5, oi_5, ef_5_2, og_6, oi_6, es_6, og_7, oi_7, oq_7, es_7, og_8, oi_8, og_9, oi_9, oq_9, es_9, og_10, oi_10, oq_10, es_10, og_11, oi_11, oq_11, es_11, og_12, oi_12, oq_12, es_12, og_13, oi_13, oq_13, es_13, og_14, oi_14, og_15, oi_15, og_16, oi_16, ef_16_2, og_17, oi_17, oq_17, es_17, og_18, oi_18, oq_18, es_18, og_19, oi_19, oq_19, es_19, og_20, oi_20, ef_20_1, og_21, oi_21, oq_21, es_21, og_22, oi_22, ef_22_1, og_23, oi_23, oq_23, es_23, og_24, oi_24, ef_24_1, og_25, oi_25, oq_25, es_25, og_26, oi_26, ef_26_1, og_27, oi_27, oq_27, es_27, og_28, oi_28, ef_28_1, og_29, oi_29, oq_29, es_29, og_30, oi_30, ef_30_1, og_31, oi_31, oq_31, es_31, og_32, oi_32, ef_32_1, og_33, oi_33, oq_33, es_33, og_34, oi_34, ef_34_1, og_35, oi_35, oq_35, es_35]
      refine ⟨fun _ => ?_, fun q => absurd q (oi_m1 (by omega))⟩
      refine o_use (c_remove G σ hR.2.2.2.2.1 i1) ?_
      rintro w h' ⟨rfl, ft, ff, rfl, hn⟩
      refine s_T_unlink_49 _ _ _ _ _ ?_
      simp only [k_T_unlink_49, o_iconst, o_lconst, o_iload, o_lload, o_aload, o_istore, o_lstore, o_astore, o_iinc, o_iadd, o_isub, o_imul, o_iand, o_ior, o_idiv, o_irem, o_lor, o_lushr, o_lshl, o_i2l, o_l2i, o_lcmp, o_dup, o_pop, o_dup2, o_ifeq, o_ifne, o_iflt, o_ifge, o_ifgt, o_ifle, o_icmpeq, o_icmpne, o_icmplt, o_icmpge, o_icmpgt, o_icmple, o_jmp, o_tsw, o_iret, o_zret, o_lret, o_vret, o_getf, o_putfI, o_putfR, o_iald, o_alen, o_lald, o_zald, o_iast, o_last, o_zast, o_aald, o_aast, o_new, o_newa, o_callS, o_callI, o_callV, o_objInit, o_mmax, o_mmin, o_lk, o_up1, o_up2, o_cl1, o_cl2, o_keep, o_c2, List.getElem?_cons_zero, List.getElem?_cons_succ, List.drop_zero, List.drop_succ_cons, List.take_zero, List.take_succ_cons, List.reverse_cons, List.reverse_nil, List.nil_append, List.cons_append, List.map_cons, List.map_nil, List.sum_cons, List.sum_nil, Value.category, List.length_cons, List.length_nil, List.set_cons_zero, List.set_cons_succ, Option.toList_some, Option.toList_none, lv_args, ↓reduceIte, Nat.reduceAdd, Nat.reduceSub, Nat.reduceMul, Nat.reduceEqDiff, Nat.reduceLeDiff, Nat.reduceLT, reduceCtorEq, Bool.false_eq_true, and_true, true_and, and_self, and_false, false_and, Nat.zero_add, Nat.le_refl, Nat.zero_le, true_or, or_true, not_true_eq_false, not_false_eq_true, forall_const, false_implies, implies_true, true_implies, Int32.reduceAdd, Int32.reduceLE, Int32.reduceLT, Int32.reduceSub, Int32.reduceMul, Int32.reduceToNatClampNeg]
      refine SP.mk (RC_nm hR rem1.1 rem1.2 hn (fun f _ => ?_)) fr1
      rw [nof_countP, nof_countP]
      exact (List.eraseIdx_sublist _ _).countP_le
