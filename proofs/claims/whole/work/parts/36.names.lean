/-! The names, in order. -/
def RCn (l : List (Nat × Nat)) (σ : oT) : Prop := l.length ≤ 8 ∧ σ.2.2 5 2 = nI l.length ∧ ∀ (i : Nat) (x : Nat × Nat), l[i]? = some x → σ.2.1 i = lN x.1 ∧ σ.1 7 i = nI x.2
/-- keys and files in their bounds, keys rising -/
def OkN (l : List (Nat × Nat)) : Prop := l.length ≤ 8 ∧ (∀ x ∈ l, 0 < x.1 ∧ x.1 < 2 ^ 56 ∧ x.2 < 6) ∧ l.Pairwise (fun x y => x.1 < y.1)
def nix (l : List (Nat × Nat)) (k : Nat) : Option Nat := lst (fun i => decide ((l.getD i (0, 0)).1 = k)) 0 l.length
theorem lst_congr {f g : Nat → Bool} {k : Nat} : ∀ {i : Nat}, (∀ j, i ≤ j → j < i + k → f j = g j) → lst f i k = lst g i k := by
  induction k with
  | zero => intro i h; rfl
  | succ k ih =>
    intro i h
    simp only [lst]
    rw [h i (Nat.le_refl _) (by omega), ih (fun j h1 h2 => h j (by omega) (by omega))]
theorem cnt_congr {f g : Nat → Bool} {n : Nat} (h : ∀ j, j < n → f j = g j) : cnt f n = cnt g n := by
  induction n with
  | zero => rfl
  | succ n ih =>
    simp only [cnt]
    rw [ih (fun j hj => h j (by omega)), h n (by omega)]
theorem lN_inj {a b : Nat} (ha : a < 2 ^ 63) (hb : b < 2 ^ 63) : lN a = lN b ↔ a = b := pk_lEQ ha hb
theorem getD_at {l : List (Nat × Nat)} {i : Nat} (h : i < l.length) : l[i]? = some (l.getD i (0, 0)) := by simp [List.getD, h]
theorem nix_find {l : List (Nat × Nat)} {σ : oT} (hR : RCn l σ) (hO : OkN l) {k : Nat} (hk : k < 2 ^ 63) : lst (ffF σ (lN k)) 0 l.length = nix l k := by
  refine lst_congr fun j _ hj => ?_
  have hlt : j < l.length := by omega
  have hx := getD_at hlt
  obtain ⟨e1, e2⟩ := hR.2.2 j _ hx
  have hb := (hO.2.1 _ (List.mem_of_getElem? hx)).2.1
  unfold ffF
  rw [e1]
  exact decide_eq_decide.mpr (lN_inj (by omega) hk)
theorem c_find2 (G : oG) (σ : oT) {l : List (Nat × Nat)} (hR : RCn l σ) (hO : OkN l) {k : Nat} (hk : k < 2 ^ 63) : Mt G m_N_find [.ref 6, .long (lN k)] (enc σ) 0 0 (fun v h' => v = some (.int (oi (nix l k))) ∧ h' = enc σ) := by
  have h := c_find G σ (lN k) hR.1 hR.2.1
  rw [nix_find hR hO hk] at h
  exact h
/-- how many names a file has -/
def nof (l : List (Nat × Nat)) (f : Nat) : Nat := cnt (fun i => decide ((l.getD i (0, 0)).2 = f)) l.length
theorem c_ncount2 (G : oG) (σ : oT) {l : List (Nat × Nat)} (hR : RCn l σ) (hO : OkN l) {f : Nat} (hf : f < 8) : Mt G m_N_countOf [.ref 6, .int (nI f)] (enc σ) 0 0 (fun v h' => v = some (.int (nI (nof l f))) ∧ h' = enc σ) := by
  have h := c_ncount G σ (nI f) hR.1 hR.2.1
  have e : cnt (nfF σ (nI f)) l.length = nof l f := by
    refine cnt_congr fun j hj => ?_
    have hx := getD_at hj
    obtain ⟨e1, e2⟩ := hR.2.2 j _ hx
    have hb := (hO.2.1 _ (List.mem_of_getElem? hx)).2.2
    unfold nfF
    rw [e2]
    exact decide_eq_decide.mpr (nI_eq (by omega) (by omega))
  rw [e] at h
  exact h
def q_ins (k f : Nat) : List (Nat × Nat) → List (Nat × Nat)
  | [] => [(k, f)]
  | x :: r => if x.1 ≤ k then x :: q_ins k f r else (k, f) :: x :: r
theorem q_ins_at (k f : Nat) (l : List (Nat × Nat)) : ∀ i : Nat, i ≤ l.length → l.Pairwise (fun x y => x.1 < y.1) → (∀ j, j < i → (l.getD j (0, 0)).1 ≤ k ∨ j + 1 < i) → (∀ j, i ≤ j → j < l.length → k < (l.getD j (0, 0)).1) → l.take i ++ (k, f) :: l.drop i = q_ins k f l := by
  induction l with
  | nil =>
    intro i hi _ _ _
    have : i = 0 := by simpa using hi
    subst this
    rfl
  | cons x r ih =>
    intro i hi hs h1 h2
    cases i with
    | zero =>
      have := h2 0 (Nat.le_refl _) (by simp)
      simp only [List.getD_cons_zero] at this
      simp only [q_ins, List.take_zero, List.drop_zero, List.nil_append]
      rw [if_neg (by omega)]
    | succ i =>
      have hx : x.1 ≤ k := by
        rcases h1 i (by omega) with h | h
        · cases i with
          | zero => simpa using h
          | succ i =>
            rw [List.getD_cons_succ] at h
            have hm : r.getD i (0, 0) ∈ r := by
              have : i < r.length := by simp only [List.length_cons] at hi; omega
              exact List.mem_of_getElem? (getD_at this)
            have := (List.pairwise_cons.mp hs).1 _ hm
            omega
        · omega
      simp only [q_ins, List.take_succ_cons, List.drop_succ_cons, List.cons_append]
      rw [if_pos hx]
      congr 1
      refine ih i (by simpa using hi) (List.pairwise_cons.mp hs).2 (fun j hj => ?_) (fun j hj hj2 => ?_)
      · rcases h1 (j + 1) (by omega) with h | h
        · left; simpa using h
        · right; omega
      · have := h2 (j + 1) (by omega) (by simpa using hj2)
        simpa using this
theorem sL_sI (σ : oT) (k : Nat) (f : Nat → Int32) (g : Nat → Int64) : sL (sI σ k f) g = sI (sL σ g) k f := rfl
theorem sL_sL (σ : oT) (f g : Nat → Int64) : sL (sL σ f) g = sL σ g := rfl
theorem add_loop (G : oG) (σ : oT) {l : List (Nat × Nat)} (hR : RCn l σ) (hO : OkN l) (h8 : l.length < 8) {k f : Nat} (hk : k < 2 ^ 63) (Post : oP) (hP : ∀ (ft : Nat → Int64) (ff : Nat → Int32), RCn (q_ins k f l) (sF (sI (sL σ ft) 7 ff) 5 2 (nI (l.length + 1))) → Post none (enc (sF (sI (sL σ ft) 7 ff) 5 2 (nI (l.length + 1))))) : ∀ i : Nat, i ≤ l.length → ∀ (ft : Nat → Int64) (ff : Nat → Int32), (∀ j, j < i → ft j = lN (l.getD j (0, 0)).1 ∧ ff j = nI (l.getD j (0, 0)).2) → (∀ j, i ≤ j → j < l.length → ft (j + 1) = lN (l.getD j (0, 0)).1 ∧ ff (j + 1) = nI (l.getD j (0, 0)).2 ∧ k < (l.getD j (0, 0)).1) → Wp G m_N_add Post 6 0 0 [(0, .ref 6), (1, .long (lN k)), (3, .int (nI f)), (4, .int (nI i))] [] (enc (sI (sL σ ft) 7 ff)) := by
  have done : ∀ i : Nat, i ≤ l.length → ∀ (ft : Nat → Int64) (ff : Nat → Int32), (∀ j, j < i → (l.getD j (0, 0)).1 ≤ k ∨ j + 1 < i) → (∀ j, j < i → ft j = lN (l.getD j (0, 0)).1 ∧ ff j = nI (l.getD j (0, 0)).2) → (∀ j, i ≤ j → j < l.length → ft (j + 1) = lN (l.getD j (0, 0)).1 ∧ ff (j + 1) = nI (l.getD j (0, 0)).2 ∧ k < (l.getD j (0, 0)).1) → Wp G m_N_add Post 63 0 0 [(0, .ref 6), (1, .long (lN k)), (3, .int (nI f)), (4, .int (nI i))] [] (enc (sI (sL σ ft) 7 ff)) := by
    intro i hi ft ff h0 h1 h2
    have hv : vp_in (nI i) 8 := vp_in_nI (by omega) (by decide)
    refine s_N_add_63 _ _ _ _ _ ?_
    simp only [k_N_add_63, o_iconst, o_lconst, o_iload, o_lload, o_aload, o_istore, o_lstore, o_astore, o_iinc, o_iadd, o_isub, o_imul, o_iand, o_ior, o_idiv, o_irem, o_lor, o_lushr, o_lshl, o_i2l, o_l2i, o_lcmp, o_dup, o_pop, o_dup2, o_ifeq, o_ifne, o_iflt, o_ifge, o_ifgt, o_ifle, o_icmpeq, o_icmpne, o_icmplt, o_icmpge, o_icmpgt, o_icmple, o_jmp, o_tsw, o_iret, o_zret, o_lret, o_vret, o_getf, o_putfI, o_putfR, o_iald, o_alen, o_lald, o_zald, o_iast, o_last, o_zast, o_aald, o_aast, o_new, o_newa, o_callS, o_callI, o_callV, o_objInit, o_mmax, o_mmin, o_lk, o_up1, o_up2, o_cl1, o_cl2, o_keep, o_c2, List.getElem?_cons_zero, List.getElem?_cons_succ, List.drop_zero, List.drop_succ_cons, List.take_zero, List.take_succ_cons, List.reverse_cons, List.reverse_nil, List.nil_append, List.cons_append, List.map_cons, List.map_nil, List.sum_cons, List.sum_nil, Value.category, List.length_cons, List.length_nil, List.set_cons_zero, List.set_cons_succ, Option.toList_some, Option.toList_none, lv_args, ↓reduceIte, Nat.reduceAdd, Nat.reduceSub, Nat.reduceMul, Nat.reduceEqDiff, Nat.reduceLeDiff, Nat.reduceLT, reduceCtorEq, Bool.false_eq_true, and_true, true_and, and_self, and_false, false_and, Nat.zero_add, Nat.le_refl, Nat.zero_le, true_or, or_true, not_true_eq_false, not_false_eq_true, forall_const, false_implies, implies_true, true_implies, Int32.reduceAdd, Int32.reduceLE, Int32.reduceLT, Int32.reduceSub, Int32.reduceMul, Int32.reduceToNatClampNeg, og_0, oi_0, ef_0_8, og_1, oi_1, og_2, oi_2, oq_2, es_2, og_3, oi_3, oq_3, es_3, og_4, oi_4, oq_4, es_4, og_5, oi_5, ef_5_2, og_6, oi_6, es_6, og_7, oi_7, oq_7, es_7, og_8, oi_8, og_9, oi_9, oq_9, es_9, og_10, oi_10, oq_10, es_10, og_11, oi_11, oq_11, es_11, og_12, oi_12, oq_12, es_12, og_13, oi_13, oq_13, es_13, og_14, oi_14, og_15, oi_15, og_16, oi_16, ef_16_2, og_17, oi_17, oq_17, es_17, og_18, oi_18, oq_18, es_18, og_19, oi_19, oq_19, es_19, og_20, oi_20, ef_20_1, og_21, oi_21, oq_21, es_21, og_22, oi_22, ef_22_1, og_23, oi_23, oq_23, es_23, og_24, oi_24, ef_24_1, og_25, oi_25, oq_25, es_25, og_26, oi_26, ef_26_1, og_27, oi_27, oq_27, es_27, og_28, oi_28, ef_28_1, og_29, oi_29, oq_29, es_29, og_30, oi_30, ef_30_1, og_31, oi_31, oq_31, es_31, og_32, oi_32, ef_32_1, og_33, oi_33, oq_33, es_33, og_34, oi_34, ef_34_1, og_35, oi_35, oq_35, es_35, sI_1, sI_2, sL_1, sL_2, sL_3, sF_1, sF_2, sF_3, hR.2.1, nI_1, nI_clamp (show i < 2 ^ 31 by omega), sL_sI, sL_sL, sI_sI]
    refine ⟨hv, hv, ?_⟩
    refine hP _ _ ?_
    rw [← q_ins_at k f l i hi hO.2.2 h0 (fun j h3 h4 => (h2 j h3 h4).2.2)]
    have hlen : (l.take i ++ (k, f) :: l.drop i).length = l.length + 1 := by simp; omega
    refine ⟨by omega, by rw [hlen]; rfl, fun j x hx => ?_⟩
    simp only [sI_1, sI_2, sL_1, sL_2, sL_3, sF_1, sF_2, sF_3, if_true, vp_updL, upd]
    rcases Nat.lt_trichotomy j i with hj | hj | hj
    · rw [List.getElem?_append_left (by simp; omega), List.getElem?_take_of_lt hj, getD_at (by omega)] at hx
      cases hx
      rw [if_neg (by omega), if_neg (by omega)]
      exact h1 j hj
    · subst hj
      rw [List.getElem?_append_right (by simp; omega)] at hx
      simp only [List.length_take, Nat.min_eq_left hi, Nat.sub_self, List.getElem?_cons_zero] at hx
      cases hx
      rw [if_pos rfl, if_pos rfl]
      exact ⟨rfl, rfl⟩
    · rw [List.getElem?_append_right (by simp; omega)] at hx
      simp only [List.length_take, Nat.min_eq_left hi] at hx
      rw [show j - i = (j - i - 1) + 1 by omega, List.getElem?_cons_succ, List.getElem?_drop, show i + (j - i - 1) = j - 1 by omega] at hx
      have hlt : j - 1 < l.length := (List.getElem?_eq_some_iff.mp hx).1
      rw [getD_at hlt] at hx
      cases hx
      rw [if_neg (by omega), if_neg (by omega)]
      have := h2 (j - 1) (by omega) hlt
      rw [show j - 1 + 1 = j by omega] at this
      exact ⟨this.1, this.2.1⟩
  intro i
  induction i with
  | zero =>
    intro hi ft ff h1 h2
    refine s_N_add_6 _ _ _ _ _ ?_
    simp only [k_N_add_6, o_iconst, o_lconst, o_iload, o_lload, o_aload, o_istore, o_lstore, o_astore, o_iinc, o_iadd, o_isub, o_imul, o_iand, o_ior, o_idiv, o_irem, o_lor, o_lushr, o_lshl, o_i2l, o_l2i, o_lcmp, o_dup, o_pop, o_dup2, o_ifeq, o_ifne, o_iflt, o_ifge, o_ifgt, o_ifle, o_icmpeq, o_icmpne, o_icmplt, o_icmpge, o_icmpgt, o_icmple, o_jmp, o_tsw, o_iret, o_zret, o_lret, o_vret, o_getf, o_putfI, o_putfR, o_iald, o_alen, o_lald, o_zald, o_iast, o_last, o_zast, o_aald, o_aast, o_new, o_newa, o_callS, o_callI, o_callV, o_objInit, o_mmax, o_mmin, o_lk, o_up1, o_up2, o_cl1, o_cl2, o_keep, o_c2, List.getElem?_cons_zero, List.getElem?_cons_succ, List.drop_zero, List.drop_succ_cons, List.take_zero, List.take_succ_cons, List.reverse_cons, List.reverse_nil, List.nil_append, List.cons_append, List.map_cons, List.map_nil, List.sum_cons, List.sum_nil, Value.category, List.length_cons, List.length_nil, List.set_cons_zero, List.set_cons_succ, Option.toList_some, Option.toList_none, lv_args, ↓reduceIte, Nat.reduceAdd, Nat.reduceSub, Nat.reduceMul, Nat.reduceEqDiff, Nat.reduceLeDiff, Nat.reduceLT, reduceCtorEq, Bool.false_eq_true, and_true, true_and, and_self, and_false, false_and, Nat.zero_add, Nat.le_refl, Nat.zero_le, true_or, or_true, not_true_eq_false, not_false_eq_true, forall_const, false_implies, implies_true, true_implies, Int32.reduceAdd, Int32.reduceLE, Int32.reduceLT, Int32.reduceSub, Int32.reduceMul, Int32.reduceToNatClampNeg, og_0, oi_0, ef_0_8, og_1, oi_1, og_2, oi_2, oq_2, es_2, og_3, oi_3, oq_3, es_3, og_4, oi_4, oq_4, es_4, og_5, oi_5, ef_5_2, og_6, oi_6, es_6, og_7, oi_7, oq_7, es_7, og_8, oi_8, og_9, oi_9, oq_9, es_9, og_10, oi_10, oq_10, es_10, og_11, oi_11, oq_11, es_11, og_12, oi_12, oq_12, es_12, og_13, oi_13, oq_13, es_13, og_14, oi_14, og_15, oi_15, og_16, oi_16, ef_16_2, og_17, oi_17, oq_17, es_17, og_18, oi_18, oq_18, es_18, og_19, oi_19, oq_19, es_19, og_20, oi_20, ef_20_1, og_21, oi_21, oq_21, es_21, og_22, oi_22, ef_22_1, og_23, oi_23, oq_23, es_23, og_24, oi_24, ef_24_1, og_25, oi_25, oq_25, es_25, og_26, oi_26, ef_26_1, og_27, oi_27, oq_27, es_27, og_28, oi_28, ef_28_1, og_29, oi_29, oq_29, es_29, og_30, oi_30, ef_30_1, og_31, oi_31, oq_31, es_31, og_32, oi_32, ef_32_1, og_33, oi_33, oq_33, es_33, og_34, oi_34, ef_34_1, og_35, oi_35, oq_35, es_35]
    exact ⟨fun _ => done 0 hi ft ff (fun j hj => absurd hj (Nat.not_lt_zero _)) h1 h2, fun q => absurd (nI_le (Nat.le_refl 0) (by decide)) q⟩
  | succ i ih =>
    intro hi ft ff h1 h2
    have hx := getD_at (show i < l.length by omega)
    have hb := (hO.2.1 _ (List.mem_of_getElem? hx)).2.1
    have h1i := h1 i (by omega)
    have hv : vp_in (nI i) 8 := vp_in_nI (by omega) (by decide)
    have hv1 : vp_in (nI (i + 1)) 8 := vp_in_nI (by omega) (by decide)
    refine s_N_add_6 _ _ _ _ _ ?_
    simp only [k_N_add_6, o_iconst, o_lconst, o_iload, o_lload, o_aload, o_istore, o_lstore, o_astore, o_iinc, o_iadd, o_isub, o_imul, o_iand, o_ior, o_idiv, o_irem, o_lor, o_lushr, o_lshl, o_i2l, o_l2i, o_lcmp, o_dup, o_pop, o_dup2, o_ifeq, o_ifne, o_iflt, o_ifge, o_ifgt, o_ifle, o_icmpeq, o_icmpne, o_icmplt, o_icmpge, o_icmpgt, o_icmple, o_jmp, o_tsw, o_iret, o_zret, o_lret, o_vret, o_getf, o_putfI, o_putfR, o_iald, o_alen, o_lald, o_zald, o_iast, o_last, o_zast, o_aald, o_aast, o_new, o_newa, o_callS, o_callI, o_callV, o_objInit, o_mmax, o_mmin, o_lk, o_up1, o_up2, o_cl1, o_cl2, o_keep, o_c2, List.getElem?_cons_zero, List.getElem?_cons_succ, List.drop_zero, List.drop_succ_cons, List.take_zero, List.take_succ_cons, List.reverse_cons, List.reverse_nil, List.nil_append, List.cons_append, List.map_cons, List.map_nil, List.sum_cons, List.sum_nil, Value.category, List.length_cons, List.length_nil, List.set_cons_zero, List.set_cons_succ, Option.toList_some, Option.toList_none, lv_args, ↓reduceIte, Nat.reduceAdd, Nat.reduceSub, Nat.reduceMul, Nat.reduceEqDiff, Nat.reduceLeDiff, Nat.reduceLT, reduceCtorEq, Bool.false_eq_true, and_true, true_and, and_self, and_false, false_and, Nat.zero_add, Nat.le_refl, Nat.zero_le, true_or, or_true, not_true_eq_false, not_false_eq_true, forall_const, false_implies, implies_true, true_implies, Int32.reduceAdd, Int32.reduceLE, Int32.reduceLT, Int32.reduceSub, Int32.reduceMul, Int32.reduceToNatClampNeg, og_0, oi_0, ef_0_8, og_1, oi_1, og_2, oi_2, oq_2, es_2, og_3, oi_3, oq_3, es_3, og_4, oi_4, oq_4, es_4, og_5, oi_5, ef_5_2, og_6, oi_6, es_6, og_7, oi_7, oq_7, es_7, og_8, oi_8, og_9, oi_9, oq_9, es_9, og_10, oi_10, oq_10, es_10, og_11, oi_11, oq_11, es_11, og_12, oi_12, oq_12, es_12, og_13, oi_13, oq_13, es_13, og_14, oi_14, og_15, oi_15, og_16, oi_16, ef_16_2, og_17, oi_17, oq_17, es_17, og_18, oi_18, oq_18, es_18, og_19, oi_19, oq_19, es_19, og_20, oi_20, ef_20_1, og_21, oi_21, oq_21, es_21, og_22, oi_22, ef_22_1, og_23, oi_23, oq_23, es_23, og_24, oi_24, ef_24_1, og_25, oi_25, oq_25, es_25, og_26, oi_26, ef_26_1, og_27, oi_27, oq_27, es_27, og_28, oi_28, ef_28_1, og_29, oi_29, oq_29, es_29, og_30, oi_30, ef_30_1, og_31, oi_31, oq_31, es_31, og_32, oi_32, ef_32_1, og_33, oi_33, oq_33, es_33, og_34, oi_34, ef_34_1, og_35, oi_35, oq_35, es_35, sI_1, sI_2, sL_1, sL_2, sL_3, sF_1, sF_2, sF_3, nI_pred, pk_m1, nI_clamp (show i < 2 ^ 31 by omega), nI_clamp (show i + 1 < 2 ^ 31 by omega), lg_cmp_le, h1i.1, h1i.2, pk_lLE (show (l.getD i (0, 0)).1 < 2 ^ 63 by omega) hk, sL_sI, sL_sL, sI_sI]
    refine ⟨fun q => absurd q (nI_nle (by omega) (by omega)), fun _ => ⟨hv, fun q => ?_, fun q => ?_⟩⟩
    · exact done (i + 1) hi ft ff (fun j hj => by
        by_cases h : j = i
        · subst h; exact Or.inl q
        · right; omega) h1 h2
    · refine ⟨hv, hv1, hv, hv1, ?_⟩
      refine ih (by omega) _ _ (fun j hj => ?_) (fun j hj hj2 => ?_)
      · simp only [vp_updL, upd]
        rw [if_neg (by omega), if_neg (by omega)]
        exact h1 j (by omega)
      · simp only [vp_updL, upd]
        by_cases h : j = i
        · subst h
          rw [if_pos rfl, if_pos rfl]
          exact ⟨rfl, rfl, by omega⟩
        · rw [if_neg (by omega), if_neg (by omega)]
          exact h2 j (by omega) hj2
theorem sL_id (σ : oT) : sL σ σ.2.1 = σ := rfl
theorem c_add (G : oG) (σ : oT) {l : List (Nat × Nat)} (hR : RCn l σ) (hO : OkN l) (h8 : l.length < 8) {k f : Nat} (hk : k < 2 ^ 63) : Mt G m_N_add [.ref 6, .long (lN k), .int (nI f)] (enc σ) 0 0 (fun v h' => v = none ∧ ∃ (ft : Nat → Int64) (ff : Nat → Int32), h' = enc (sF (sI (sL σ ft) 7 ff) 5 2 (nI (l.length + 1))) ∧ RCn (q_ins k f l) (sF (sI (sL σ ft) 7 ff) 5 2 (nI (l.length + 1)))) := by
  refine Mt.of (by decide) (Nat.le_of_ble_eq_true rfl) (s_N_add_0 _ _ _ _ _ ?_)
  simp only [k_N_add_0, o_iconst, o_lconst, o_iload, o_lload, o_aload, o_istore, o_lstore, o_astore, o_iinc, o_iadd, o_isub, o_imul, o_iand, o_ior, o_idiv, o_irem, o_lor, o_lushr, o_lshl, o_i2l, o_l2i, o_lcmp, o_dup, o_pop, o_dup2, o_ifeq, o_ifne, o_iflt, o_ifge, o_ifgt, o_ifle, o_icmpeq, o_icmpne, o_icmplt, o_icmpge, o_icmpgt, o_icmple, o_jmp, o_tsw, o_iret, o_zret, o_lret, o_vret, o_getf, o_putfI, o_putfR, o_iald, o_alen, o_lald, o_zald, o_iast, o_last, o_zast, o_aald, o_aast, o_new, o_newa, o_callS, o_callI, o_callV, o_objInit, o_mmax, o_mmin, o_lk, o_up1, o_up2, o_cl1, o_cl2, o_keep, o_c2, List.getElem?_cons_zero, List.getElem?_cons_succ, List.drop_zero, List.drop_succ_cons, List.take_zero, List.take_succ_cons, List.reverse_cons, List.reverse_nil, List.nil_append, List.cons_append, List.map_cons, List.map_nil, List.sum_cons, List.sum_nil, Value.category, List.length_cons, List.length_nil, List.set_cons_zero, List.set_cons_succ, Option.toList_some, Option.toList_none, lv_args, ↓reduceIte, Nat.reduceAdd, Nat.reduceSub, Nat.reduceMul, Nat.reduceEqDiff, Nat.reduceLeDiff, Nat.reduceLT, reduceCtorEq, Bool.false_eq_true, and_true, true_and, and_self, and_false, false_and, Nat.zero_add, Nat.le_refl, Nat.zero_le, true_or, or_true, not_true_eq_false, not_false_eq_true, forall_const, false_implies, implies_true, true_implies, Int32.reduceAdd, Int32.reduceLE, Int32.reduceLT, Int32.reduceSub, Int32.reduceMul, Int32.reduceToNatClampNeg, og_0, oi_0, ef_0_8, og_1, oi_1, og_2, oi_2, oq_2, es_2, og_3, oi_3, oq_3, es_3, og_4, oi_4, oq_4, es_4, og_5, oi_5, ef_5_2, og_6, oi_6, es_6, og_7, oi_7, oq_7, es_7, og_8, oi_8, og_9, oi_9, oq_9, es_9, og_10, oi_10, oq_10, es_10, og_11, oi_11, oq_11, es_11, og_12, oi_12, oq_12, es_12, og_13, oi_13, oq_13, es_13, og_14, oi_14, og_15, oi_15, og_16, oi_16, ef_16_2, og_17, oi_17, oq_17, es_17, og_18, oi_18, oq_18, es_18, og_19, oi_19, oq_19, es_19, og_20, oi_20, ef_20_1, og_21, oi_21, oq_21, es_21, og_22, oi_22, ef_22_1, og_23, oi_23, oq_23, es_23, og_24, oi_24, ef_24_1, og_25, oi_25, oq_25, es_25, og_26, oi_26, ef_26_1, og_27, oi_27, oq_27, es_27, og_28, oi_28, ef_28_1, og_29, oi_29, oq_29, es_29, og_30, oi_30, ef_30_1, og_31, oi_31, oq_31, es_31, og_32, oi_32, ef_32_1, og_33, oi_33, oq_33, es_33, og_34, oi_34, ef_34_1, og_35, oi_35, oq_35, es_35, hR.2.1]
  have h := add_loop G σ hR hO h8 (f := f) hk (fun v h' => v = none ∧ ∃ (ft : Nat → Int64) (ff : Nat → Int32), h' = enc (sF (sI (sL σ ft) 7 ff) 5 2 (nI (l.length + 1))) ∧ RCn (q_ins k f l) (sF (sI (sL σ ft) 7 ff) 5 2 (nI (l.length + 1)))) (fun ft ff hh => ⟨rfl, ft, ff, rfl, hh⟩) l.length (Nat.le_refl _) σ.2.1 (σ.1 7) (fun j hj => hR.2.2 j _ (getD_at hj)) (fun j h1 h2 => by omega)
  rw [sL_id, sI_id] at h
  exact h
theorem remove_loop (G : oG) (σ : oT) {l : List (Nat × Nat)} {n r : Nat} (hn : n + 1 = l.length) (h8 : l.length ≤ 8) (hs : σ.2.2 5 2 = nI n) (hr : r < l.length) (Post : oP) (hP : ∀ (ft : Nat → Int64) (ff : Nat → Int32), RCn (l.eraseIdx r) (sI (sL σ ft) 7 ff) → Post none (enc (sI (sL σ ft) 7 ff))) : ∀ k i : Nat, i + k = n → r ≤ i → ∀ (ft : Nat → Int64) (ff : Nat → Int32), (∀ j, j < r → ft j = lN (l.getD j (0, 0)).1 ∧ ff j = nI (l.getD j (0, 0)).2) → (∀ j, r ≤ j → j < i → ft j = lN (l.getD (j + 1) (0, 0)).1 ∧ ff j = nI (l.getD (j + 1) (0, 0)).2) → (∀ j, i ≤ j → j < l.length → ft j = lN (l.getD j (0, 0)).1 ∧ ff j = nI (l.getD j (0, 0)).2) → Wp G m_N_remove Post 12 0 0 [(0, .ref 6), (2, .int (nI i))] [] (enc (sI (sL σ ft) 7 ff)) := by
  intro k
  induction k with
  | zero =>
    intro i hk hri ft ff h1 h2 h3
    have e : i = n := by omega
    subst e
    refine s_N_remove_12 _ _ _ _ _ ?_
    simp only [k_N_remove_12, o_iconst, o_lconst, o_iload, o_lload, o_aload, o_istore, o_lstore, o_astore, o_iinc, o_iadd, o_isub, o_imul, o_iand, o_ior, o_idiv, o_irem, o_lor, o_lushr, o_lshl, o_i2l, o_l2i, o_lcmp, o_dup, o_pop, o_dup2, o_ifeq, o_ifne, o_iflt, o_ifge, o_ifgt, o_ifle, o_icmpeq, o_icmpne, o_icmplt, o_icmpge, o_icmpgt, o_icmple, o_jmp, o_tsw, o_iret, o_zret, o_lret, o_vret, o_getf, o_putfI, o_putfR, o_iald, o_alen, o_lald, o_zald, o_iast, o_last, o_zast, o_aald, o_aast, o_new, o_newa, o_callS, o_callI, o_callV, o_objInit, o_mmax, o_mmin, o_lk, o_up1, o_up2, o_cl1, o_cl2, o_keep, o_c2, List.getElem?_cons_zero, List.getElem?_cons_succ, List.drop_zero, List.drop_succ_cons, List.take_zero, List.take_succ_cons, List.reverse_cons, List.reverse_nil, List.nil_append, List.cons_append, List.map_cons, List.map_nil, List.sum_cons, List.sum_nil, Value.category, List.length_cons, List.length_nil, List.set_cons_zero, List.set_cons_succ, Option.toList_some, Option.toList_none, lv_args, ↓reduceIte, Nat.reduceAdd, Nat.reduceSub, Nat.reduceMul, Nat.reduceEqDiff, Nat.reduceLeDiff, Nat.reduceLT, reduceCtorEq, Bool.false_eq_true, and_true, true_and, and_self, and_false, false_and, Nat.zero_add, Nat.le_refl, Nat.zero_le, true_or, or_true, not_true_eq_false, not_false_eq_true, forall_const, false_implies, implies_true, true_implies, Int32.reduceAdd, Int32.reduceLE, Int32.reduceLT, Int32.reduceSub, Int32.reduceMul, Int32.reduceToNatClampNeg, og_0, oi_0, ef_0_8, og_1, oi_1, og_2, oi_2, oq_2, es_2, og_3, oi_3, oq_3, es_3, og_4, oi_4, oq_4, es_4, og_5, oi_5, ef_5_2, og_6, oi_6, es_6, og_7, oi_7, oq_7, es_7, og_8, oi_8, og_9, oi_9, oq_9, es_9, og_10, oi_10, oq_10, es_10, og_11, oi_11, oq_11, es_11, og_12, oi_12, oq_12, es_12, og_13, oi_13, oq_13, es_13, og_14, oi_14, og_15, oi_15, og_16, oi_16, ef_16_2, og_17, oi_17, oq_17, es_17, og_18, oi_18, oq_18, es_18, og_19, oi_19, oq_19, es_19, og_20, oi_20, ef_20_1, og_21, oi_21, oq_21, es_21, og_22, oi_22, ef_22_1, og_23, oi_23, oq_23, es_23, og_24, oi_24, ef_24_1, og_25, oi_25, oq_25, es_25, og_26, oi_26, ef_26_1, og_27, oi_27, oq_27, es_27, og_28, oi_28, ef_28_1, og_29, oi_29, oq_29, es_29, og_30, oi_30, ef_30_1, og_31, oi_31, oq_31, es_31, og_32, oi_32, ef_32_1, og_33, oi_33, oq_33, es_33, og_34, oi_34, ef_34_1, og_35, oi_35, oq_35, es_35, sI_1, sI_2, sL_1, sL_2, sL_3, sF_1, sF_2, sF_3, hs]
    refine ⟨fun _ => hP ft ff ?_, fun q => absurd (nI_le (Nat.le_refl i) (by omega)) q⟩
    have hlen : (l.eraseIdx r).length = i := by rw [List.length_eraseIdx]; simp [hr]; omega
    refine ⟨by omega, by rw [hlen]; exact hs, fun j x hx => ?_⟩
    simp only [sI_1, sI_2, sL_1, sL_2, sL_3, sF_1, sF_2, sF_3, if_true]
    rw [List.getElem?_eraseIdx] at hx
    by_cases h : j < r
    · rw [if_pos h, getD_at (by omega)] at hx
      cases hx
      exact h1 j h
    · rw [if_neg h] at hx
      have hlt : j + 1 < l.length := (List.getElem?_eq_some_iff.mp hx).1
      rw [getD_at hlt] at hx
      cases hx
      exact h2 j (by omega) (by omega)
  | succ k ih =>
    intro i hk hri ft ff h1 h2 h3
    have hv : vp_in (nI i) 8 := vp_in_nI (by omega) (by decide)
    have hv1 : vp_in (nI (i + 1)) 8 := vp_in_nI (by omega) (by decide)
    have h3i := h3 (i + 1) (by omega) (by omega)
    refine s_N_remove_12 _ _ _ _ _ ?_
    simp only [k_N_remove_12, o_iconst, o_lconst, o_iload, o_lload, o_aload, o_istore, o_lstore, o_astore, o_iinc, o_iadd, o_isub, o_imul, o_iand, o_ior, o_idiv, o_irem, o_lor, o_lushr, o_lshl, o_i2l, o_l2i, o_lcmp, o_dup, o_pop, o_dup2, o_ifeq, o_ifne, o_iflt, o_ifge, o_ifgt, o_ifle, o_icmpeq, o_icmpne, o_icmplt, o_icmpge, o_icmpgt, o_icmple, o_jmp, o_tsw, o_iret, o_zret, o_lret, o_vret, o_getf, o_putfI, o_putfR, o_iald, o_alen, o_lald, o_zald, o_iast, o_last, o_zast, o_aald, o_aast, o_new, o_newa, o_callS, o_callI, o_callV, o_objInit, o_mmax, o_mmin, o_lk, o_up1, o_up2, o_cl1, o_cl2, o_keep, o_c2, List.getElem?_cons_zero, List.getElem?_cons_succ, List.drop_zero, List.drop_succ_cons, List.take_zero, List.take_succ_cons, List.reverse_cons, List.reverse_nil, List.nil_append, List.cons_append, List.map_cons, List.map_nil, List.sum_cons, List.sum_nil, Value.category, List.length_cons, List.length_nil, List.set_cons_zero, List.set_cons_succ, Option.toList_some, Option.toList_none, lv_args, ↓reduceIte, Nat.reduceAdd, Nat.reduceSub, Nat.reduceMul, Nat.reduceEqDiff, Nat.reduceLeDiff, Nat.reduceLT, reduceCtorEq, Bool.false_eq_true, and_true, true_and, and_self, and_false, false_and, Nat.zero_add, Nat.le_refl, Nat.zero_le, true_or, or_true, not_true_eq_false, not_false_eq_true, forall_const, false_implies, implies_true, true_implies, Int32.reduceAdd, Int32.reduceLE, Int32.reduceLT, Int32.reduceSub, Int32.reduceMul, Int32.reduceToNatClampNeg, og_0, oi_0, ef_0_8, og_1, oi_1, og_2, oi_2, oq_2, es_2, og_3, oi_3, oq_3, es_3, og_4, oi_4, oq_4, es_4, og_5, oi_5, ef_5_2, og_6, oi_6, es_6, og_7, oi_7, oq_7, es_7, og_8, oi_8, og_9, oi_9, oq_9, es_9, og_10, oi_10, oq_10, es_10, og_11, oi_11, oq_11, es_11, og_12, oi_12, oq_12, es_12, og_13, oi_13, oq_13, es_13, og_14, oi_14, og_15, oi_15, og_16, oi_16, ef_16_2, og_17, oi_17, oq_17, es_17, og_18, oi_18, oq_18, es_18, og_19, oi_19, oq_19, es_19, og_20, oi_20, ef_20_1, og_21, oi_21, oq_21, es_21, og_22, oi_22, ef_22_1, og_23, oi_23, oq_23, es_23, og_24, oi_24, ef_24_1, og_25, oi_25, oq_25, es_25, og_26, oi_26, ef_26_1, og_27, oi_27, oq_27, es_27, og_28, oi_28, ef_28_1, og_29, oi_29, oq_29, es_29, og_30, oi_30, ef_30_1, og_31, oi_31, oq_31, es_31, og_32, oi_32, ef_32_1, og_33, oi_33, oq_33, es_33, og_34, oi_34, ef_34_1, og_35, oi_35, oq_35, es_35, sI_1, sI_2, sL_1, sL_2, sL_3, sF_1, sF_2, sF_3, hs, nI_1, nI_clamp (show i < 2 ^ 31 by omega), nI_clamp (show i + 1 < 2 ^ 31 by omega), sL_sI, sL_sL, sI_sI]
    refine ⟨fun q => absurd q (nI_ge (show i < n by omega) (by omega)), fun _ => ⟨hv1, hv, hv1, hv, ?_⟩⟩
    refine ih (i + 1) (by omega) (by omega) _ _ (fun j hj => ?_) (fun j hj hj2 => ?_) (fun j hj hj2 => ?_)
    · simp only [vp_updL, upd]
      rw [if_neg (by omega), if_neg (by omega)]
      exact h1 j hj
    · simp only [vp_updL, upd]
      by_cases h : j = i
      · rw [if_pos h, if_pos h, h]
        exact h3i
      · rw [if_neg h, if_neg h]
        exact h2 j hj (by omega)
    · simp only [vp_updL, upd]
      rw [if_neg (by omega), if_neg (by omega)]
      exact h3 j (by omega) hj2
theorem c_remove (G : oG) (σ : oT) {l : List (Nat × Nat)} (hR : RCn l σ) {r : Nat} (hr : r < l.length) : Mt G m_N_remove [.ref 6, .int (nI r)] (enc σ) 0 0 (fun v h' => v = none ∧ ∃ (ft : Nat → Int64) (ff : Nat → Int32), h' = enc (sI (sL (sF σ 5 2 (nI (l.length - 1))) ft) 7 ff) ∧ RCn (l.eraseIdx r) (sI (sL (sF σ 5 2 (nI (l.length - 1))) ft) 7 ff)) := by
  refine Mt.of (by decide) (Nat.le_of_ble_eq_true rfl) (s_N_remove_0 _ _ _ _ _ ?_)
  have h8 := hR.1
  have e : nI l.length - 1 = nI (l.length - 1) := by rw [show (1 : Int32) = nI 1 from rfl, pk_sub (by omega)]
  simp only [k_N_remove_0, o_iconst, o_lconst, o_iload, o_lload, o_aload, o_istore, o_lstore, o_astore, o_iinc, o_iadd, o_isub, o_imul, o_iand, o_ior, o_idiv, o_irem, o_lor, o_lushr, o_lshl, o_i2l, o_l2i, o_lcmp, o_dup, o_pop, o_dup2, o_ifeq, o_ifne, o_iflt, o_ifge, o_ifgt, o_ifle, o_icmpeq, o_icmpne, o_icmplt, o_icmpge, o_icmpgt, o_icmple, o_jmp, o_tsw, o_iret, o_zret, o_lret, o_vret, o_getf, o_putfI, o_putfR, o_iald, o_alen, o_lald, o_zald, o_iast, o_last, o_zast, o_aald, o_aast, o_new, o_newa, o_callS, o_callI, o_callV, o_objInit, o_mmax, o_mmin, o_lk, o_up1, o_up2, o_cl1, o_cl2, o_keep, o_c2, List.getElem?_cons_zero, List.getElem?_cons_succ, List.drop_zero, List.drop_succ_cons, List.take_zero, List.take_succ_cons, List.reverse_cons, List.reverse_nil, List.nil_append, List.cons_append, List.map_cons, List.map_nil, List.sum_cons, List.sum_nil, Value.category, List.length_cons, List.length_nil, List.set_cons_zero, List.set_cons_succ, Option.toList_some, Option.toList_none, lv_args, ↓reduceIte, Nat.reduceAdd, Nat.reduceSub, Nat.reduceMul, Nat.reduceEqDiff, Nat.reduceLeDiff, Nat.reduceLT, reduceCtorEq, Bool.false_eq_true, and_true, true_and, and_self, and_false, false_and, Nat.zero_add, Nat.le_refl, Nat.zero_le, true_or, or_true, not_true_eq_false, not_false_eq_true, forall_const, false_implies, implies_true, true_implies, Int32.reduceAdd, Int32.reduceLE, Int32.reduceLT, Int32.reduceSub, Int32.reduceMul, Int32.reduceToNatClampNeg, og_0, oi_0, ef_0_8, og_1, oi_1, og_2, oi_2, oq_2, es_2, og_3, oi_3, oq_3, es_3, og_4, oi_4, oq_4, es_4, og_5, oi_5, ef_5_2, og_6, oi_6, es_6, og_7, oi_7, oq_7, es_7, og_8, oi_8, og_9, oi_9, oq_9, es_9, og_10, oi_10, oq_10, es_10, og_11, oi_11, oq_11, es_11, og_12, oi_12, oq_12, es_12, og_13, oi_13, oq_13, es_13, og_14, oi_14, og_15, oi_15, og_16, oi_16, ef_16_2, og_17, oi_17, oq_17, es_17, og_18, oi_18, oq_18, es_18, og_19, oi_19, oq_19, es_19, og_20, oi_20, ef_20_1, og_21, oi_21, oq_21, es_21, og_22, oi_22, ef_22_1, og_23, oi_23, oq_23, es_23, og_24, oi_24, ef_24_1, og_25, oi_25, oq_25, es_25, og_26, oi_26, ef_26_1, og_27, oi_27, oq_27, es_27, og_28, oi_28, ef_28_1, og_29, oi_29, oq_29, es_29, og_30, oi_30, ef_30_1, og_31, oi_31, oq_31, es_31, og_32, oi_32, ef_32_1, og_33, oi_33, oq_33, es_33, og_34, oi_34, ef_34_1, og_35, oi_35, oq_35, es_35, hR.2.1, e]
  have h := remove_loop G (sF σ 5 2 (nI (l.length - 1))) (l := l) (n := l.length - 1) (r := r) (by omega) h8 rfl hr (fun v h' => v = none ∧ ∃ (ft : Nat → Int64) (ff : Nat → Int32), h' = enc (sI (sL (sF σ 5 2 (nI (l.length - 1))) ft) 7 ff) ∧ RCn (l.eraseIdx r) (sI (sL (sF σ 5 2 (nI (l.length - 1))) ft) 7 ff)) (fun ft ff hh => ⟨rfl, ft, ff, rfl, hh⟩) (l.length - 1 - r) r (by omega) (Nat.le_refl _) σ.2.1 (σ.1 7) (fun j hj => hR.2.2 j _ (getD_at (by omega))) (fun j h1 h2 => by omega) (fun j h1 h2 => hR.2.2 j _ (getD_at h2))
  exact h
