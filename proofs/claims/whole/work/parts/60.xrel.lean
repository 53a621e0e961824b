/-! When the second side's cells hold the state. -/
def kdX (t d : Nat) : Nat := if t < 6 then 1 else if d = 1 then 2 else 3
def ofX (t : Nat) : Nat := if t < 6 then t else t - 6
def frv (e : Nat) : Nat := if e = 0 then 0 else (e - 1) / 8 + 1
def XMg (m : MS) (σ : oT) : Prop := ∀ k, k < 48 → σ.1 38 k = nI (frv (q_pg m k)) ∧ (q_pg m k ≠ 0 → σ.1 39 k = nI ((q_pg m k - 1) % 8))
def XMb (m : MS) (σ : oT) : Prop := ∀ k, k < 320 → σ.1 37 k = nI (q_mem m k)
def XMe (m : MS) (σ : oT) : Prop := ∀ k, k < 9 → σ.1 40 k = q_reg m k
def XMd (m : MS) (σ : oT) : Prop := ∀ d, d < 15 → σ.1 54 d = nI (q_ds m d)
def XMo (m : MS) (σ : oT) : Prop := ∀ o, o < 8 → has (q_ds m) o = true → σ.1 47 o = nI (kdX (q_tg m o) (q_md m o)) ∧ σ.1 48 o = nI (ofX (q_tg m o)) ∧ σ.1 49 o = nI (q_ps m o) ∧ (q_tg m o < 6 → σ.1 50 o = nI (q_md m o))
def XMf (m : MS) (σ : oT) : Prop := ∀ f, f < 6 → fex m f = true → σ.1 41 f = 1 ∧ σ.1 42 f = nI (q_sz m f) ∧ ∀ i, i < q_sz m f → σ.1 43 (24 * f + i) = nI (q_dat m f i)
def XMq (m : MS) (σ : oT) : Prop := ∀ q, q < 2 → pex m q = true → σ.1 51 q = 1 ∧ σ.1 52 q = nI (q_hl m q) ∧ ∀ i, i < q_hl m q → σ.1 53 (8 * q + i) = nI (q_pb m q i)
/-- the names that the second side's places hold -/
def sl (nb : Nat → List Nat) (nf : Nat → Nat) : Nat → List (Nat × Nat)
  | 0 => []
  | n + 1 => if nb n = [] then sl nb nf n else (q_key (nb n), nf n) :: sl nb nf n
def XNm (nb : Nat → List Nat) (nf : Nat → Nat) (σ : oT) : Prop := ∀ n, n < 8 → (nb n).length ≤ 7 ∧ (∀ b ∈ nb n, 0 < b ∧ b < 256) ∧ σ.1 44 n = nI (nb n).length ∧ (∀ i, i < (nb n).length → σ.1 45 (8 * n + i) = nI ((nb n).getD i 0)) ∧ (nb n ≠ [] → σ.1 46 n = nI (nf n))
def XMn (l : List (Nat × Nat)) (σ : oT) : Prop := ∃ (nb : Nat → List Nat) (nf : Nat → Nat), (sl nb nf 8).Perm l ∧ XNm nb nf σ
def RMp (m : MS) (σ : oT) : Prop := XMg m σ ∧ XMb m σ ∧ XMe m σ ∧ σ.2.2 36 4 = q_trp m ∧ XMn (q_nm m) σ ∧ XMd m σ ∧ XMo m σ ∧ XMf m σ ∧ XMq m σ
/-- what is there no more is told so -/
def XMz (m : MS) (σ : oT) : Prop := (∀ o, o < 8 → has (q_ds m) o = false → σ.1 47 o = 0) ∧ (∀ f, f < 6 → fex m f = false → σ.1 41 f = 0) ∧ ∀ q, q < 2 → pex m q = false → σ.1 51 q = 0
def RM (m : MS) (σ : oT) : Prop := RMp m σ ∧ XMz m σ
/-- the first side's cells stay -/
def frX (σ τ : oT) : Prop := (∀ k, k < 36 → τ.1 k = σ.1 k) ∧ τ.2.1 = σ.2.1 ∧ ∀ k, k < 36 → τ.2.2 k = σ.2.2 k
theorem frX_r (σ : oT) : frX σ σ := ⟨fun _ _ => rfl, rfl, fun _ _ => rfl⟩
theorem frX_t {σ τ υ : oT} (h1 : frX σ τ) (h2 : frX τ υ) : frX σ υ := ⟨fun k hk => (h2.1 k hk).trans (h1.1 k hk), h2.2.1.trans h1.2.1, fun k hk => (h2.2.2 k hk).trans (h1.2.2 k hk)⟩
theorem frX_sI {σ τ : oT} {k : Nat} {g : Nat → Int32} (h : frX σ τ) (hk : 36 ≤ k) : frX σ (sI τ k g) := ⟨fun j hj => by rw [sI_1, if_neg (by omega)]; exact h.1 j hj, h.2⟩
theorem frX_sF {σ τ : oT} {k j : Nat} {x : Int32} (h : frX σ τ) (hk : 36 ≤ k) : frX σ (sF τ k j x) := ⟨h.1, h.2.1, fun a ha => by
  funext b
  rw [sF_3, if_neg (by omega)]
  exact congrFun (h.2.2 a ha) b⟩
theorem RM_fr {m : MS} {σ τ : oT} (h : RM m σ) (hf : frC σ τ) : RM m τ := by
  have a := hf.1
  unfold RM RMp XMz XMg XMb XMe XMd XMo XMf XMq XMn XNm at h ⊢
  rw [hf.2 36 (by decide), a 37 (by decide), a 38 (by decide), a 39 (by decide), a 40 (by decide), a 41 (by decide), a 42 (by decide), a 43 (by decide), a 44 (by decide), a 45 (by decide), a 46 (by decide), a 47 (by decide), a 48 (by decide), a 49 (by decide), a 50 (by decide), a 51 (by decide), a 52 (by decide), a 53 (by decide), a 54 (by decide)]
  exact h
theorem RC_fr {m : MS} {σ τ : oT} (h : RC m σ) (hf : frX σ τ) : RC m τ := by
  have a := hf.1
  have c := hf.2.2
  refine ⟨fun k hk => ?_, fun k hk => ?_, fun k hk => ?_, ?_, ?_, ?_, ?_, fun f hf6 he => ?_, fun q hq he => ?_⟩
  · rw [a 3 (by decide)]; exact h.1 k hk
  · rw [a 2 (by decide)]; exact h.2.1 k hk
  · rw [a 4 (by decide)]; exact h.2.2.1 k hk
  · rw [c 0 (by decide)]; exact h.2.2.2.1
  · have h5 := h.2.2.2.2.1
    unfold RCn at h5 ⊢
    rw [a 7 (by decide), c 5 (by decide), hf.2.1]
    exact h5
  · have h5 := h.2.2.2.2.2.1
    unfold RCd at h5 ⊢
    rw [a 9 (by decide), a 10 (by decide)]
    exact h5
  · have h5 := h.2.2.2.2.2.2.1
    unfold RCo at h5 ⊢
    rw [a 11 (by decide), a 12 (by decide), a 13 (by decide)]
    exact h5
  · rw [a (21 + 2 * f) (by omega), c (20 + 2 * f) (by omega)]
    exact h.2.2.2.2.2.2.2.1 f hf6 he
  · rw [a (33 + 2 * q) (by omega), c (32 + 2 * q) (by omega)]
    exact h.2.2.2.2.2.2.2.2 q hq he
/-- what a method of the second side owes -/
def SX (σ : oT) (r : Int32 × MS) : oP := fun v h' => v = some (.int r.1) ∧ ∃ τ : oT, h' = enc τ ∧ RM r.2 τ ∧ frX σ τ
theorem SX.mk {σ τ : oT} {x : Int32} {m : MS} (h : RM m τ) (hf : frX σ τ) : SX σ (x, m) (some (.int x)) (enc τ) := ⟨rfl, τ, rfl, h, hf⟩
theorem wI_f1 {x n : Int32} (h : x < 0) : wI x n = false := by
  have := i_nle h
  simp [wI, this]
theorem wI_f2 {x : Int32} {n : Nat} (hn : n + 1 < 2 ^ 31) (h : nI n < x) : wI x (nI (n + 1)) = false := by
  rw [wI_le hn, decide_eq_false (i_nle h), Bool.and_false]
theorem wI_t2 {x : Int32} {n : Nat} (hn : n + 1 < 2 ^ 31) (h0 : ¬ x < 0) (h : ¬ nI n < x) : wI x (nI (n + 1)) = true := by
  rw [wI_le hn, decide_eq_true h0, decide_eq_true (i_ge h)]
  rfl
theorem wI_f3 {x : Int32} {n : Nat} (hn : n + 1 < 2 ^ 31) (h : ¬ x ≤ nI n) : wI x (nI (n + 1)) = false := by
  rw [wI_le hn, decide_eq_false h, Bool.and_false]
theorem wI_t3 {x : Int32} {n : Nat} (hn : n + 1 < 2 ^ 31) (h0 : ¬ x < 0) (h : x ≤ nI n) : wI x (nI (n + 1)) = true := by
  rw [wI_le hn, decide_eq_true h0, decide_eq_true h]
  rfl
theorem x_isPage (G : oG) (h : oH) (p q : Int32) : Mt G m_X_isPage [.int p, .int q] h 0 0 (fun v h' => v = some (.int (bz (wI p 3 && wI q 16))) ∧ h' = h) := by
  refine Mt.of (by decide) (Nat.le_of_ble_eq_true rfl) (s_X_isPage_0 _ _ _ _ _ ?_)
  simp only [k_X_isPage_0, o_iconst, o_lconst, o_iload, o_lload, o_aload, o_istore, o_lstore, o_astore, o_iinc, o_iadd, o_isub, o_imul, o_iand, o_ior, o_idiv, o_irem, o_lor, o_lushr, o_lshl, o_i2l, o_l2i, o_lcmp, o_dup, o_pop, o_dup2, o_ifeq, o_ifne, o_iflt, o_ifge, o_ifgt, o_ifle, o_icmpeq, o_icmpne, o_icmplt, o_icmpge, o_icmpgt, o_icmple, o_jmp, o_tsw, o_iret, o_zret, o_lret, o_vret, o_getf, o_putfI, o_putfR, o_iald, o_alen, o_lald, o_zald, o_iast, o_last, o_zast, o_aald, o_aast, o_new, o_newa, o_callS, o_callI, o_callV, o_objInit, o_mmax, o_mmin, o_lk, o_up1, o_up2, o_cl1, o_cl2, o_keep, o_c2, List.getElem?_cons_zero, List.getElem?_cons_succ, List.drop_zero, List.drop_succ_cons, List.take_zero, List.take_succ_cons, List.reverse_cons, List.reverse_nil, List.nil_append, List.cons_append, List.map_cons, List.map_nil, List.sum_cons, List.sum_nil, Value.category, List.length_cons, List.length_nil, List.set_cons_zero, List.set_cons_succ, Option.toList_some, Option.toList_none, lv_args, ↓reduceIte, Nat.reduceAdd, Nat.reduceSub, Nat.reduceMul, Nat.reduceEqDiff, Nat.reduceLeDiff, Nat.reduceLT, reduceCtorEq, Bool.false_eq_true, and_true, true_and, and_self, and_false, false_and, Nat.zero_add, Nat.le_refl, Nat.zero_le, true_or, or_true, not_true_eq_false, not_false_eq_true, forall_const, false_implies, implies_true, true_implies, Int32.reduceAdd, Int32.reduceLE, Int32.reduceLT, Int32.reduceSub, Int32.reduceMul, Int32.reduceToNatClampNeg]
  refine o_use (c_XisProcess G h p) ?_
  rintro w h' ⟨rfl, rfl⟩
  refine s_X_isPage_4 _ _ _ _ _ ?_
  cases h1 : wI p 3 with
  | false =>
    simp only [k_X_isPage_4, o_iconst, o_lconst, o_iload, o_lload, o_aload, o_istore, o_lstore, o_astore, o_iinc, o_iadd, o_isub, o_imul, o_iand, o_ior, o_idiv, o_irem, o_lor, o_lushr, o_lshl, o_i2l, o_l2i, o_lcmp, o_dup, o_pop, o_dup2, o_ifeq, o_ifne, o_iflt, o_ifge, o_ifgt, o_ifle, o_icmpeq, o_icmpne, o_icmplt, o_icmpge, o_icmpgt, o_icmple, o_jmp, o_tsw, o_iret, o_zret, o_lret, o_vret, o_getf, o_putfI, o_putfR, o_iald, o_alen, o_lald, o_zald, o_iast, o_last, o_zast, o_aald, o_aast, o_new, o_newa, o_callS, o_callI, o_callV, o_objInit, o_mmax, o_mmin, o_lk, o_up1, o_up2, o_cl1, o_cl2, o_keep, o_c2, List.getElem?_cons_zero, List.getElem?_cons_succ, List.drop_zero, List.drop_succ_cons, List.take_zero, List.take_succ_cons, List.reverse_cons, List.reverse_nil, List.nil_append, List.cons_append, List.map_cons, List.map_nil, List.sum_cons, List.sum_nil, Value.category, List.length_cons, List.length_nil, List.set_cons_zero, List.set_cons_succ, Option.toList_some, Option.toList_none, lv_args, ↓reduceIte, Nat.reduceAdd, Nat.reduceSub, Nat.reduceMul, Nat.reduceEqDiff, Nat.reduceLeDiff, Nat.reduceLT, reduceCtorEq, Bool.false_eq_true, and_true, true_and, and_self, and_false, false_and, Nat.zero_add, Nat.le_refl, Nat.zero_le, true_or, or_true, not_true_eq_false, not_false_eq_true, forall_const, false_implies, implies_true, true_implies, Int32.reduceAdd, Int32.reduceLE, Int32.reduceLT, Int32.reduceSub, Int32.reduceMul, Int32.reduceToNatClampNeg, bz_f, Bool.false_and]
  | true =>
    simp only [k_X_isPage_4, o_iconst, o_lconst, o_iload, o_lload, o_aload, o_istore, o_lstore, o_astore, o_iinc, o_iadd, o_isub, o_imul, o_iand, o_ior, o_idiv, o_irem, o_lor, o_lushr, o_lshl, o_i2l, o_l2i, o_lcmp, o_dup, o_pop, o_dup2, o_ifeq, o_ifne, o_iflt, o_ifge, o_ifgt, o_ifle, o_icmpeq, o_icmpne, o_icmplt, o_icmpge, o_icmpgt, o_icmple, o_jmp, o_tsw, o_iret, o_zret, o_lret, o_vret, o_getf, o_putfI, o_putfR, o_iald, o_alen, o_lald, o_zald, o_iast, o_last, o_zast, o_aald, o_aast, o_new, o_newa, o_callS, o_callI, o_callV, o_objInit, o_mmax, o_mmin, o_lk, o_up1, o_up2, o_cl1, o_cl2, o_keep, o_c2, List.getElem?_cons_zero, List.getElem?_cons_succ, List.drop_zero, List.drop_succ_cons, List.take_zero, List.take_succ_cons, List.reverse_cons, List.reverse_nil, List.nil_append, List.cons_append, List.map_cons, List.map_nil, List.sum_cons, List.sum_nil, Value.category, List.length_cons, List.length_nil, List.set_cons_zero, List.set_cons_succ, Option.toList_some, Option.toList_none, lv_args, ↓reduceIte, Nat.reduceAdd, Nat.reduceSub, Nat.reduceMul, Nat.reduceEqDiff, Nat.reduceLeDiff, Nat.reduceLT, reduceCtorEq, Bool.false_eq_true, and_true, true_and, and_self, and_false, false_and, Nat.zero_add, Nat.le_refl, Nat.zero_le, true_or, or_true, not_true_eq_false, not_false_eq_true, forall_const, false_implies, implies_true, true_implies, Int32.reduceAdd, Int32.reduceLE, Int32.reduceLT, Int32.reduceSub, Int32.reduceMul, Int32.reduceToNatClampNeg, bz_t, Bool.true_and]
    refine ⟨fun q => absurd q i01, fun _ => ⟨fun q1 => ?_, fun q1 => ⟨fun q2 => ?_, fun q2 => ?_⟩⟩⟩
    · rw [wI_f1 q1]; rfl
    · rw [show wI q 16 = false from wI_f2 (n := 15) (by decide) q2]; rfl
    · rw [show wI q 16 = true from wI_t2 (n := 15) (by decide) q1 q2]; rfl
theorem x_isByte (G : oG) (h : oH) (f i : Int32) : Mt G m_X_isByte [.int f, .int i] h 0 0 (fun v h' => v = some (.int (bz (wI f 20 && wI i 16))) ∧ h' = h) := by
  refine Mt.of (by decide) (Nat.le_of_ble_eq_true rfl) (s_X_isByte_0 _ _ _ _ _ ?_)
  simp only [k_X_isByte_0, o_iconst, o_lconst, o_iload, o_lload, o_aload, o_istore, o_lstore, o_astore, o_iinc, o_iadd, o_isub, o_imul, o_iand, o_ior, o_idiv, o_irem, o_lor, o_lushr, o_lshl, o_i2l, o_l2i, o_lcmp, o_dup, o_pop, o_dup2, o_ifeq, o_ifne, o_iflt, o_ifge, o_ifgt, o_ifle, o_icmpeq, o_icmpne, o_icmplt, o_icmpge, o_icmpgt, o_icmple, o_jmp, o_tsw, o_iret, o_zret, o_lret, o_vret, o_getf, o_putfI, o_putfR, o_iald, o_alen, o_lald, o_zald, o_iast, o_last, o_zast, o_aald, o_aast, o_new, o_newa, o_callS, o_callI, o_callV, o_objInit, o_mmax, o_mmin, o_lk, o_up1, o_up2, o_cl1, o_cl2, o_keep, o_c2, List.getElem?_cons_zero, List.getElem?_cons_succ, List.drop_zero, List.drop_succ_cons, List.take_zero, List.take_succ_cons, List.reverse_cons, List.reverse_nil, List.nil_append, List.cons_append, List.map_cons, List.map_nil, List.sum_cons, List.sum_nil, Value.category, List.length_cons, List.length_nil, List.set_cons_zero, List.set_cons_succ, Option.toList_some, Option.toList_none, lv_args, ↓reduceIte, Nat.reduceAdd, Nat.reduceSub, Nat.reduceMul, Nat.reduceEqDiff, Nat.reduceLeDiff, Nat.reduceLT, reduceCtorEq, Bool.false_eq_true, and_true, true_and, and_self, and_false, false_and, Nat.zero_add, Nat.le_refl, Nat.zero_le, true_or, or_true, not_true_eq_false, not_false_eq_true, forall_const, false_implies, implies_true, true_implies, Int32.reduceAdd, Int32.reduceLE, Int32.reduceLT, Int32.reduceSub, Int32.reduceMul, Int32.reduceToNatClampNeg]
  refine ⟨fun q1 => ?_, fun q1 => ⟨fun q2 => ?_, fun q2 => ⟨fun q3 => ?_, fun q3 => ⟨fun q4 => ?_, fun q4 => ?_⟩⟩⟩⟩
  · rw [wI_f1 q1]; rfl
  · rw [show wI f 20 = false from wI_f2 (n := 19) (by decide) q2]; rfl
  · rw [wI_f1 q3, Bool.and_false]; rfl
  · rw [show wI i 16 = false from wI_f2 (n := 15) (by decide) q4, Bool.and_false]; rfl
  · rw [show wI f 20 = true from wI_t2 (n := 19) (by decide) q1 q2, show wI i 16 = true from wI_t2 (n := 15) (by decide) q3 q4]; rfl
theorem ix16 (p q : Nat) : (16 : Int32) * nI p + nI q = nI (p * 16 + q) := by rw [show (16 : Int32) = nI 16 from rfl, pk_mul, nI_add, Nat.mul_comm]
theorem ix3 (p q : Nat) : (3 : Int32) * nI p + nI q = nI (p * 3 + q) := by rw [show (3 : Int32) = nI 3 from rfl, pk_mul, nI_add, Nat.mul_comm]
theorem RM_b {m : MS} {σ : oT} {f : Nat → Nat} {g : Nat → Int32} (h : RM m σ) (hb : ∀ k, k < 320 → g k = nI (f k)) : RM (q_smem m f) (sI σ 37 g) := ⟨⟨h.1.1, hb, h.1.2.2⟩, h.2⟩
theorem RM_e {m : MS} {σ : oT} {f g : Nat → Int32} (h : RM m σ) (hb : ∀ k, k < 9 → g k = f k) : RM (q_sreg m f) (sI σ 40 g) := ⟨⟨h.1.1, h.1.2.1, hb, h.1.2.2.2⟩, h.2⟩
theorem x_poke (G : oG) (σ : oT) (m : MS) (hR : RM m σ) (f i b : Int32) : Mt G m_X_poke [.ref 37, .int f, .int i, .int b] (enc σ) 0 0 (SX σ (sp_poke m f i b)) := by
  refine Mt.of (by decide) (Nat.le_of_ble_eq_true rfl) (s_X_poke_0 _ _ _ _ _ ?_)
  simp only [k_X_poke_0, o_iconst, o_lconst, o_iload, o_lload, o_aload, o_istore, o_lstore, o_astore, o_iinc, o_iadd, o_isub, o_imul, o_iand, o_ior, o_idiv, o_irem, o_lor, o_lushr, o_lshl, o_i2l, o_l2i, o_lcmp, o_dup, o_pop, o_dup2, o_ifeq, o_ifne, o_iflt, o_ifge, o_ifgt, o_ifle, o_icmpeq, o_icmpne, o_icmplt, o_icmpge, o_icmpgt, o_icmple, o_jmp, o_tsw, o_iret, o_zret, o_lret, o_vret, o_getf, o_putfI, o_putfR, o_iald, o_alen, o_lald, o_zald, o_iast, o_last, o_zast, o_aald, o_aast, o_new, o_newa, o_callS, o_callI, o_callV, o_objInit, o_mmax, o_mmin, o_lk, o_up1, o_up2, o_cl1, o_cl2, o_keep, o_c2, List.getElem?_cons_zero, List.getElem?_cons_succ, List.drop_zero, List.drop_succ_cons, List.take_zero, List.take_succ_cons, List.reverse_cons, List.reverse_nil, List.nil_append, List.cons_append, List.map_cons, List.map_nil, List.sum_cons, List.sum_nil, Value.category, List.length_cons, List.length_nil, List.set_cons_zero, List.set_cons_succ, Option.toList_some, Option.toList_none, lv_args, ↓reduceIte, Nat.reduceAdd, Nat.reduceSub, Nat.reduceMul, Nat.reduceEqDiff, Nat.reduceLeDiff, Nat.reduceLT, reduceCtorEq, Bool.false_eq_true, and_true, true_and, and_self, and_false, false_and, Nat.zero_add, Nat.le_refl, Nat.zero_le, true_or, or_true, not_true_eq_false, not_false_eq_true, forall_const, false_implies, implies_true, true_implies, Int32.reduceAdd, Int32.reduceLE, Int32.reduceLT, Int32.reduceSub, Int32.reduceMul, Int32.reduceToNatClampNeg]
  refine o_use (x_isByte G (enc σ) f i) ?_
  rintro w h' ⟨rfl, rfl⟩
  refine s_X_poke_5 _ _ _ _ _ ?_
  unfold sp_poke
  rw [← Bool.and_assoc]
  cases h1 : (wI f 20 && wI i 16) with
  | false =>
    simp only [k_X_poke_5, o_iconst, o_lconst, o_iload, o_lload, o_aload, o_istore, o_lstore, o_astore, o_iinc, o_iadd, o_isub, o_imul, o_iand, o_ior, o_idiv, o_irem, o_lor, o_lushr, o_lshl, o_i2l, o_l2i, o_lcmp, o_dup, o_pop, o_dup2, o_ifeq, o_ifne, o_iflt, o_ifge, o_ifgt, o_ifle, o_icmpeq, o_icmpne, o_icmplt, o_icmpge, o_icmpgt, o_icmple, o_jmp, o_tsw, o_iret, o_zret, o_lret, o_vret, o_getf, o_putfI, o_putfR, o_iald, o_alen, o_lald, o_zald, o_iast, o_last, o_zast, o_aald, o_aast, o_new, o_newa, o_callS, o_callI, o_callV, o_objInit, o_mmax, o_mmin, o_lk, o_up1, o_up2, o_cl1, o_cl2, o_keep, o_c2, List.getElem?_cons_zero, List.getElem?_cons_succ, List.drop_zero, List.drop_succ_cons, List.take_zero, List.take_succ_cons, List.reverse_cons, List.reverse_nil, List.nil_append, List.cons_append, List.map_cons, List.map_nil, List.sum_cons, List.sum_nil, Value.category, List.length_cons, List.length_nil, List.set_cons_zero, List.set_cons_succ, Option.toList_some, Option.toList_none, lv_args, ↓reduceIte, Nat.reduceAdd, Nat.reduceSub, Nat.reduceMul, Nat.reduceEqDiff, Nat.reduceLeDiff, Nat.reduceLT, reduceCtorEq, Bool.false_eq_true, and_true, true_and, and_self, and_false, false_and, Nat.zero_add, Nat.le_refl, Nat.zero_le, true_or, or_true, not_true_eq_false, not_false_eq_true, forall_const, false_implies, implies_true, true_implies, Int32.reduceAdd, Int32.reduceLE, Int32.reduceLT, Int32.reduceSub, Int32.reduceMul, Int32.reduceToNatClampNeg, bz_f, Bool.false_and]
    exact SX.mk hR (frX_r σ)
  | true =>
    rw [Bool.true_and]
    rw [Bool.and_eq_true] at h1
    obtain ⟨f, hf, rfl⟩ := wI_t (n := 20) (by decide) h1.1
    obtain ⟨i, hi, rfl⟩ := wI_t (n := 16) (by decide) h1.2
    simp only [k_X_poke_5, o_iconst, o_lconst, o_iload, o_lload, o_aload, o_istore, o_lstore, o_astore, o_iinc, o_iadd, o_isub, o_imul, o_iand, o_ior, o_idiv, o_irem, o_lor, o_lushr, o_lshl, o_i2l, o_l2i, o_lcmp, o_dup, o_pop, o_dup2, o_ifeq, o_ifne, o_iflt, o_ifge, o_ifgt, o_ifle, o_icmpeq, o_icmpne, o_icmplt, o_icmpge, o_icmpgt, o_icmple, o_jmp, o_tsw, o_iret, o_zret, o_lret, o_vret, o_getf, o_putfI, o_putfR, o_iald, o_alen, o_lald, o_zald, o_iast, o_last, o_zast, o_aald, o_aast, o_new, o_newa, o_callS, o_callI, o_callV, o_objInit, o_mmax, o_mmin, o_lk, o_up1, o_up2, o_cl1, o_cl2, o_keep, o_c2, List.getElem?_cons_zero, List.getElem?_cons_succ, List.drop_zero, List.drop_succ_cons, List.take_zero, List.take_succ_cons, List.reverse_cons, List.reverse_nil, List.nil_append, List.cons_append, List.map_cons, List.map_nil, List.sum_cons, List.sum_nil, Value.category, List.length_cons, List.length_nil, List.set_cons_zero, List.set_cons_succ, Option.toList_some, Option.toList_none, lv_args, ↓reduceIte, Nat.reduceAdd, Nat.reduceSub, Nat.reduceMul, Nat.reduceEqDiff, Nat.reduceLeDiff, Nat.reduceLT, reduceCtorEq, Bool.false_eq_true, and_true, true_and, and_self, and_false, false_and, Nat.zero_add, Nat.le_refl, Nat.zero_le, true_or, or_true, not_true_eq_false, not_false_eq_true, forall_const, false_implies, implies_true, true_implies, Int32.reduceAdd, Int32.reduceLE, Int32.reduceLT, Int32.reduceSub, Int32.reduceMul, Int32.reduceToNatClampNeg, og_36, oi_36, ef_36_4, ef_36_19, ef_36_20, ef_36_21, ef_36_22, ef_36_23, og_37, oi_37, oq_37, es_37, og_38, oi_38, oq_38, es_38, og_39, oi_39, oq_39, es_39, og_40, oi_40, oq_40, es_40, og_41, oi_41, es_41, og_42, oi_42, oq_42, es_42, og_43, oi_43, oq_43, es_43, og_44, oi_44, oq_44, es_44, og_45, oi_45, oq_45, es_45, og_46, oi_46, oq_46, es_46, og_47, oi_47, oq_47, es_47, og_48, oi_48, oq_48, es_48, og_49, oi_49, oq_49, es_49, og_50, oi_50, oq_50, es_50, og_51, oi_51, es_51, og_52, oi_52, oq_52, es_52, og_53, oi_53, oq_53, es_53, og_54, oi_54, oq_54, es_54, og_55, oi_55, oq_55, es_55, og_56, oi_56, oq_56, es_56, og_57, oi_57, oq_57, es_57, og_58, oi_58, oq_58, es_58, bz_t, ix16, nI_clamp (show f * 16 + i < 2 ^ 31 by omega)]
    refine ⟨fun q => absurd q i01, fun _ => ⟨fun q1 => ?_, fun q1 => ⟨fun q2 => ⟨vp_in_nI (by omega) (by decide), ?_⟩, fun q2 => ?_⟩⟩⟩
    · rw [wI_f1 q1, if_neg (by decide)]
      exact SX.mk hR (frX_r σ)
    · have hw : wI b 256 = true := wI_t3 (n := 255) (by decide) q1 q2
      rw [if_pos hw]
      obtain ⟨b, hb, rfl⟩ := wI_t (n := 256) (by decide) hw
      rw [tN_nI (show f < 2 ^ 31 by omega), tN_nI (show i < 2 ^ 31 by omega), tN_nI (show b < 2 ^ 31 by omega)]
      refine SX.mk (RM_b hR ?_) (frX_sI (frX_r σ) (by decide))
      intro k hk
      simp only [upd, va_up]
      by_cases h : k = f * 16 + i
      · rw [if_pos h, if_pos h]
      · rw [if_neg h, if_neg h]; exact hR.1.2.1 k hk
    · rw [show wI b 256 = false from wI_f3 (n := 255) (by decide) q2, if_neg (by decide)]
      exact SX.mk hR (frX_r σ)
theorem x_peek (G : oG) (σ : oT) (m : MS) (hR : RM m σ) (f i : Int32) : Mt G m_X_peek [.ref 37, .int f, .int i] (enc σ) 0 0 (SX σ (sp_peek m f i)) := by
  refine Mt.of (by decide) (Nat.le_of_ble_eq_true rfl) (s_X_peek_0 _ _ _ _ _ ?_)
  simp only [k_X_peek_0, o_iconst, o_lconst, o_iload, o_lload, o_aload, o_istore, o_lstore, o_astore, o_iinc, o_iadd, o_isub, o_imul, o_iand, o_ior, o_idiv, o_irem, o_lor, o_lushr, o_lshl, o_i2l, o_l2i, o_lcmp, o_dup, o_pop, o_dup2, o_ifeq, o_ifne, o_iflt, o_ifge, o_ifgt, o_ifle, o_icmpeq, o_icmpne, o_icmplt, o_icmpge, o_icmpgt, o_icmple, o_jmp, o_tsw, o_iret, o_zret, o_lret, o_vret, o_getf, o_putfI, o_putfR, o_iald, o_alen, o_lald, o_zald, o_iast, o_last, o_zast, o_aald, o_aast, o_new, o_newa, o_callS, o_callI, o_callV, o_objInit, o_mmax, o_mmin, o_lk, o_up1, o_up2, o_cl1, o_cl2, o_keep, o_c2, List.getElem?_cons_zero, List.getElem?_cons_succ, List.drop_zero, List.drop_succ_cons, List.take_zero, List.take_succ_cons, List.reverse_cons, List.reverse_nil, List.nil_append, List.cons_append, List.map_cons, List.map_nil, List.sum_cons, List.sum_nil, Value.category, List.length_cons, List.length_nil, List.set_cons_zero, List.set_cons_succ, Option.toList_some, Option.toList_none, lv_args, ↓reduceIte, Nat.reduceAdd, Nat.reduceSub, Nat.reduceMul, Nat.reduceEqDiff, Nat.reduceLeDiff, Nat.reduceLT, reduceCtorEq, Bool.false_eq_true, and_true, true_and, and_self, and_false, false_and, Nat.zero_add, Nat.le_refl, Nat.zero_le, true_or, or_true, not_true_eq_false, not_false_eq_true, forall_const, false_implies, implies_true, true_implies, Int32.reduceAdd, Int32.reduceLE, Int32.reduceLT, Int32.reduceSub, Int32.reduceMul, Int32.reduceToNatClampNeg]
  refine o_use (x_isByte G (enc σ) f i) ?_
  rintro w h' ⟨rfl, rfl⟩
  refine s_X_peek_5 _ _ _ _ _ ?_
  unfold sp_peek
  cases h1 : (wI f 20 && wI i 16) with
  | false =>
    rw [if_neg (by decide)]
    simp only [k_X_peek_5, o_iconst, o_lconst, o_iload, o_lload, o_aload, o_istore, o_lstore, o_astore, o_iinc, o_iadd, o_isub, o_imul, o_iand, o_ior, o_idiv, o_irem, o_lor, o_lushr, o_lshl, o_i2l, o_l2i, o_lcmp, o_dup, o_pop, o_dup2, o_ifeq, o_ifne, o_iflt, o_ifge, o_ifgt, o_ifle, o_icmpeq, o_icmpne, o_icmplt, o_icmpge, o_icmpgt, o_icmple, o_jmp, o_tsw, o_iret, o_zret, o_lret, o_vret, o_getf, o_putfI, o_putfR, o_iald, o_alen, o_lald, o_zald, o_iast, o_last, o_zast, o_aald, o_aast, o_new, o_newa, o_callS, o_callI, o_callV, o_objInit, o_mmax, o_mmin, o_lk, o_up1, o_up2, o_cl1, o_cl2, o_keep, o_c2, List.getElem?_cons_zero, List.getElem?_cons_succ, List.drop_zero, List.drop_succ_cons, List.take_zero, List.take_succ_cons, List.reverse_cons, List.reverse_nil, List.nil_append, List.cons_append, List.map_cons, List.map_nil, List.sum_cons, List.sum_nil, Value.category, List.length_cons, List.length_nil, List.set_cons_zero, List.set_cons_succ, Option.toList_some, Option.toList_none, lv_args, ↓reduceIte, Nat.reduceAdd, Nat.reduceSub, Nat.reduceMul, Nat.reduceEqDiff, Nat.reduceLeDiff, Nat.reduceLT, reduceCtorEq, Bool.false_eq_true, and_true, true_and, and_self, and_false, false_and, Nat.zero_add, Nat.le_refl, Nat.zero_le, true_or, or_true, not_true_eq_false, not_false_eq_true, forall_const, false_implies, implies_true, true_implies, Int32.reduceAdd, Int32.reduceLE, Int32.reduceLT, Int32.reduceSub, Int32.reduceMul, Int32.reduceToNatClampNeg, bz_f]
    exact SX.mk hR (frX_r σ)
  | true =>
    rw [if_pos rfl]
    rw [Bool.and_eq_true] at h1
    obtain ⟨f, hf, rfl⟩ := wI_t (n := 20) (by decide) h1.1
    obtain ⟨i, hi, rfl⟩ := wI_t (n := 16) (by decide) h1.2
    rw [tN_nI (show f < 2 ^ 31 by omega), tN_nI (show i < 2 ^ 31 by omega)]
    simp only [k_X_peek_5, o_iconst, o_lconst, o_iload, o_lload, o_aload, o_istore, o_lstore, o_astore, o_iinc, o_iadd, o_isub, o_imul, o_iand, o_ior, o_idiv, o_irem, o_lor, o_lushr, o_lshl, o_i2l, o_l2i, o_lcmp, o_dup, o_pop, o_dup2, o_ifeq, o_ifne, o_iflt, o_ifge, o_ifgt, o_ifle, o_icmpeq, o_icmpne, o_icmplt, o_icmpge, o_icmpgt, o_icmple, o_jmp, o_tsw, o_iret, o_zret, o_lret, o_vret, o_getf, o_putfI, o_putfR, o_iald, o_alen, o_lald, o_zald, o_iast, o_last, o_zast, o_aald, o_aast, o_new, o_newa, o_callS, o_callI, o_callV, o_objInit, o_mmax, o_mmin, o_lk, o_up1, o_up2, o_cl1, o_cl2, o_keep, o_c2, List.getElem?_cons_zero, List.getElem?_cons_succ, List.drop_zero, List.drop_succ_cons, List.take_zero, List.take_succ_cons, List.reverse_cons, List.reverse_nil, List.nil_append, List.cons_append, List.map_cons, List.map_nil, List.sum_cons, List.sum_nil, Value.category, List.length_cons, List.length_nil, List.set_cons_zero, List.set_cons_succ, Option.toList_some, Option.toList_none, lv_args, ↓reduceIte, Nat.reduceAdd, Nat.reduceSub, Nat.reduceMul, Nat.reduceEqDiff, Nat.reduceLeDiff, Nat.reduceLT, reduceCtorEq, Bool.false_eq_true, and_true, true_and, and_self, and_false, false_and, Nat.zero_add, Nat.le_refl, Nat.zero_le, true_or, or_true, not_true_eq_false, not_false_eq_true, forall_const, false_implies, implies_true, true_implies, Int32.reduceAdd, Int32.reduceLE, Int32.reduceLT, Int32.reduceSub, Int32.reduceMul, Int32.reduceToNatClampNeg, og_36, oi_36, ef_36_4, ef_36_19, ef_36_20, ef_36_21, ef_36_22, ef_36_23, og_37, oi_37, oq_37, es_37, og_38, oi_38, oq_38, es_38, og_39, oi_39, oq_39, es_39, og_40, oi_40, oq_40, es_40, og_41, oi_41, es_41, og_42, oi_42, oq_42, es_42, og_43, oi_43, oq_43, es_43, og_44, oi_44, oq_44, es_44, og_45, oi_45, oq_45, es_45, og_46, oi_46, oq_46, es_46, og_47, oi_47, oq_47, es_47, og_48, oi_48, oq_48, es_48, og_49, oi_49, oq_49, es_49, og_50, oi_50, oq_50, es_50, og_51, oi_51, es_51, og_52, oi_52, oq_52, es_52, og_53, oi_53, oq_53, es_53, og_54, oi_54, oq_54, es_54, og_55, oi_55, oq_55, es_55, og_56, oi_56, oq_56, es_56, og_57, oi_57, oq_57, es_57, og_58, oi_58, oq_58, es_58, bz_t, ix16, nI_clamp (show f * 16 + i < 2 ^ 31 by omega), hR.1.2.1 (f * 16 + i) (by omega)]
    exact ⟨fun q => absurd q i01, fun _ => ⟨vp_in_nI (by omega) (by decide), SX.mk hR (frX_r σ)⟩⟩
theorem x_set (G : oG) (σ : oT) (m : MS) (hR : RM m σ) (p k v : Int32) : Mt G m_X_set [.ref 37, .int p, .int k, .int v] (enc σ) 0 0 (SX σ (sp_set m p k v)) := by
  refine Mt.of (by decide) (Nat.le_of_ble_eq_true rfl) (s_X_set_0 _ _ _ _ _ ?_)
  simp only [k_X_set_0, o_iconst, o_lconst, o_iload, o_lload, o_aload, o_istore, o_lstore, o_astore, o_iinc, o_iadd, o_isub, o_imul, o_iand, o_ior, o_idiv, o_irem, o_lor, o_lushr, o_lshl, o_i2l, o_l2i, o_lcmp, o_dup, o_pop, o_dup2, o_ifeq, o_ifne, o_iflt, o_ifge, o_ifgt, o_ifle, o_icmpeq, o_icmpne, o_icmplt, o_icmpge, o_icmpgt, o_icmple, o_jmp, o_tsw, o_iret, o_zret, o_lret, o_vret, o_getf, o_putfI, o_putfR, o_iald, o_alen, o_lald, o_zald, o_iast, o_last, o_zast, o_aald, o_aast, o_new, o_newa, o_callS, o_callI, o_callV, o_objInit, o_mmax, o_mmin, o_lk, o_up1, o_up2, o_cl1, o_cl2, o_keep, o_c2, List.getElem?_cons_zero, List.getElem?_cons_succ, List.drop_zero, List.drop_succ_cons, List.take_zero, List.take_succ_cons, List.reverse_cons, List.reverse_nil, List.nil_append, List.cons_append, List.map_cons, List.map_nil, List.sum_cons, List.sum_nil, Value.category, List.length_cons, List.length_nil, List.set_cons_zero, List.set_cons_succ, Option.toList_some, Option.toList_none, lv_args, ↓reduceIte, Nat.reduceAdd, Nat.reduceSub, Nat.reduceMul, Nat.reduceEqDiff, Nat.reduceLeDiff, Nat.reduceLT, reduceCtorEq, Bool.false_eq_true, and_true, true_and, and_self, and_false, false_and, Nat.zero_add, Nat.le_refl, Nat.zero_le, true_or, or_true, not_true_eq_false, not_false_eq_true, forall_const, false_implies, implies_true, true_implies, Int32.reduceAdd, Int32.reduceLE, Int32.reduceLT, Int32.reduceSub, Int32.reduceMul, Int32.reduceToNatClampNeg]
  refine o_use (c_XisProcess G (enc σ) p) ?_
  rintro w h' ⟨rfl, rfl⟩
  refine s_X_set_4 _ _ _ _ _ ?_
  unfold sp_set
  cases h1 : wI p 3 with
  | false =>
    simp only [k_X_set_4, o_iconst, o_lconst, o_iload, o_lload, o_aload, o_istore, o_lstore, o_astore, o_iinc, o_iadd, o_isub, o_imul, o_iand, o_ior, o_idiv, o_irem, o_lor, o_lushr, o_lshl, o_i2l, o_l2i, o_lcmp, o_dup, o_pop, o_dup2, o_ifeq, o_ifne, o_iflt, o_ifge, o_ifgt, o_ifle, o_icmpeq, o_icmpne, o_icmplt, o_icmpge, o_icmpgt, o_icmple, o_jmp, o_tsw, o_iret, o_zret, o_lret, o_vret, o_getf, o_putfI, o_putfR, o_iald, o_alen, o_lald, o_zald, o_iast, o_last, o_zast, o_aald, o_aast, o_new, o_newa, o_callS, o_callI, o_callV, o_objInit, o_mmax, o_mmin, o_lk, o_up1, o_up2, o_cl1, o_cl2, o_keep, o_c2, List.getElem?_cons_zero, List.getElem?_cons_succ, List.drop_zero, List.drop_succ_cons, List.take_zero, List.take_succ_cons, List.reverse_cons, List.reverse_nil, List.nil_append, List.cons_append, List.map_cons, List.map_nil, List.sum_cons, List.sum_nil, Value.category, List.length_cons, List.length_nil, List.set_cons_zero, List.set_cons_succ, Option.toList_some, Option.toList_none, lv_args, ↓reduceIte, Nat.reduceAdd, Nat.reduceSub, Nat.reduceMul, Nat.reduceEqDiff, Nat.reduceLeDiff, Nat.reduceLT, reduceCtorEq, Bool.false_eq_true, and_true, true_and, and_self, and_false, false_and, Nat.zero_add, Nat.le_refl, Nat.zero_le, true_or, or_true, not_true_eq_false, not_false_eq_true, forall_const, false_implies, implies_true, true_implies, Int32.reduceAdd, Int32.reduceLE, Int32.reduceLT, Int32.reduceSub, Int32.reduceMul, Int32.reduceToNatClampNeg, bz_f, Bool.false_and]
    exact SX.mk hR (frX_r σ)
  | true =>
    rw [Bool.true_and]
    obtain ⟨p, hp, rfl⟩ := wI_t (n := 3) (by decide) h1
    simp only [k_X_set_4, o_iconst, o_lconst, o_iload, o_lload, o_aload, o_istore, o_lstore, o_astore, o_iinc, o_iadd, o_isub, o_imul, o_iand, o_ior, o_idiv, o_irem, o_lor, o_lushr, o_lshl, o_i2l, o_l2i, o_lcmp, o_dup, o_pop, o_dup2, o_ifeq, o_ifne, o_iflt, o_ifge, o_ifgt, o_ifle, o_icmpeq, o_icmpne, o_icmplt, o_icmpge, o_icmpgt, o_icmple, o_jmp, o_tsw, o_iret, o_zret, o_lret, o_vret, o_getf, o_putfI, o_putfR, o_iald, o_alen, o_lald, o_zald, o_iast, o_last, o_zast, o_aald, o_aast, o_new, o_newa, o_callS, o_callI, o_callV, o_objInit, o_mmax, o_mmin, o_lk, o_up1, o_up2, o_cl1, o_cl2, o_keep, o_c2, List.getElem?_cons_zero, List.getElem?_cons_succ, List.drop_zero, List.drop_succ_cons, List.take_zero, List.take_succ_cons, List.reverse_cons, List.reverse_nil, List.nil_append, List.cons_append, List.map_cons, List.map_nil, List.sum_cons, List.sum_nil, Value.category, List.length_cons, List.length_nil, List.set_cons_zero, List.set_cons_succ, Option.toList_some, Option.toList_none, lv_args, ↓reduceIte, Nat.reduceAdd, Nat.reduceSub, Nat.reduceMul, Nat.reduceEqDiff, Nat.reduceLeDiff, Nat.reduceLT, reduceCtorEq, Bool.false_eq_true, and_true, true_and, and_self, and_false, false_and, Nat.zero_add, Nat.le_refl, Nat.zero_le, true_or, or_true, not_true_eq_false, not_false_eq_true, forall_const, false_implies, implies_true, true_implies, Int32.reduceAdd, Int32.reduceLE, Int32.reduceLT, Int32.reduceSub, Int32.reduceMul, Int32.reduceToNatClampNeg, og_36, oi_36, ef_36_4, ef_36_19, ef_36_20, ef_36_21, ef_36_22, ef_36_23, og_37, oi_37, oq_37, es_37, og_38, oi_38, oq_38, es_38, og_39, oi_39, oq_39, es_39, og_40, oi_40, oq_40, es_40, og_41, oi_41, es_41, og_42, oi_42, oq_42, es_42, og_43, oi_43, oq_43, es_43, og_44, oi_44, oq_44, es_44, og_45, oi_45, oq_45, es_45, og_46, oi_46, oq_46, es_46, og_47, oi_47, oq_47, es_47, og_48, oi_48, oq_48, es_48, og_49, oi_49, oq_49, es_49, og_50, oi_50, oq_50, es_50, og_51, oi_51, es_51, og_52, oi_52, oq_52, es_52, og_53, oi_53, oq_53, es_53, og_54, oi_54, oq_54, es_54, og_55, oi_55, oq_55, es_55, og_56, oi_56, oq_56, es_56, og_57, oi_57, oq_57, es_57, og_58, oi_58, oq_58, es_58, bz_t]
    refine ⟨fun q => absurd q i01, fun _ => ⟨fun q1 => ?_, fun q1 => ⟨fun q2 => ?_, fun q2 => ?_⟩⟩⟩
    · rw [wI_f1 q1, if_neg (by decide)]
      exact SX.mk hR (frX_r σ)
    · have hw : wI k 3 = true := wI_t3 (n := 2) (by decide) q1 q2
      rw [if_pos hw]
      obtain ⟨k, hk, rfl⟩ := wI_t (n := 3) (by decide) hw
      rw [tN_nI (show p < 2 ^ 31 by omega), tN_nI (show k < 2 ^ 31 by omega), ix3, nI_clamp (show p * 3 + k < 2 ^ 31 by omega)]
      exact ⟨vp_in_nI (by omega) (by decide), SX.mk (RM_e hR (upd_c hR.1.2.2.1)) (frX_sI (frX_r σ) (by decide))⟩
    · rw [show wI k 3 = false from wI_f3 (n := 2) (by decide) q2, if_neg (by decide)]
      exact SX.mk hR (frX_r σ)
theorem x_register (G : oG) (σ : oT) (m : MS) (hR : RM m σ) (p k : Int32) : Mt G m_X_register [.ref 37, .int p, .int k] (enc σ) 0 0 (SX σ (sp_register m p k)) := by
  refine Mt.of (by decide) (Nat.le_of_ble_eq_true rfl) (s_X_register_0 _ _ _ _ _ ?_)
  simp only [k_X_register_0, o_iconst, o_lconst, o_iload, o_lload, o_aload, o_istore, o_lstore, o_astore, o_iinc, o_iadd, o_isub, o_imul, o_iand, o_ior, o_idiv, o_irem, o_lor, o_lushr, o_lshl, o_i2l, o_l2i, o_lcmp, o_dup, o_pop, o_dup2, o_ifeq, o_ifne, o_iflt, o_ifge, o_ifgt, o_ifle, o_icmpeq, o_icmpne, o_icmplt, o_icmpge, o_icmpgt, o_icmple, o_jmp, o_tsw, o_iret, o_zret, o_lret, o_vret, o_getf, o_putfI, o_putfR, o_iald, o_alen, o_lald, o_zald, o_iast, o_last, o_zast, o_aald, o_aast, o_new, o_newa, o_callS, o_callI, o_callV, o_objInit, o_mmax, o_mmin, o_lk, o_up1, o_up2, o_cl1, o_cl2, o_keep, o_c2, List.getElem?_cons_zero, List.getElem?_cons_succ, List.drop_zero, List.drop_succ_cons, List.take_zero, List.take_succ_cons, List.reverse_cons, List.reverse_nil, List.nil_append, List.cons_append, List.map_cons, List.map_nil, List.sum_cons, List.sum_nil, Value.category, List.length_cons, List.length_nil, List.set_cons_zero, List.set_cons_succ, Option.toList_some, Option.toList_none, lv_args, ↓reduceIte, Nat.reduceAdd, Nat.reduceSub, Nat.reduceMul, Nat.reduceEqDiff, Nat.reduceLeDiff, Nat.reduceLT, reduceCtorEq, Bool.false_eq_true, and_true, true_and, and_self, and_false, false_and, Nat.zero_add, Nat.le_refl, Nat.zero_le, true_or, or_true, not_true_eq_false, not_false_eq_true, forall_const, false_implies, implies_true, true_implies, Int32.reduceAdd, Int32.reduceLE, Int32.reduceLT, Int32.reduceSub, Int32.reduceMul, Int32.reduceToNatClampNeg]
  refine o_use (c_XisProcess G (enc σ) p) ?_
  rintro w h' ⟨rfl, rfl⟩
  refine s_X_register_4 _ _ _ _ _ ?_
  unfold sp_register
  cases h1 : wI p 3 with
  | false =>
    simp only [k_X_register_4, o_iconst, o_lconst, o_iload, o_lload, o_aload, o_istore, o_lstore, o_astore, o_iinc, o_iadd, o_isub, o_imul, o_iand, o_ior, o_idiv, o_irem, o_lor, o_lushr, o_lshl, o_i2l, o_l2i, o_lcmp, o_dup, o_pop, o_dup2, o_ifeq, o_ifne, o_iflt, o_ifge, o_ifgt, o_ifle, o_icmpeq, o_icmpne, o_icmplt, o_icmpge, o_icmpgt, o_icmple, o_jmp, o_tsw, o_iret, o_zret, o_lret, o_vret, o_getf, o_putfI, o_putfR, o_iald, o_alen, o_lald, o_zald, o_iast, o_last, o_zast, o_aald, o_aast, o_new, o_newa, o_callS, o_callI, o_callV, o_objInit, o_mmax, o_mmin, o_lk, o_up1, o_up2, o_cl1, o_cl2, o_keep, o_c2, List.getElem?_cons_zero, List.getElem?_cons_succ, List.drop_zero, List.drop_succ_cons, List.take_zero, List.take_succ_cons, List.reverse_cons, List.reverse_nil, List.nil_append, List.cons_append, List.map_cons, List.map_nil, List.sum_cons, List.sum_nil, Value.category, List.length_cons, List.length_nil, List.set_cons_zero, List.set_cons_succ, Option.toList_some, Option.toList_none, lv_args, ↓reduceIte, Nat.reduceAdd, Nat.reduceSub, Nat.reduceMul, Nat.reduceEqDiff, Nat.reduceLeDiff, Nat.reduceLT, reduceCtorEq, Bool.false_eq_true, and_true, true_and, and_self, and_false, false_and, Nat.zero_add, Nat.le_refl, Nat.zero_le, true_or, or_true, not_true_eq_false, not_false_eq_true, forall_const, false_implies, implies_true, true_implies, Int32.reduceAdd, Int32.reduceLE, Int32.reduceLT, Int32.reduceSub, Int32.reduceMul, Int32.reduceToNatClampNeg, bz_f, Bool.false_and]
    exact SX.mk hR (frX_r σ)
  | true =>
    rw [Bool.true_and]
    obtain ⟨p, hp, rfl⟩ := wI_t (n := 3) (by decide) h1
    simp only [k_X_register_4, o_iconst, o_lconst, o_iload, o_lload, o_aload, o_istore, o_lstore, o_astore, o_iinc, o_iadd, o_isub, o_imul, o_iand, o_ior, o_idiv, o_irem, o_lor, o_lushr, o_lshl, o_i2l, o_l2i, o_lcmp, o_dup, o_pop, o_dup2, o_ifeq, o_ifne, o_iflt, o_ifge, o_ifgt, o_ifle, o_icmpeq, o_icmpne, o_icmplt, o_icmpge, o_icmpgt, o_icmple, o_jmp, o_tsw, o_iret, o_zret, o_lret, o_vret, o_getf, o_putfI, o_putfR, o_iald, o_alen, o_lald, o_zald, o_iast, o_last, o_zast, o_aald, o_aast, o_new, o_newa, o_callS, o_callI, o_callV, o_objInit, o_mmax, o_mmin, o_lk, o_up1, o_up2, o_cl1, o_cl2, o_keep, o_c2, List.getElem?_cons_zero, List.getElem?_cons_succ, List.drop_zero, List.drop_succ_cons, List.take_zero, List.take_succ_cons, List.reverse_cons, List.reverse_nil, List.nil_append, List.cons_append, List.map_cons, List.map_nil, List.sum_cons, List.sum_nil, Value.category, List.length_cons, List.length_nil, List.set_cons_zero, List.set_cons_succ, Option.toList_some, Option.toList_none, lv_args, ↓reduceIte, Nat.reduceAdd, Nat.reduceSub, Nat.reduceMul, Nat.reduceEqDiff, Nat.reduceLeDiff, Nat.reduceLT, reduceCtorEq, Bool.false_eq_true, and_true, true_and, and_self, and_false, false_and, Nat.zero_add, Nat.le_refl, Nat.zero_le, true_or, or_true, not_true_eq_false, not_false_eq_true, forall_const, false_implies, implies_true, true_implies, Int32.reduceAdd, Int32.reduceLE, Int32.reduceLT, Int32.reduceSub, Int32.reduceMul, Int32.reduceToNatClampNeg, og_36, oi_36, ef_36_4, ef_36_19, ef_36_20, ef_36_21, ef_36_22, ef_36_23, og_37, oi_37, oq_37, es_37, og_38, oi_38, oq_38, es_38, og_39, oi_39, oq_39, es_39, og_40, oi_40, oq_40, es_40, og_41, oi_41, es_41, og_42, oi_42, oq_42, es_42, og_43, oi_43, oq_43, es_43, og_44, oi_44, oq_44, es_44, og_45, oi_45, oq_45, es_45, og_46, oi_46, oq_46, es_46, og_47, oi_47, oq_47, es_47, og_48, oi_48, oq_48, es_48, og_49, oi_49, oq_49, es_49, og_50, oi_50, oq_50, es_50, og_51, oi_51, es_51, og_52, oi_52, oq_52, es_52, og_53, oi_53, oq_53, es_53, og_54, oi_54, oq_54, es_54, og_55, oi_55, oq_55, es_55, og_56, oi_56, oq_56, es_56, og_57, oi_57, oq_57, es_57, og_58, oi_58, oq_58, es_58, bz_t]
    refine ⟨fun q => absurd q i01, fun _ => ⟨fun q1 => ?_, fun q1 => ⟨fun q2 => ?_, fun q2 => ?_⟩⟩⟩
    · rw [wI_f1 q1, if_neg (by decide)]
      exact SX.mk hR (frX_r σ)
    · rw [show wI k 3 = false from wI_f2 (n := 2) (by decide) q2, if_neg (by decide)]
      exact SX.mk hR (frX_r σ)
    · have hw : wI k 3 = true := wI_t2 (n := 2) (by decide) q1 q2
      rw [if_pos hw]
      obtain ⟨k, hk, rfl⟩ := wI_t (n := 3) (by decide) hw
      rw [tN_nI (show p < 2 ^ 31 by omega), tN_nI (show k < 2 ^ 31 by omega), ix3, nI_clamp (show p * 3 + k < 2 ^ 31 by omega), hR.1.2.2.1 _ (by omega)]
      exact ⟨vp_in_nI (by omega) (by decide), SX.mk hR (frX_r σ)⟩
theorem x_traps (G : oG) (σ : oT) (m : MS) (hR : RM m σ) : Mt G m_X_traps [.ref 37] (enc σ) 0 0 (SX σ (q_trp m, m)) := by
  refine Mt.of (by decide) (Nat.le_of_ble_eq_true rfl) (s_X_traps_0 _ _ _ _ _ ?_)
  simp only [k_X_traps_0, o_iconst, o_lconst, o_iload, o_lload, o_aload, o_istore, o_lstore, o_astore, o_iinc, o_iadd, o_isub, o_imul, o_iand, o_ior, o_idiv, o_irem, o_lor, o_lushr, o_lshl, o_i2l, o_l2i, o_lcmp, o_dup, o_pop, o_dup2, o_ifeq, o_ifne, o_iflt, o_ifge, o_ifgt, o_ifle, o_icmpeq, o_icmpne, o_icmplt, o_icmpge, o_icmpgt, o_icmple, o_jmp, o_tsw, o_iret, o_zret, o_lret, o_vret, o_getf, o_putfI, o_putfR, o_iald, o_alen, o_lald, o_zald, o_iast, o_last, o_zast, o_aald, o_aast, o_new, o_newa, o_callS, o_callI, o_callV, o_objInit, o_mmax, o_mmin, o_lk, o_up1, o_up2, o_cl1, o_cl2, o_keep, o_c2, List.getElem?_cons_zero, List.getElem?_cons_succ, List.drop_zero, List.drop_succ_cons, List.take_zero, List.take_succ_cons, List.reverse_cons, List.reverse_nil, List.nil_append, List.cons_append, List.map_cons, List.map_nil, List.sum_cons, List.sum_nil, Value.category, List.length_cons, List.length_nil, List.set_cons_zero, List.set_cons_succ, Option.toList_some, Option.toList_none, lv_args, ↓reduceIte, Nat.reduceAdd, Nat.reduceSub, Nat.reduceMul, Nat.reduceEqDiff, Nat.reduceLeDiff, Nat.reduceLT, reduceCtorEq, Bool.false_eq_true, and_true, true_and, and_self, and_false, false_and, Nat.zero_add, Nat.le_refl, Nat.zero_le, true_or, or_true, not_true_eq_false, not_false_eq_true, forall_const, false_implies, implies_true, true_implies, Int32.reduceAdd, Int32.reduceLE, Int32.reduceLT, Int32.reduceSub, Int32.reduceMul, Int32.reduceToNatClampNeg, og_36, oi_36, ef_36_4, ef_36_19, ef_36_20, ef_36_21, ef_36_22, ef_36_23, og_37, oi_37, oq_37, es_37, og_38, oi_38, oq_38, es_38, og_39, oi_39, oq_39, es_39, og_40, oi_40, oq_40, es_40, og_41, oi_41, es_41, og_42, oi_42, oq_42, es_42, og_43, oi_43, oq_43, es_43, og_44, oi_44, oq_44, es_44, og_45, oi_45, oq_45, es_45, og_46, oi_46, oq_46, es_46, og_47, oi_47, oq_47, es_47, og_48, oi_48, oq_48, es_48, og_49, oi_49, oq_49, es_49, og_50, oi_50, oq_50, es_50, og_51, oi_51, es_51, og_52, oi_52, oq_52, es_52, og_53, oi_53, oq_53, es_53, og_54, oi_54, oq_54, es_54, og_55, oi_55, oq_55, es_55, og_56, oi_56, oq_56, es_56, og_57, oi_57, oq_57, es_57, og_58, oi_58, oq_58, es_58, hR.1.2.2.2.1]
  exact SX.mk hR (frX_r σ)
