/-! The instructions of the pure machine, each with the row that says it is the machine's. -/
def o_c2 (v : Value) : Bool := match v with
  | .long _ => true
  | .double _ => true
  | _ => false
theorem o_c2_1 {v : Value} (h : o_c2 v = false) : v.category = 1 := by cases v <;> first | rfl | simp [o_c2] at h
theorem o_c2_t {v : Value} (h : o_c2 v = true) : v.category = 2 := by cases v <;> first | rfl | simp [o_c2] at h
theorem o_c2_r (G : oG) (v : Value) : o_c2 (o_rl G v) = o_c2 v := by cases v <;> rfl
def o_lk : oL → Nat → Option Value
  | [], _ => none
  | (j, v) :: r, i => if j = i then some v else o_lk r i
def o_cl1 (i : Nat) : oL → oL
  | [] => []
  | (j, w) :: r => if j = i then o_cl1 i r else if j + 1 = i ∧ o_c2 w = true then o_cl1 i r else (j, w) :: o_cl1 i r
def o_up1 (i : Nat) (v : Value) : oL → oL
  | [] => [(i, v)]
  | (j, w) :: r => if j = i then (i, v) :: o_cl1 i r else if j + 1 = i ∧ o_c2 w = true then o_up1 i v r else (j, w) :: o_up1 i v r
def o_cl2 (i : Nat) : oL → oL
  | [] => []
  | (j, w) :: r => if j = i then o_cl2 i r else if j = i + 1 then o_cl2 i r else if j + 1 = i ∧ o_c2 w = true then o_cl2 i r else (j, w) :: o_cl2 i r
def o_up2 (i : Nat) (v : Value) : oL → oL
  | [] => [(i, v)]
  | (j, w) :: r => if j = i then (i, v) :: o_cl2 i r else if j = i + 1 then o_up2 i v r else if j + 1 = i ∧ o_c2 w = true then o_up2 i v r else (j, w) :: o_up2 i v r
def o_keep (ks : List Nat) (L : oL) : oL := match ks with
  | [] => []
  | k :: r => match o_lk L k with
    | some v => (k, v) :: o_keep r L
    | none => o_keep r L
theorem o_lk_mem {L : oL} {i : Nat} {v : Value} (h : o_lk L i = some v) : (i, v) ∈ L := by
  induction L with
  | nil => simp [o_lk] at h
  | cons q r ih =>
    obtain ⟨j, w⟩ := q
    simp only [o_lk] at h
    split at h
    · rename_i e
      subst e
      cases h
      exact List.mem_cons_self
    · exact List.mem_cons_of_mem _ (ih h)
theorem o_at {G : oG} {ls : Array Slot} {n : Nat} {L : oL} (hl : lv_has ls n (o_rL G L)) {i : Nat} {v : Value} (h : o_lk L i = some v) : ls[i]? = some (.val (o_rl G v)) :=
  hl.2.2 (i, o_rl G v) (List.mem_map.mpr ⟨(i, v), o_lk_mem h, rfl⟩)
theorem o_has_sub {G : oG} {ls : Array Slot} {n : Nat} {L L' : oL} (hl : lv_has ls n (o_rL G L)) (h : ∀ q ∈ L', q ∈ L) : lv_has ls n (o_rL G L') := by
  refine ⟨hl.1, hl.2.1, fun q hq => ?_⟩
  obtain ⟨x, hx, rfl⟩ := List.mem_map.mp hq
  exact hl.2.2 _ (List.mem_map.mpr ⟨x, h x hx, rfl⟩)
theorem o_keep_sub (ks : List Nat) (L : oL) : ∀ q ∈ o_keep ks L, q ∈ L := by
  induction ks with
  | nil => intro q hq; simp [o_keep] at hq
  | cons k r ih =>
    intro q hq
    unfold o_keep at hq
    split at hq
    · rename_i v hv
      rcases List.mem_cons.mp hq with h | h
      · rw [h]; exact o_lk_mem hv
      · exact ih q h
    · exact ih q hq
theorem o_cl1_mem {i : Nat} {L : oL} {q : Nat × Value} (h : q ∈ o_cl1 i L) : q ∈ L ∧ ¬ q.1 = i ∧ ¬ (q.1 + 1 = i ∧ o_c2 q.2 = true) := by
  induction L with
  | nil => simp [o_cl1] at h
  | cons x r ih =>
    obtain ⟨j, w⟩ := x
    simp only [o_cl1] at h
    split at h
    · exact ⟨List.mem_cons_of_mem _ (ih h).1, (ih h).2⟩
    · split at h
      · exact ⟨List.mem_cons_of_mem _ (ih h).1, (ih h).2⟩
      · rename_i h1 h2
        rcases List.mem_cons.mp h with e | e
        · subst e; exact ⟨List.mem_cons_self, h1, h2⟩
        · exact ⟨List.mem_cons_of_mem _ (ih e).1, (ih e).2⟩
theorem o_up1_mem {i : Nat} {v : Value} {L : oL} {q : Nat × Value} (h : q ∈ o_up1 i v L) : q = (i, v) ∨ (q ∈ L ∧ ¬ q.1 = i ∧ ¬ (q.1 + 1 = i ∧ o_c2 q.2 = true)) := by
  induction L with
  | nil => simp [o_up1] at h; exact Or.inl h
  | cons x r ih =>
    obtain ⟨j, w⟩ := x
    simp only [o_up1] at h
    split at h
    · rcases List.mem_cons.mp h with e | e
      · exact Or.inl e
      · exact Or.inr ⟨List.mem_cons_of_mem _ (o_cl1_mem e).1, (o_cl1_mem e).2⟩
    · split at h
      · rcases ih h with e | e
        · exact Or.inl e
        · exact Or.inr ⟨List.mem_cons_of_mem _ e.1, e.2⟩
      · rename_i h1 h2
        rcases List.mem_cons.mp h with e | e
        · subst e; exact Or.inr ⟨List.mem_cons_self, h1, h2⟩
        · rcases ih e with e | e
          · exact Or.inl e
          · exact Or.inr ⟨List.mem_cons_of_mem _ e.1, e.2⟩
theorem o_cl2_mem {i : Nat} {L : oL} {q : Nat × Value} (h : q ∈ o_cl2 i L) : q ∈ L ∧ ¬ q.1 = i ∧ ¬ q.1 = i + 1 ∧ ¬ (q.1 + 1 = i ∧ o_c2 q.2 = true) := by
  induction L with
  | nil => simp [o_cl2] at h
  | cons x r ih =>
    obtain ⟨j, w⟩ := x
    simp only [o_cl2] at h
    split at h
    · exact ⟨List.mem_cons_of_mem _ (ih h).1, (ih h).2⟩
    · split at h
      · exact ⟨List.mem_cons_of_mem _ (ih h).1, (ih h).2⟩
      · split at h
        · exact ⟨List.mem_cons_of_mem _ (ih h).1, (ih h).2⟩
        · rename_i h1 h2 h3
          rcases List.mem_cons.mp h with e | e
          · subst e; exact ⟨List.mem_cons_self, h1, h2, h3⟩
          · exact ⟨List.mem_cons_of_mem _ (ih e).1, (ih e).2⟩
theorem o_up2_mem {i : Nat} {v : Value} {L : oL} {q : Nat × Value} (h : q ∈ o_up2 i v L) : q = (i, v) ∨ (q ∈ L ∧ ¬ q.1 = i ∧ ¬ q.1 = i + 1 ∧ ¬ (q.1 + 1 = i ∧ o_c2 q.2 = true)) := by
  induction L with
  | nil => simp [o_up2] at h; exact Or.inl h
  | cons x r ih =>
    obtain ⟨j, w⟩ := x
    simp only [o_up2] at h
    split at h
    · rcases List.mem_cons.mp h with e | e
      · exact Or.inl e
      · exact Or.inr ⟨List.mem_cons_of_mem _ (o_cl2_mem e).1, (o_cl2_mem e).2⟩
    · split at h
      · rcases ih h with e | e
        · exact Or.inl e
        · exact Or.inr ⟨List.mem_cons_of_mem _ e.1, e.2⟩
      · split at h
        · rcases ih h with e | e
          · exact Or.inl e
          · exact Or.inr ⟨List.mem_cons_of_mem _ e.1, e.2⟩
        · rename_i h1 h2 h3
          rcases List.mem_cons.mp h with e | e
          · subst e; exact Or.inr ⟨List.mem_cons_self, h1, h2, h3⟩
          · rcases ih e with e | e
            · exact Or.inl e
            · exact Or.inr ⟨List.mem_cons_of_mem _ e.1, e.2⟩
theorem o_has1 {G : oG} {ls : Array Slot} {n i : Nat} {v : Value} {L : oL} (hl : lv_has ls n ((i, o_rl G v) :: (o_rL G L).filter (fun q => !(q.1 == i) && !(q.1 + 1 == i && q.2.category == 2)))) : lv_has ls n (o_rL G (o_up1 i v L)) := by
  refine ⟨hl.1, hl.2.1, fun q hq => ?_⟩
  obtain ⟨x, hx, rfl⟩ := List.mem_map.mp hq
  rcases o_up1_mem hx with e | ⟨e1, e2, e3⟩
  · subst e; exact hl.2.2 _ List.mem_cons_self
  · refine hl.2.2 _ (List.mem_cons_of_mem _ (List.mem_filter.mpr ⟨List.mem_map.mpr ⟨x, e1, rfl⟩, ?_⟩))
    have hc : x.1 + 1 = i → ¬ x.2.category = 2 := fun h5 h6 => e3 ⟨h5, by
      cases hx2 : x.2 <;> rw [hx2] at h6 <;> first | rfl | (simp [Value.category] at h6)⟩
    simp only [o_cat, Bool.and_eq_true, Bool.not_eq_true', beq_eq_false_iff_ne, Bool.and_eq_false_iff, ne_eq]
    refine ⟨e2, ?_⟩
    by_cases h5 : x.1 + 1 = i
    · exact Or.inr (hc h5)
    · exact Or.inl h5
theorem o_has2 {G : oG} {ls : Array Slot} {n i : Nat} {v : Value} {L : oL} (hl : lv_has ls n ((i, o_rl G v) :: (o_rL G L).filter (fun q => !(q.1 == i) && (!(q.1 == i + 1) && !(q.1 + 1 == i && q.2.category == 2))))) : lv_has ls n (o_rL G (o_up2 i v L)) := by
  refine ⟨hl.1, hl.2.1, fun q hq => ?_⟩
  obtain ⟨x, hx, rfl⟩ := List.mem_map.mp hq
  rcases o_up2_mem hx with e | ⟨e1, e2, e4, e3⟩
  · subst e; exact hl.2.2 _ List.mem_cons_self
  · refine hl.2.2 _ (List.mem_cons_of_mem _ (List.mem_filter.mpr ⟨List.mem_map.mpr ⟨x, e1, rfl⟩, ?_⟩))
    have hc : x.1 + 1 = i → ¬ x.2.category = 2 := fun h5 h6 => e3 ⟨h5, by
      cases hx2 : x.2 <;> rw [hx2] at h6 <;> first | rfl | (simp [Value.category] at h6)⟩
    simp only [o_cat, Bool.and_eq_true, Bool.not_eq_true', beq_eq_false_iff_ne, Bool.and_eq_false_iff, ne_eq]
    refine ⟨e2, e4, ?_⟩
    by_cases h5 : x.1 + 1 = i
    · exact Or.inr (hc h5)
    · exact Or.inl h5
section OI
variable {G : oG} {M : oM} {Post : oP} {pc : Nat} {K Kt Kf : oK}

def o_iconst (v : Int32) (K : oK) : oK := fun c s L st h => K c s L (.int v :: st) h
def o_lconst (v : Int64) (K : oK) : oK := fun c s L st h => K c s L (.long v :: st) h
theorem so_iconst {n : Int} {v : Int32} (hd : decode (mC M) pc = .ok (.iconst n, 1)) (hv : Int32.ofInt n = v) (k : oS G M Post (pc + 1) K) : oS G M Post pc (o_iconst v K) := by
  intro c s L st h hk p e R s0 m args below meth cd Q H locs cells slots ls hE hW hc hs hl
  exact lv_iconst hE.1 hE.2.1 hd hv (k _ _ _ _ _ hk p e R s0 m args below meth cd Q H locs cells slots ls hE hW hc hs hl)
theorem so_bipush {n : Int} {v : Int32} (hd : decode (mC M) pc = .ok (.bipush n, 2)) (hv : (Int8.ofInt n).toInt32 = v) (k : oS G M Post (pc + 2) K) : oS G M Post pc (o_iconst v K) := by
  intro c s L st h hk p e R s0 m args below meth cd Q H locs cells slots ls hE hW hc hs hl
  exact lv_bipush hE.1 hE.2.1 hd hv (k _ _ _ _ _ hk p e R s0 m args below meth cd Q H locs cells slots ls hE hW hc hs hl)
theorem so_sipush {n : Int} {v : Int32} (hd : decode (mC M) pc = .ok (.sipush n, 3)) (hv : (Int16.ofInt n).toInt32 = v) (k : oS G M Post (pc + 3) K) : oS G M Post pc (o_iconst v K) := by
  intro c s L st h hk p e R s0 m args below meth cd Q H locs cells slots ls hE hW hc hs hl
  exact lv_sipush hE.1 hE.2.1 hd hv (k _ _ _ _ _ hk p e R s0 m args below meth cd Q H locs cells slots ls hE hW hc hs hl)
theorem so_lconst {n : Fin 2} {v : Int64} (hd : decode (mC M) pc = .ok (.lconst n, 1)) (hv : Int64.ofNat (n : Nat) = v) (k : oS G M Post (pc + 1) K) : oS G M Post pc (o_lconst v K) := by
  intro c s L st h hk p e R s0 m args below meth cd Q H locs cells slots ls hE hW hc hs hl
  exact lv_lconst hE.1 hE.2.1 hd hv (k _ _ _ _ _ hk p e R s0 m args below meth cd Q H locs cells slots ls hE hW hc hs hl)
theorem so_ldc {index : Nat} {v : Int32} (hw : Cond.constant (mY M).cls index v ∈ o_TT) (hd : decode (mC M) pc = .ok (.ldc index, 2)) (k : oS G M Post (pc + 2) K) : oS G M Post pc (o_iconst v K) := by
  intro c s L st h hk p e R s0 m args below meth cd Q H locs cells slots ls hE hW hc hs hl
  exact lv_ldc hE.1 hE.2.1 hE.2.2.2.1 (hE.2.2.2.2.2.1 _ hw) hd (k _ _ _ _ _ hk p e R s0 m args below meth cd Q H locs cells slots ls hE hW hc hs hl)
theorem so_ldc2 {index : Nat} {v : Int64} (hw : Cond.constantLong (mY M).cls index v ∈ o_TT) (hd : decode (mC M) pc = .ok (.ldc2_w index, 3)) (k : oS G M Post (pc + 3) K) : oS G M Post pc (o_lconst v K) := by
  intro c s L st h hk p e R s0 m args below meth cd Q H locs cells slots ls hE hW hc hs hl
  exact lv_ldc2 hE.1 hE.2.1 hE.2.2.2.1 (hE.2.2.2.2.2.1 _ hw) hd (k _ _ _ _ _ hk p e R s0 m args below meth cd Q H locs cells slots ls hE hW hc hs hl)
def o_iload (n : Nat) (K : oK) : oK := fun c s L st h => match o_lk L n with
  | some (.int x) => K c s L (.int x :: st) h
  | _ => False
theorem so_iload {n : Nat} (hd : decode (mC M) pc = .ok (.iload n, 2)) (k : oS G M Post (pc + 2) K) : oS G M Post pc (o_iload n K) := by
  intro c s L st h hk
  unfold o_iload at hk
  split at hk
  · rename_i x hx
    intro p e R s0 m args below meth cd Q H locs cells slots ls hE hW hc hs hl
    exact lv_iload hE.1 hE.2.1 hd (o_at hl hx) (k _ _ _ _ _ hk p e R s0 m args below meth cd Q H locs cells slots ls hE hW hc hs hl)
  · exact hk.elim
theorem so_iload_n {n : Nat} {j : Fin 4} (hd : decode (mC M) pc = .ok (.iload_n j, 1)) (hj : (j : Nat) = n) (k : oS G M Post (pc + 1) K) : oS G M Post pc (o_iload n K) := by
  intro c s L st h hk
  unfold o_iload at hk
  split at hk
  · rename_i x hx
    intro p e R s0 m args below meth cd Q H locs cells slots ls hE hW hc hs hl
    exact lv_iload_n hE.1 hE.2.1 hd hj (o_at hl hx) (k _ _ _ _ _ hk p e R s0 m args below meth cd Q H locs cells slots ls hE hW hc hs hl)
  · exact hk.elim
def o_lload (n : Nat) (K : oK) : oK := fun c s L st h => match o_lk L n with
  | some (.long x) => K c s L (.long x :: st) h
  | _ => False
theorem so_lload {n : Nat} (hd : decode (mC M) pc = .ok (.lload n, 2)) (k : oS G M Post (pc + 2) K) : oS G M Post pc (o_lload n K) := by
  intro c s L st h hk
  unfold o_lload at hk
  split at hk
  · rename_i x hx
    intro p e R s0 m args below meth cd Q H locs cells slots ls hE hW hc hs hl
    exact lv_lload hE.1 hE.2.1 hd (o_at hl hx) (k _ _ _ _ _ hk p e R s0 m args below meth cd Q H locs cells slots ls hE hW hc hs hl)
  · exact hk.elim
theorem so_lload_n {n : Nat} {j : Fin 4} (hd : decode (mC M) pc = .ok (.lload_n j, 1)) (hj : (j : Nat) = n) (k : oS G M Post (pc + 1) K) : oS G M Post pc (o_lload n K) := by
  intro c s L st h hk
  unfold o_lload at hk
  split at hk
  · rename_i x hx
    intro p e R s0 m args below meth cd Q H locs cells slots ls hE hW hc hs hl
    exact lv_lload_n hE.1 hE.2.1 hd hj (o_at hl hx) (k _ _ _ _ _ hk p e R s0 m args below meth cd Q H locs cells slots ls hE hW hc hs hl)
  · exact hk.elim
def o_aload (n : Nat) (K : oK) : oK := fun c s L st h => match o_lk L n with
  | some (.ref x) => K c s L (.ref x :: st) h
  | _ => False
theorem so_aload {n : Nat} (hd : decode (mC M) pc = .ok (.aload n, 2)) (k : oS G M Post (pc + 2) K) : oS G M Post pc (o_aload n K) := by
  intro c s L st h hk
  unfold o_aload at hk
  split at hk
  · rename_i x hx
    intro p e R s0 m args below meth cd Q H locs cells slots ls hE hW hc hs hl
    exact lv_aload hE.1 hE.2.1 hd (o_at hl hx) (k _ _ _ _ _ hk p e R s0 m args below meth cd Q H locs cells slots ls hE hW hc hs hl)
  · exact hk.elim
theorem so_aload_n {n : Nat} {j : Fin 4} (hd : decode (mC M) pc = .ok (.aload_n j, 1)) (hj : (j : Nat) = n) (k : oS G M Post (pc + 1) K) : oS G M Post pc (o_aload n K) := by
  intro c s L st h hk
  unfold o_aload at hk
  split at hk
  · rename_i x hx
    intro p e R s0 m args below meth cd Q H locs cells slots ls hE hW hc hs hl
    exact lv_aload_n hE.1 hE.2.1 hd hj (o_at hl hx) (k _ _ _ _ _ hk p e R s0 m args below meth cd Q H locs cells slots ls hE hW hc hs hl)
  · exact hk.elim
def o_istore (n : Nat) (K : oK) : oK := fun c s L st h => match st with
  | .int x :: r => K c s (o_up1 n (.int x) L) r h
  | _ => False
theorem so_istore {n : Nat} (hd : decode (mC M) pc = .ok (.istore n, 2)) (hn : n < mL M) (k : oS G M Post (pc + 2) K) : oS G M Post pc (o_istore n K) := by
  intro c s L st h hk
  unfold o_istore at hk
  split at hk
  · intro p e R s0 m args below meth cd Q H locs cells slots ls hE hW hc hs hl
    exact lv_istore hE.1 hE.2.1 hd hl hn rfl (fun ls' hl' => k _ _ _ _ _ hk p e R s0 m args below meth cd Q H locs cells slots ls' hE hW hc hs (o_has1 hl'))
  · exact hk.elim
theorem so_istore_n {n : Nat} {j : Fin 4} (hd : decode (mC M) pc = .ok (.istore_n j, 1)) (hj : (j : Nat) = n) (hn : n < mL M) (k : oS G M Post (pc + 1) K) : oS G M Post pc (o_istore n K) := by
  intro c s L st h hk
  unfold o_istore at hk
  split at hk
  · intro p e R s0 m args below meth cd Q H locs cells slots ls hE hW hc hs hl
    exact lv_istore_n hE.1 hE.2.1 hd hj hl hn rfl (fun ls' hl' => k _ _ _ _ _ hk p e R s0 m args below meth cd Q H locs cells slots ls' hE hW hc hs (o_has1 hl'))
  · exact hk.elim
def o_lstore (n : Nat) (K : oK) : oK := fun c s L st h => match st with
  | .long x :: r => K c s (o_up2 n (.long x) L) r h
  | _ => False
theorem so_lstore {n : Nat} (hd : decode (mC M) pc = .ok (.lstore n, 2)) (hn : n + 1 < mL M) (k : oS G M Post (pc + 2) K) : oS G M Post pc (o_lstore n K) := by
  intro c s L st h hk
  unfold o_lstore at hk
  split at hk
  · intro p e R s0 m args below meth cd Q H locs cells slots ls hE hW hc hs hl
    exact lv_lstore hE.1 hE.2.1 hd hl hn rfl (fun ls' hl' => k _ _ _ _ _ hk p e R s0 m args below meth cd Q H locs cells slots ls' hE hW hc hs (o_has2 hl'))
  · exact hk.elim
theorem so_lstore_n {n : Nat} {j : Fin 4} (hd : decode (mC M) pc = .ok (.lstore_n j, 1)) (hj : (j : Nat) = n) (hn : n + 1 < mL M) (k : oS G M Post (pc + 1) K) : oS G M Post pc (o_lstore n K) := by
  intro c s L st h hk
  unfold o_lstore at hk
  split at hk
  · intro p e R s0 m args below meth cd Q H locs cells slots ls hE hW hc hs hl
    exact lv_lstore_n hE.1 hE.2.1 hd hj hl hn rfl (fun ls' hl' => k _ _ _ _ _ hk p e R s0 m args below meth cd Q H locs cells slots ls' hE hW hc hs (o_has2 hl'))
  · exact hk.elim
def o_astore (n : Nat) (K : oK) : oK := fun c s L st h => match st with
  | .ref x :: r => K c s (o_up1 n (.ref x) L) r h
  | _ => False
theorem so_astore {n : Nat} (hd : decode (mC M) pc = .ok (.astore n, 2)) (hn : n < mL M) (k : oS G M Post (pc + 2) K) : oS G M Post pc (o_astore n K) := by
  intro c s L st h hk
  unfold o_astore at hk
  split at hk
  · intro p e R s0 m args below meth cd Q H locs cells slots ls hE hW hc hs hl
    exact lv_astore hE.1 hE.2.1 hd hl hn rfl (fun ls' hl' => k _ _ _ _ _ hk p e R s0 m args below meth cd Q H locs cells slots ls' hE hW hc hs (o_has1 hl'))
  · exact hk.elim
theorem so_astore_n {n : Nat} {j : Fin 4} (hd : decode (mC M) pc = .ok (.astore_n j, 1)) (hj : (j : Nat) = n) (hn : n < mL M) (k : oS G M Post (pc + 1) K) : oS G M Post pc (o_astore n K) := by
  intro c s L st h hk
  unfold o_astore at hk
  split at hk
  · intro p e R s0 m args below meth cd Q H locs cells slots ls hE hW hc hs hl
    exact lv_astore_n hE.1 hE.2.1 hd hj hl hn rfl (fun ls' hl' => k _ _ _ _ _ hk p e R s0 m args below meth cd Q H locs cells slots ls' hE hW hc hs (o_has1 hl'))
  · exact hk.elim
def o_iinc (n : Nat) (d : Int32) (K : oK) : oK := fun c s L st h => match o_lk L n with
  | some (.int x) => K c s (o_up1 n (.int (x + d)) L) st h
  | _ => False
theorem so_iinc {n : Nat} {z : Int} {d : Int32} (hd : decode (mC M) pc = .ok (.iinc n z, 3)) (hz : Int32.ofInt z = d) (hn : n < mL M) (k : oS G M Post (pc + 3) K) : oS G M Post pc (o_iinc n d K) := by
  intro c s L st h hk
  unfold o_iinc at hk
  split at hk
  · rename_i x hx
    intro p e R s0 m args below meth cd Q H locs cells slots ls hE hW hc hs hl
    have hm : (n, Value.int x) ∈ o_rL G L := List.mem_map.mpr ⟨(n, .int x), o_lk_mem hx, rfl⟩
    obtain ⟨j, hj⟩ := List.getElem?_of_mem hm
    exact lv_iinc hE.1 hE.2.1 hd hl hj (by rw [hz]) hn rfl (fun ls' hl' => k _ _ _ _ _ hk p e R s0 m args below meth cd Q H locs cells slots ls' hE hW hc hs (o_has1 hl'))
  · exact hk.elim
def o_iadd (K : oK) : oK := fun c s L st h => match st with
  | .int y :: .int x :: r => K c s L (.int (x + y) :: r) h
  | _ => False
theorem so_iadd (hd : decode (mC M) pc = .ok (.iadd, 1)) (k : oS G M Post (pc + 1) K) : oS G M Post pc (o_iadd K) := by
  intro c s L st h hk
  unfold o_iadd at hk
  split at hk
  · intro p e R s0 m args below meth cd Q H locs cells slots ls hE hW hc hs hl
    exact lv_iadd hE.1 hE.2.1 hd (k _ _ _ _ _ hk p e R s0 m args below meth cd Q H locs cells slots ls hE hW hc hs hl)
  · exact hk.elim
def o_isub (K : oK) : oK := fun c s L st h => match st with
  | .int y :: .int x :: r => K c s L (.int (x - y) :: r) h
  | _ => False
theorem so_isub (hd : decode (mC M) pc = .ok (.isub, 1)) (k : oS G M Post (pc + 1) K) : oS G M Post pc (o_isub K) := by
  intro c s L st h hk
  unfold o_isub at hk
  split at hk
  · intro p e R s0 m args below meth cd Q H locs cells slots ls hE hW hc hs hl
    exact lv_isub hE.1 hE.2.1 hd (k _ _ _ _ _ hk p e R s0 m args below meth cd Q H locs cells slots ls hE hW hc hs hl)
  · exact hk.elim
def o_imul (K : oK) : oK := fun c s L st h => match st with
  | .int y :: .int x :: r => K c s L (.int (x * y) :: r) h
  | _ => False
theorem so_imul (hd : decode (mC M) pc = .ok (.imul, 1)) (k : oS G M Post (pc + 1) K) : oS G M Post pc (o_imul K) := by
  intro c s L st h hk
  unfold o_imul at hk
  split at hk
  · intro p e R s0 m args below meth cd Q H locs cells slots ls hE hW hc hs hl
    exact lv_imul hE.1 hE.2.1 hd (k _ _ _ _ _ hk p e R s0 m args below meth cd Q H locs cells slots ls hE hW hc hs hl)
  · exact hk.elim
def o_iand (K : oK) : oK := fun c s L st h => match st with
  | .int y :: .int x :: r => K c s L (.int (x &&& y) :: r) h
  | _ => False
theorem so_iand (hd : decode (mC M) pc = .ok (.iand, 1)) (k : oS G M Post (pc + 1) K) : oS G M Post pc (o_iand K) := by
  intro c s L st h hk
  unfold o_iand at hk
  split at hk
  · intro p e R s0 m args below meth cd Q H locs cells slots ls hE hW hc hs hl
    exact lv_iand hE.1 hE.2.1 hd (k _ _ _ _ _ hk p e R s0 m args below meth cd Q H locs cells slots ls hE hW hc hs hl)
  · exact hk.elim
def o_ior (K : oK) : oK := fun c s L st h => match st with
  | .int y :: .int x :: r => K c s L (.int (x ||| y) :: r) h
  | _ => False
theorem so_ior (hd : decode (mC M) pc = .ok (.ior, 1)) (k : oS G M Post (pc + 1) K) : oS G M Post pc (o_ior K) := by
  intro c s L st h hk
  unfold o_ior at hk
  split at hk
  · intro p e R s0 m args below meth cd Q H locs cells slots ls hE hW hc hs hl
    exact lv_ior hE.1 hE.2.1 hd (k _ _ _ _ _ hk p e R s0 m args below meth cd Q H locs cells slots ls hE hW hc hs hl)
  · exact hk.elim
def o_ixor (K : oK) : oK := fun c s L st h => match st with
  | .int y :: .int x :: r => K c s L (.int (x ^^^ y) :: r) h
  | _ => False
theorem so_ixor (hd : decode (mC M) pc = .ok (.ixor, 1)) (k : oS G M Post (pc + 1) K) : oS G M Post pc (o_ixor K) := by
  intro c s L st h hk
  unfold o_ixor at hk
  split at hk
  · intro p e R s0 m args below meth cd Q H locs cells slots ls hE hW hc hs hl
    exact lv_ixor hE.1 hE.2.1 hd (k _ _ _ _ _ hk p e R s0 m args below meth cd Q H locs cells slots ls hE hW hc hs hl)
  · exact hk.elim
def o_ishl (K : oK) : oK := fun c s L st h => match st with
  | .int y :: .int x :: r => K c s L (.int (x <<< (y &&& 31)) :: r) h
  | _ => False
theorem so_ishl (hd : decode (mC M) pc = .ok (.ishl, 1)) (k : oS G M Post (pc + 1) K) : oS G M Post pc (o_ishl K) := by
  intro c s L st h hk
  unfold o_ishl at hk
  split at hk
  · intro p e R s0 m args below meth cd Q H locs cells slots ls hE hW hc hs hl
    exact lv_ishl hE.1 hE.2.1 hd (k _ _ _ _ _ hk p e R s0 m args below meth cd Q H locs cells slots ls hE hW hc hs hl)
  · exact hk.elim
def o_ishr (K : oK) : oK := fun c s L st h => match st with
  | .int y :: .int x :: r => K c s L (.int (x >>> (y &&& 31)) :: r) h
  | _ => False
theorem so_ishr (hd : decode (mC M) pc = .ok (.ishr, 1)) (k : oS G M Post (pc + 1) K) : oS G M Post pc (o_ishr K) := by
  intro c s L st h hk
  unfold o_ishr at hk
  split at hk
  · intro p e R s0 m args below meth cd Q H locs cells slots ls hE hW hc hs hl
    exact lv_ishr hE.1 hE.2.1 hd (k _ _ _ _ _ hk p e R s0 m args below meth cd Q H locs cells slots ls hE hW hc hs hl)
  · exact hk.elim
def o_idiv (K : oK) : oK := fun c s L st h => match st with
  | .int y :: .int x :: r => (¬ y = 0) ∧ K c s L (.int (x / y) :: r) h
  | _ => False
theorem so_idiv (hd : decode (mC M) pc = .ok (.idiv, 1)) (k : oS G M Post (pc + 1) K) : oS G M Post pc (o_idiv K) := by
  intro c s L st h hk
  unfold o_idiv at hk
  split at hk
  · intro p e R s0 m args below meth cd Q H locs cells slots ls hE hW hc hs hl
    exact lv_idiv hE.1 hE.2.1 hd hk.1 (k _ _ _ _ _ hk.2 p e R s0 m args below meth cd Q H locs cells slots ls hE hW hc hs hl)
  · exact hk.elim
def o_irem (K : oK) : oK := fun c s L st h => match st with
  | .int y :: .int x :: r => (¬ y = 0) ∧ K c s L (.int (x - x / y * y) :: r) h
  | _ => False
theorem so_irem (hd : decode (mC M) pc = .ok (.irem, 1)) (k : oS G M Post (pc + 1) K) : oS G M Post pc (o_irem K) := by
  intro c s L st h hk
  unfold o_irem at hk
  split at hk
  · intro p e R s0 m args below meth cd Q H locs cells slots ls hE hW hc hs hl
    exact lv_irem hE.1 hE.2.1 hd hk.1 (k _ _ _ _ _ hk.2 p e R s0 m args below meth cd Q H locs cells slots ls hE hW hc hs hl)
  · exact hk.elim
def o_ladd (K : oK) : oK := fun c s L st h => match st with
  | .long y :: .long x :: r => K c s L (.long (x + y) :: r) h
  | _ => False
theorem so_ladd (hd : decode (mC M) pc = .ok (.ladd, 1)) (k : oS G M Post (pc + 1) K) : oS G M Post pc (o_ladd K) := by
  intro c s L st h hk
  unfold o_ladd at hk
  split at hk
  · intro p e R s0 m args below meth cd Q H locs cells slots ls hE hW hc hs hl
    exact lv_ladd hE.1 hE.2.1 hd (k _ _ _ _ _ hk p e R s0 m args below meth cd Q H locs cells slots ls hE hW hc hs hl)
  · exact hk.elim
def o_land (K : oK) : oK := fun c s L st h => match st with
  | .long y :: .long x :: r => K c s L (.long (x &&& y) :: r) h
  | _ => False
theorem so_land (hd : decode (mC M) pc = .ok (.land, 1)) (k : oS G M Post (pc + 1) K) : oS G M Post pc (o_land K) := by
  intro c s L st h hk
  unfold o_land at hk
  split at hk
  · intro p e R s0 m args below meth cd Q H locs cells slots ls hE hW hc hs hl
    exact lv_land hE.1 hE.2.1 hd (k _ _ _ _ _ hk p e R s0 m args below meth cd Q H locs cells slots ls hE hW hc hs hl)
  · exact hk.elim
def o_lor (K : oK) : oK := fun c s L st h => match st with
  | .long y :: .long x :: r => K c s L (.long (x ||| y) :: r) h
  | _ => False
theorem so_lor (hd : decode (mC M) pc = .ok (.lor, 1)) (k : oS G M Post (pc + 1) K) : oS G M Post pc (o_lor K) := by
  intro c s L st h hk
  unfold o_lor at hk
  split at hk
  · intro p e R s0 m args below meth cd Q H locs cells slots ls hE hW hc hs hl
    exact lv_lor hE.1 hE.2.1 hd (k _ _ _ _ _ hk p e R s0 m args below meth cd Q H locs cells slots ls hE hW hc hs hl)
  · exact hk.elim
def o_lushr (K : oK) : oK := fun c s L st h => match st with
  | .int y :: .long x :: r => K c s L (.long (x.toUInt64 >>> (y.toInt64.toUInt64 &&& Int64.toUInt64 63)).toInt64 :: r) h
  | _ => False
theorem so_lushr (hd : decode (mC M) pc = .ok (.lushr, 1)) (k : oS G M Post (pc + 1) K) : oS G M Post pc (o_lushr K) := by
  intro c s L st h hk
  unfold o_lushr at hk
  split at hk
  · intro p e R s0 m args below meth cd Q H locs cells slots ls hE hW hc hs hl
    exact lv_lushr hE.1 hE.2.1 hd rfl (k _ _ _ _ _ hk p e R s0 m args below meth cd Q H locs cells slots ls hE hW hc hs hl)
  · exact hk.elim
def o_lshl (K : oK) : oK := fun c s L st h => match st with
  | .int y :: .long x :: r => K c s L (.long (x <<< (y.toInt64 &&& 63)) :: r) h
  | _ => False
theorem so_lshl (hd : decode (mC M) pc = .ok (.lshl, 1)) (k : oS G M Post (pc + 1) K) : oS G M Post pc (o_lshl K) := by
  intro c s L st h hk
  unfold o_lshl at hk
  split at hk
  · intro p e R s0 m args below meth cd Q H locs cells slots ls hE hW hc hs hl
    exact lv_lshl hE.1 hE.2.1 hd rfl (k _ _ _ _ _ hk p e R s0 m args below meth cd Q H locs cells slots ls hE hW hc hs hl)
  · exact hk.elim
def o_i2l (K : oK) : oK := fun c s L st h => match st with
  | .int x :: r => K c s L (.long x.toInt64 :: r) h
  | _ => False
theorem so_i2l (hd : decode (mC M) pc = .ok (.i2l, 1)) (k : oS G M Post (pc + 1) K) : oS G M Post pc (o_i2l K) := by
  intro c s L st h hk
  unfold o_i2l at hk
  split at hk
  · intro p e R s0 m args below meth cd Q H locs cells slots ls hE hW hc hs hl
    exact lv_i2l hE.1 hE.2.1 hd rfl (k _ _ _ _ _ hk p e R s0 m args below meth cd Q H locs cells slots ls hE hW hc hs hl)
  · exact hk.elim
def o_l2i (K : oK) : oK := fun c s L st h => match st with
  | .long x :: r => K c s L (.int x.toInt32 :: r) h
  | _ => False
theorem so_l2i (hd : decode (mC M) pc = .ok (.l2i, 1)) (k : oS G M Post (pc + 1) K) : oS G M Post pc (o_l2i K) := by
  intro c s L st h hk
  unfold o_l2i at hk
  split at hk
  · intro p e R s0 m args below meth cd Q H locs cells slots ls hE hW hc hs hl
    exact lv_l2i hE.1 hE.2.1 hd rfl (k _ _ _ _ _ hk p e R s0 m args below meth cd Q H locs cells slots ls hE hW hc hs hl)
  · exact hk.elim
def o_lcmp (K : oK) : oK := fun c s L st h => match st with
  | .long y :: .long x :: r => K c s L (.int (lg_cmp x y) :: r) h
  | _ => False
theorem so_lcmp (hd : decode (mC M) pc = .ok (.lcmp, 1)) (k : oS G M Post (pc + 1) K) : oS G M Post pc (o_lcmp K) := by
  intro c s L st h hk
  unfold o_lcmp at hk
  split at hk
  · intro p e R s0 m args below meth cd Q H locs cells slots ls hE hW hc hs hl
    exact W.lcmp hE.1 hE.2.1 hd (k _ _ _ _ _ hk p e R s0 m args below meth cd Q H locs cells slots ls hE hW hc hs hl)
  · exact hk.elim
def o_dup (K : oK) : oK := fun c s L st h => match st with
  | va :: r => o_c2 va = false ∧ K c s L (va :: va :: r) h
  | _ => False
theorem so_dup (hd : decode (mC M) pc = .ok (.dup, 1)) (k : oS G M Post (pc + 1) K) : oS G M Post pc (o_dup K) := by
  intro c s L st h hk
  unfold o_dup at hk
  split at hk
  · intro p e R s0 m args below meth cd Q H locs cells slots ls hE hW hc hs hl
    exact lv_dup hE.1 hE.2.1 hd ((o_cat G _).trans (o_c2_1 hk.1)) (k _ _ _ _ _ hk.2 p e R s0 m args below meth cd Q H locs cells slots ls hE hW hc hs hl)
  · exact hk.elim
def o_pop (K : oK) : oK := fun c s L st h => match st with
  | va :: r => o_c2 va = false ∧ K c s L (r) h
  | _ => False
theorem so_pop (hd : decode (mC M) pc = .ok (.pop, 1)) (k : oS G M Post (pc + 1) K) : oS G M Post pc (o_pop K) := by
  intro c s L st h hk
  unfold o_pop at hk
  split at hk
  · intro p e R s0 m args below meth cd Q H locs cells slots ls hE hW hc hs hl
    exact lv_pop hE.1 hE.2.1 hd ((o_cat G _).trans (o_c2_1 hk.1)) (k _ _ _ _ _ hk.2 p e R s0 m args below meth cd Q H locs cells slots ls hE hW hc hs hl)
  · exact hk.elim
def o_dup_x1 (K : oK) : oK := fun c s L st h => match st with
  | va :: vb :: r => o_c2 va = false ∧ o_c2 vb = false ∧ K c s L (va :: vb :: va :: r) h
  | _ => False
theorem so_dup_x1 (hd : decode (mC M) pc = .ok (.dup_x1, 1)) (k : oS G M Post (pc + 1) K) : oS G M Post pc (o_dup_x1 K) := by
  intro c s L st h hk
  unfold o_dup_x1 at hk
  split at hk
  · intro p e R s0 m args below meth cd Q H locs cells slots ls hE hW hc hs hl
    exact lv_dup_x1 hE.1 hE.2.1 hd ((o_cat G _).trans (o_c2_1 hk.1)) ((o_cat G _).trans (o_c2_1 hk.2.1)) (k _ _ _ _ _ hk.2.2 p e R s0 m args below meth cd Q H locs cells slots ls hE hW hc hs hl)
  · exact hk.elim
def o_dup_x2 (K : oK) : oK := fun c s L st h => match st with
  | va :: vb :: vd :: r => o_c2 va = false ∧ o_c2 vb = false ∧ o_c2 vd = false ∧ K c s L (va :: vb :: vd :: va :: r) h
  | _ => False
theorem so_dup_x2 (hd : decode (mC M) pc = .ok (.dup_x2, 1)) (k : oS G M Post (pc + 1) K) : oS G M Post pc (o_dup_x2 K) := by
  intro c s L st h hk
  unfold o_dup_x2 at hk
  split at hk
  · intro p e R s0 m args below meth cd Q H locs cells slots ls hE hW hc hs hl
    exact lv_dup_x2 hE.1 hE.2.1 hd ((o_cat G _).trans (o_c2_1 hk.1)) ((o_cat G _).trans (o_c2_1 hk.2.1)) ((o_cat G _).trans (o_c2_1 hk.2.2.1)) (k _ _ _ _ _ hk.2.2.2 p e R s0 m args below meth cd Q H locs cells slots ls hE hW hc hs hl)
  · exact hk.elim
def o_dup2 (K : oK) : oK := fun c s L st h => match st with
  | va :: vb :: r => o_c2 va = false ∧ o_c2 vb = false ∧ K c s L (va :: vb :: va :: vb :: r) h
  | _ => False
theorem so_dup2 (hd : decode (mC M) pc = .ok (.dup2, 1)) (k : oS G M Post (pc + 1) K) : oS G M Post pc (o_dup2 K) := by
  intro c s L st h hk
  unfold o_dup2 at hk
  split at hk
  · intro p e R s0 m args below meth cd Q H locs cells slots ls hE hW hc hs hl
    exact lv_dup2_11 hE.1 hE.2.1 hd ((o_cat G _).trans (o_c2_1 hk.1)) ((o_cat G _).trans (o_c2_1 hk.2.1)) (k _ _ _ _ _ hk.2.2 p e R s0 m args below meth cd Q H locs cells slots ls hE hW hc hs hl)
  · exact hk.elim
def o_ifeq (Kt Kf : oK) : oK := fun c s L st h => match st with
  | .int x :: r => (x = 0 → Kt c s L r h) ∧ (¬ (x = 0) → Kf c s L r h)
  | _ => False
theorem so_ifeq {off : Int} {tgt : Nat} (hd : decode (mC M) pc = .ok (.ifCond .eq off, 3)) (ht : (pc : Int) + off = (tgt : Int)) (kt : oS G M Post tgt Kt) (kf : oS G M Post (pc + 3) Kf) : oS G M Post pc (o_ifeq Kt Kf) := by
  intro c s L st h hk
  unfold o_ifeq at hk
  split at hk
  · intro p e R s0 m args below meth cd Q H locs cells slots ls hE hW hc hs hl
    exact lv_if_eq hE.1 hE.2.1 hd ht (fun q => kt _ _ _ _ _ (hk.1 q) p e R s0 m args below meth cd Q H locs cells slots ls hE hW hc hs hl) (fun q => kf _ _ _ _ _ (hk.2 q) p e R s0 m args below meth cd Q H locs cells slots ls hE hW hc hs hl)
  · exact hk.elim
def o_icmpeq (Kt Kf : oK) : oK := fun c s L st h => match st with
  | .int y :: .int x :: r => (x = y → Kt c s L r h) ∧ (¬ (x = y) → Kf c s L r h)
  | _ => False
theorem so_icmpeq {off : Int} {tgt : Nat} (hd : decode (mC M) pc = .ok (.if_icmp .eq off, 3)) (ht : (pc : Int) + off = (tgt : Int)) (kt : oS G M Post tgt Kt) (kf : oS G M Post (pc + 3) Kf) : oS G M Post pc (o_icmpeq Kt Kf) := by
  intro c s L st h hk
  unfold o_icmpeq at hk
  split at hk
  · intro p e R s0 m args below meth cd Q H locs cells slots ls hE hW hc hs hl
    exact lv_icmp_eq hE.1 hE.2.1 hd ht (fun q => kt _ _ _ _ _ (hk.1 q) p e R s0 m args below meth cd Q H locs cells slots ls hE hW hc hs hl) (fun q => kf _ _ _ _ _ (hk.2 q) p e R s0 m args below meth cd Q H locs cells slots ls hE hW hc hs hl)
  · exact hk.elim
def o_ifne (Kt Kf : oK) : oK := fun c s L st h => match st with
  | .int x :: r => (¬ x = 0 → Kt c s L r h) ∧ (x = 0 → Kf c s L r h)
  | _ => False
theorem so_ifne {off : Int} {tgt : Nat} (hd : decode (mC M) pc = .ok (.ifCond .ne off, 3)) (ht : (pc : Int) + off = (tgt : Int)) (kt : oS G M Post tgt Kt) (kf : oS G M Post (pc + 3) Kf) : oS G M Post pc (o_ifne Kt Kf) := by
  intro c s L st h hk
  unfold o_ifne at hk
  split at hk
  · intro p e R s0 m args below meth cd Q H locs cells slots ls hE hW hc hs hl
    exact lv_if_ne hE.1 hE.2.1 hd ht (fun q => kt _ _ _ _ _ (hk.1 q) p e R s0 m args below meth cd Q H locs cells slots ls hE hW hc hs hl) (fun q => kf _ _ _ _ _ (hk.2 q) p e R s0 m args below meth cd Q H locs cells slots ls hE hW hc hs hl)
  · exact hk.elim
def o_icmpne (Kt Kf : oK) : oK := fun c s L st h => match st with
  | .int y :: .int x :: r => (¬ x = y → Kt c s L r h) ∧ (x = y → Kf c s L r h)
  | _ => False
theorem so_icmpne {off : Int} {tgt : Nat} (hd : decode (mC M) pc = .ok (.if_icmp .ne off, 3)) (ht : (pc : Int) + off = (tgt : Int)) (kt : oS G M Post tgt Kt) (kf : oS G M Post (pc + 3) Kf) : oS G M Post pc (o_icmpne Kt Kf) := by
  intro c s L st h hk
  unfold o_icmpne at hk
  split at hk
  · intro p e R s0 m args below meth cd Q H locs cells slots ls hE hW hc hs hl
    exact lv_icmp_ne hE.1 hE.2.1 hd ht (fun q => kt _ _ _ _ _ (hk.1 q) p e R s0 m args below meth cd Q H locs cells slots ls hE hW hc hs hl) (fun q => kf _ _ _ _ _ (hk.2 q) p e R s0 m args below meth cd Q H locs cells slots ls hE hW hc hs hl)
  · exact hk.elim
def o_iflt (Kt Kf : oK) : oK := fun c s L st h => match st with
  | .int x :: r => (x < 0 → Kt c s L r h) ∧ (¬ (x < 0) → Kf c s L r h)
  | _ => False
theorem so_iflt {off : Int} {tgt : Nat} (hd : decode (mC M) pc = .ok (.ifCond .lt off, 3)) (ht : (pc : Int) + off = (tgt : Int)) (kt : oS G M Post tgt Kt) (kf : oS G M Post (pc + 3) Kf) : oS G M Post pc (o_iflt Kt Kf) := by
  intro c s L st h hk
  unfold o_iflt at hk
  split at hk
  · intro p e R s0 m args below meth cd Q H locs cells slots ls hE hW hc hs hl
    exact lv_if_lt hE.1 hE.2.1 hd ht (fun q => kt _ _ _ _ _ (hk.1 q) p e R s0 m args below meth cd Q H locs cells slots ls hE hW hc hs hl) (fun q => kf _ _ _ _ _ (hk.2 q) p e R s0 m args below meth cd Q H locs cells slots ls hE hW hc hs hl)
  · exact hk.elim
def o_icmplt (Kt Kf : oK) : oK := fun c s L st h => match st with
  | .int y :: .int x :: r => (x < y → Kt c s L r h) ∧ (¬ (x < y) → Kf c s L r h)
  | _ => False
theorem so_icmplt {off : Int} {tgt : Nat} (hd : decode (mC M) pc = .ok (.if_icmp .lt off, 3)) (ht : (pc : Int) + off = (tgt : Int)) (kt : oS G M Post tgt Kt) (kf : oS G M Post (pc + 3) Kf) : oS G M Post pc (o_icmplt Kt Kf) := by
  intro c s L st h hk
  unfold o_icmplt at hk
  split at hk
  · intro p e R s0 m args below meth cd Q H locs cells slots ls hE hW hc hs hl
    exact lv_icmp_lt hE.1 hE.2.1 hd ht (fun q => kt _ _ _ _ _ (hk.1 q) p e R s0 m args below meth cd Q H locs cells slots ls hE hW hc hs hl) (fun q => kf _ _ _ _ _ (hk.2 q) p e R s0 m args below meth cd Q H locs cells slots ls hE hW hc hs hl)
  · exact hk.elim
def o_ifge (Kt Kf : oK) : oK := fun c s L st h => match st with
  | .int x :: r => (0 ≤ x → Kt c s L r h) ∧ (¬ (0 ≤ x) → Kf c s L r h)
  | _ => False
theorem so_ifge {off : Int} {tgt : Nat} (hd : decode (mC M) pc = .ok (.ifCond .ge off, 3)) (ht : (pc : Int) + off = (tgt : Int)) (kt : oS G M Post tgt Kt) (kf : oS G M Post (pc + 3) Kf) : oS G M Post pc (o_ifge Kt Kf) := by
  intro c s L st h hk
  unfold o_ifge at hk
  split at hk
  · intro p e R s0 m args below meth cd Q H locs cells slots ls hE hW hc hs hl
    exact lv_if_ge hE.1 hE.2.1 hd ht (fun q => kt _ _ _ _ _ (hk.1 q) p e R s0 m args below meth cd Q H locs cells slots ls hE hW hc hs hl) (fun q => kf _ _ _ _ _ (hk.2 q) p e R s0 m args below meth cd Q H locs cells slots ls hE hW hc hs hl)
  · exact hk.elim
def o_icmpge (Kt Kf : oK) : oK := fun c s L st h => match st with
  | .int y :: .int x :: r => (y ≤ x → Kt c s L r h) ∧ (¬ (y ≤ x) → Kf c s L r h)
  | _ => False
theorem so_icmpge {off : Int} {tgt : Nat} (hd : decode (mC M) pc = .ok (.if_icmp .ge off, 3)) (ht : (pc : Int) + off = (tgt : Int)) (kt : oS G M Post tgt Kt) (kf : oS G M Post (pc + 3) Kf) : oS G M Post pc (o_icmpge Kt Kf) := by
  intro c s L st h hk
  unfold o_icmpge at hk
  split at hk
  · intro p e R s0 m args below meth cd Q H locs cells slots ls hE hW hc hs hl
    exact lv_icmp_ge hE.1 hE.2.1 hd ht (fun q => kt _ _ _ _ _ (hk.1 q) p e R s0 m args below meth cd Q H locs cells slots ls hE hW hc hs hl) (fun q => kf _ _ _ _ _ (hk.2 q) p e R s0 m args below meth cd Q H locs cells slots ls hE hW hc hs hl)
  · exact hk.elim
def o_ifgt (Kt Kf : oK) : oK := fun c s L st h => match st with
  | .int x :: r => (0 < x → Kt c s L r h) ∧ (¬ (0 < x) → Kf c s L r h)
  | _ => False
theorem so_ifgt {off : Int} {tgt : Nat} (hd : decode (mC M) pc = .ok (.ifCond .gt off, 3)) (ht : (pc : Int) + off = (tgt : Int)) (kt : oS G M Post tgt Kt) (kf : oS G M Post (pc + 3) Kf) : oS G M Post pc (o_ifgt Kt Kf) := by
  intro c s L st h hk
  unfold o_ifgt at hk
  split at hk
  · intro p e R s0 m args below meth cd Q H locs cells slots ls hE hW hc hs hl
    exact lv_if_gt hE.1 hE.2.1 hd ht (fun q => kt _ _ _ _ _ (hk.1 q) p e R s0 m args below meth cd Q H locs cells slots ls hE hW hc hs hl) (fun q => kf _ _ _ _ _ (hk.2 q) p e R s0 m args below meth cd Q H locs cells slots ls hE hW hc hs hl)
  · exact hk.elim
def o_icmpgt (Kt Kf : oK) : oK := fun c s L st h => match st with
  | .int y :: .int x :: r => (y < x → Kt c s L r h) ∧ (¬ (y < x) → Kf c s L r h)
  | _ => False
theorem so_icmpgt {off : Int} {tgt : Nat} (hd : decode (mC M) pc = .ok (.if_icmp .gt off, 3)) (ht : (pc : Int) + off = (tgt : Int)) (kt : oS G M Post tgt Kt) (kf : oS G M Post (pc + 3) Kf) : oS G M Post pc (o_icmpgt Kt Kf) := by
  intro c s L st h hk
  unfold o_icmpgt at hk
  split at hk
  · intro p e R s0 m args below meth cd Q H locs cells slots ls hE hW hc hs hl
    exact lv_icmp_gt hE.1 hE.2.1 hd ht (fun q => kt _ _ _ _ _ (hk.1 q) p e R s0 m args below meth cd Q H locs cells slots ls hE hW hc hs hl) (fun q => kf _ _ _ _ _ (hk.2 q) p e R s0 m args below meth cd Q H locs cells slots ls hE hW hc hs hl)
  · exact hk.elim
def o_ifle (Kt Kf : oK) : oK := fun c s L st h => match st with
  | .int x :: r => (x ≤ 0 → Kt c s L r h) ∧ (¬ (x ≤ 0) → Kf c s L r h)
  | _ => False
theorem so_ifle {off : Int} {tgt : Nat} (hd : decode (mC M) pc = .ok (.ifCond .le off, 3)) (ht : (pc : Int) + off = (tgt : Int)) (kt : oS G M Post tgt Kt) (kf : oS G M Post (pc + 3) Kf) : oS G M Post pc (o_ifle Kt Kf) := by
  intro c s L st h hk
  unfold o_ifle at hk
  split at hk
  · intro p e R s0 m args below meth cd Q H locs cells slots ls hE hW hc hs hl
    exact lv_if_le hE.1 hE.2.1 hd ht (fun q => kt _ _ _ _ _ (hk.1 q) p e R s0 m args below meth cd Q H locs cells slots ls hE hW hc hs hl) (fun q => kf _ _ _ _ _ (hk.2 q) p e R s0 m args below meth cd Q H locs cells slots ls hE hW hc hs hl)
  · exact hk.elim
def o_icmple (Kt Kf : oK) : oK := fun c s L st h => match st with
  | .int y :: .int x :: r => (x ≤ y → Kt c s L r h) ∧ (¬ (x ≤ y) → Kf c s L r h)
  | _ => False
theorem so_icmple {off : Int} {tgt : Nat} (hd : decode (mC M) pc = .ok (.if_icmp .le off, 3)) (ht : (pc : Int) + off = (tgt : Int)) (kt : oS G M Post tgt Kt) (kf : oS G M Post (pc + 3) Kf) : oS G M Post pc (o_icmple Kt Kf) := by
  intro c s L st h hk
  unfold o_icmple at hk
  split at hk
  · intro p e R s0 m args below meth cd Q H locs cells slots ls hE hW hc hs hl
    exact lv_icmp_le hE.1 hE.2.1 hd ht (fun q => kt _ _ _ _ _ (hk.1 q) p e R s0 m args below meth cd Q H locs cells slots ls hE hW hc hs hl) (fun q => kf _ _ _ _ _ (hk.2 q) p e R s0 m args below meth cd Q H locs cells slots ls hE hW hc hs hl)
  · exact hk.elim
/-- go on at a place that has a row of its own, with these locals -/
def o_jmp (G : oG) (M : oM) (Post : oP) (tgt : Nat) (ks : List Nat) : oK := fun c s L st h => Wp G M Post tgt c s (o_keep ks L) st h
theorem so_jmp {ks : List Nat} : oS G M Post pc (o_jmp G M Post pc ks) := by
  intro c s L st h hk p e R s0 m args below meth cd Q H locs cells slots ls hE hW hc hs hl
  exact hk p e R s0 m args below meth cd Q H locs cells slots ls hE hW hc hs (o_has_sub hl (o_keep_sub ks L))
theorem so_goto {off : Int} {tgt : Nat} (hd : decode (mC M) pc = .ok (.goto off, 3)) (ht : (pc : Int) + off = (tgt : Int)) (k : oS G M Post tgt K) : oS G M Post pc K := by
  intro c s L st h hk p e R s0 m args below meth cd Q H locs cells slots ls hE hW hc hs hl
  exact lv_goto hE.1 hE.2.1 hd ht (k _ _ _ _ _ hk p e R s0 m args below meth cd Q H locs cells slots ls hE hW hc hs hl)
def o_tgt (lo : Int) (ts : List Nat) (dt : Nat) (x : Int32) : Nat := if x.toInt < lo then dt else (ts[(x.toInt - lo).toNat]?).getD dt
def o_tsw (G : oG) (M : oM) (Post : oP) (lo : Int) (ts : List Nat) (dt : Nat) (ks : List Nat) : oK := fun c s L st h => match st with
  | .int x :: r => Wp G M Post (o_tgt lo ts dt x) c s (o_keep ks L) r h
  | _ => False
theorem so_tsw {dflt lo hi : Int} {offs : Array Int} {len : Nat} {ts : List Nat} {dt : Nat} {ks : List Nat} (hd : decode (mC M) pc = .ok (.tableswitch dflt lo hi offs, len)) (h1 : (pc : Int) + dflt = (dt : Int)) (h2 : offs.toList.map (fun o => (pc : Int) + o) = ts.map (fun (t : Nat) => (t : Int))) (h3 : hi - lo + 1 = (ts.length : Int)) : oS G M Post pc (o_tsw G M Post lo ts dt ks) := by
  intro c s L st h hk
  unfold o_tsw at hk
  split at hk
  · rename_i x r
    intro p e R s0 m args below meth cd Q H locs cells slots ls hE hW hc hs hl
    have kk := hk p e R s0 m args below meth cd Q H locs cells slots ls hE hW hc hs (o_has_sub hl (o_keep_sub ks L))
    by_cases hx : x.toInt < lo
    · simp only [o_tgt, if_pos hx] at kk
      exact lv_tableOut hE.1 hE.2.1 hd (Or.inl hx) h1 kk
    · simp only [o_tgt, if_neg hx] at kk
      by_cases hy : hi < x.toInt
      · rw [List.getElem?_eq_none (by omega)] at kk
        exact lv_tableOut hE.1 hE.2.1 hd (Or.inr hy) h1 kk
      · have hlt : (x.toInt - lo).toNat < ts.length := by omega
        have hlo : (x.toInt - lo).toNat < offs.toList.length := by
          have := congrArg List.length h2
          simp only [List.length_map] at this
          omega
        have e1 := congrArg (fun l => l[(x.toInt - lo).toNat]?) h2
        simp only [List.getElem?_map, List.getElem?_eq_getElem hlt, List.getElem?_eq_getElem hlo, Option.map_some, Option.some.injEq] at e1
        rw [List.getElem?_eq_getElem hlt, Option.getD_some] at kk
        exact lv_tableIn hE.1 hE.2.1 hd hx hy (by rw [← Array.getElem?_toList]; exact List.getElem?_eq_getElem hlo) e1 kk
  · exact hk.elim
-- ends
def o_iret (Post : oP) : oK := fun _ _ _ st h => match st with
  | [.int x] => Post (some (.int x)) h
  | _ => False
theorem so_iret (hd : decode (mC M) pc = .ok (.ireturn, 1)) (hr : mR M = some .int) : oS G M Post pc (o_iret Post) := by
  intro c s L st h hk
  unfold o_iret at hk
  split at hk
  · rename_i x
    intro p e R s0 m args below meth cd Q H locs cells slots ls hE hW hc hs hl
    exact hE.2.2.2.2.2.2.2.2.2 (some (.int x)) h H locs ls pc cells slots hk hW (by omega) (by omega) ⟨⟨_, hr, rfl⟩, hd⟩
  · exact hk.elim
def o_zret (Post : oP) : oK := fun _ _ _ st h => match st with
  | [.int x] => (x = 0 ∨ x = 1) ∧ Post (some (.int x)) h
  | _ => False
theorem so_zret (hd : decode (mC M) pc = .ok (.ireturn, 1)) (hr : mR M = some .boolean) : oS G M Post pc (o_zret Post) := by
  intro c s L st h hk
  unfold o_zret at hk
  split at hk
  · rename_i x
    intro p e R s0 m args below meth cd Q H locs cells slots ls hE hW hc hs hl
    exact hE.2.2.2.2.2.2.2.2.2 (some (.int x)) h H locs ls pc cells slots hk.2 hW (by omega) (by omega) ⟨⟨_, hr, by rcases hk.1 with e | e <;> rw [e] <;> rfl⟩, hd⟩
  · exact hk.elim
def o_lret (Post : oP) : oK := fun _ _ _ st h => match st with
  | [.long x] => Post (some (.long x)) h
  | _ => False
theorem so_lret (hd : decode (mC M) pc = .ok (.lreturn, 1)) (hr : mR M = some .long) : oS G M Post pc (o_lret Post) := by
  intro c s L st h hk
  unfold o_lret at hk
  split at hk
  · rename_i x
    intro p e R s0 m args below meth cd Q H locs cells slots ls hE hW hc hs hl
    exact hE.2.2.2.2.2.2.2.2.2 (some (.long x)) h H locs ls pc cells slots hk hW (by omega) (by omega) ⟨hr, hd⟩
  · exact hk.elim
def o_vret (Post : oP) : oK := fun _ _ _ st h => match st with
  | [] => Post none h
  | _ => False
theorem so_vret (hd : decode (mC M) pc = .ok (.return_, 1)) (hr : mR M = none) : oS G M Post pc (o_vret Post) := by
  intro c s L st h hk
  unfold o_vret at hk
  split at hk
  · intro p e R s0 m args below meth cd Q H locs cells slots ls hE hW hc hs hl
    exact hE.2.2.2.2.2.2.2.2.2 none h H locs ls pc cells slots hk hW (by omega) (by omega) ⟨hr, hd⟩
  · exact hk.elim
end OI
