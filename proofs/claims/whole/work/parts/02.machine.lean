/-! The pure machine. A cell is an array (number of its type, length, contents) or an object (number of its kind, fields); a heap is the list of the cells in the order of their making; the value .ref (k + 1) stands for cell k, .ref 0 for the law's script. G: (launch, the script's cell, its length, the script, numbers and slots of the kinds of objects, of the kinds of arrays, the heap at the law's entry). -/
abbrev oE : Type := (Nat × vp_A) ⊕ (Nat × List Value)
abbrev oH : Type := List oE
abbrev oL : Type := List (Nat × Value)
abbrev oG : Type := Launch × Nat × Nat × (Nat → Int32) × va_G × (Nat → ClassId) × Heap
abbrev gl (G : oG) : Launch := G.1
abbrev gb (G : oG) : Nat := G.2.1
abbrev gn (G : oG) : Nat := G.2.2.1
abbrev gx (G : oG) : Nat → Int32 := G.2.2.2.1
abbrev gD (G : oG) : va_G := G.2.2.2.2.1
abbrev gA (G : oG) : Nat → ClassId := G.2.2.2.2.2.1
abbrev gH (G : oG) : Heap := G.2.2.2.2.2.2
/-- M: a method: (name, bytes, number of locals, what it returns, frames below it, room for their locals) -/
abbrev oM : Type := MethodName × ByteArray × Nat × Option FieldType × Nat × Nat
abbrev mY (M : oM) : MethodName := M.1
abbrev mC (M : oM) : ByteArray := M.2.1
abbrev mL (M : oM) : Nat := M.2.2.1
abbrev mR (M : oM) : Option FieldType := M.2.2.2.1
abbrev mD (M : oM) : Nat := M.2.2.2.2.1
abbrev mQ (M : oM) : Nat := M.2.2.2.2.2
abbrev oP : Type := Option Value → oH → Prop
abbrev oK : Type := Nat → Nat → oL → List Value → oH → Prop
def o_ad (G : oG) (a : Nat) : Nat := match a with
  | 0 => gb G
  | k + 1 => (gH G).size + k
def o_rl (G : oG) (v : Value) : Value := match v with
  | .int x => .int x
  | .long x => .long x
  | .float x => .float x
  | .double x => .double x
  | .null => .null
  | .ref a => .ref (o_ad G a)
  | .retAddr x => .retAddr x
def o_rX (G : oG) (x : (Nat → Int32) ⊕ (Nat → Int64) ⊕ (Nat → UInt32) ⊕ (Nat → UInt64) ⊕ (Nat → Option Nat)) : (Nat → Int32) ⊕ (Nat → Int64) ⊕ (Nat → UInt32) ⊕ (Nat → UInt64) ⊕ (Nat → Option Nat) := match x with
  | .inl f => .inl f
  | .inr (.inl f) => .inr (.inl f)
  | .inr (.inr (.inl f)) => .inr (.inr (.inl f))
  | .inr (.inr (.inr (.inl f))) => .inr (.inr (.inr (.inl f)))
  | .inr (.inr (.inr (.inr f))) => .inr (.inr (.inr (.inr (fun j => (f j).map (o_ad G)))))
def o_rE (G : oG) (e : oE) : va_E := match e with
  | .inl a => .inl (gA G a.1, a.2.1, o_rX G a.2.2)
  | .inr o => .inr (o.1, o.2.map (o_rl G))
def o_rL (G : oG) (L : oL) : List (Nat × Value) := L.map fun q => (q.1, o_rl G q.2)
def o_ws (G : oG) (h : oH) : va_W := h.mapIdx fun k e => ((gH G).size + k, o_rE G e)
def o_A (G : oG) : Nat → Prop := fun q => (gH G).size ≤ q
def o_tys (G : oG) : List (ClassId × FieldType) := [(gA G 0, .int), (gA G 1, .long), (gA G 2, .boolean), (gA G 3, .object "TrapGate$StoredFile"), (gA G 4, .object "TrapGate$Pipe")]
def o_Wd (G : oG) (h : oH) (H : Heap) (locs : List Loc) : Prop := va_P (gD G) o_cl (o_ws G h) H ∧ va_D (o_A G) (o_ws G h) ∧ va_S (o_A G) (gH G) H locs ∧ H.size = (gH G).size + h.length
def o_Sf (G : oG) (U : State) : Prop := va_K (gD G) o_cl (o_tys G) U ∧ va_X (gb G) (gn G) (gx G) U (gH G) ∧ gb G < (gH G).size ∧ (∀ w ∈ o_NW, va_Nw w U) ∧ ∀ C ∈ o_AO, va_AO C U
def o_rets (M : oM) (pc : Nat) (v : Option Value) : Prop := match v with
  | none => mR M = none ∧ decode (mC M) pc = .ok (.return_, 1)
  | some (.int x) => (∃ ty, mR M = some ty ∧ narrow ty (.int x) = .int x) ∧ decode (mC M) pc = .ok (.ireturn, 1)
  | some (.long _) => mR M = some .long ∧ decode (mC M) pc = .ok (.lreturn, 1)
  | some _ => False
def o_Env (G : oG) (M : oM) (Post : oP) (p : Program) (e : Env) (R : Room) (s : State) (m : MethodId) (args : Array Value) (below : List Frame) (meth : Method) (c : Code) (Q : State → Prop) : Prop :=
  p.tables.exec = Jvm.exec ∧ c.code = mC M ∧ c.maxLocals = mL M ∧ s.vm.findClass (mY M).cls = some m.cls ∧ ((mY M).name = "<init>" → meth.name = "<init>") ∧ (∀ w ∈ o_TT, w.before args s = true) ∧ mD M ≤ R.frames ∧ mQ M ≤ R.locals ∧ o_Sf G s ∧
  ∀ (v : Option Value) (h : oH) (H : Heap) (locs : List Loc) (ls : Array Slot) (pc cells slots : Nat), Post v h → o_Wd G h H locs → cells ≤ R.cells → slots ≤ R.slots → o_rets M pc v → W p (gl G) e R s m args below meth c H locs cells slots Q (F0 m pc ls (v.toList.map (o_rl G)))
/-- from pc of the method M, with locals L, stack st and heap h, at most c cells of s slots being made, the method returns what Post says -/
def Wp (G : oG) (M : oM) (Post : oP) (pc : Nat) (c s : Nat) (L : oL) (st : List Value) (h : oH) : Prop :=
  ∀ (p : Program) (e : Env) (R : Room) (s0 : State) (m : MethodId) (args : Array Value) (below : List Frame) (meth : Method) (cd : Code) (Q : State → Prop) (H : Heap) (locs : List Loc) (cells slots : Nat) (ls : Array Slot),
    o_Env G M Post p e R s0 m args below meth cd Q → o_Wd G h H locs → cells + c ≤ R.cells → slots + s ≤ R.slots → lv_has ls (mL M) (o_rL G L) → W p (gl G) e R s0 m args below meth cd H locs cells slots Q (F0 m pc ls (st.map (o_rl G)))
/-- a stretch of code, as a condition on where it begins, is right at pc -/
def oS (G : oG) (M : oM) (Post : oP) (pc : Nat) (K : oK) : Prop := ∀ (c s : Nat) (L : oL) (st : List Value) (h : oH), K c s L st h → Wp G M Post pc c s L st h
abbrev mW (M : oM) : Cond := .code (mY M) (mC M) (mL M) (mR M)
abbrev mRm (M : oM) (mc ms : Nat) : Room := { frames := mD M, cells := mc, slots := ms, locals := mQ M }
def o_Pc (G : oG) (as : List Value) (h : oH) : Array Value → State → Prop := fun a U => a = (as.map (o_rl G)).toArray ∧ o_Wd G h U.heap [] ∧ o_Sf G U
def o_Qc (G : oG) (Post : oP) : Array Value → State → Outcome → State → Prop := fun _ _ o t => ∃ (v : Option Value) (h' : oH), Post v h' ∧ o = .returned (v.map (o_rl G)) ∧ o_Wd G h' t.heap []
/-- the contract: on these arguments and this heap M returns what Post says, and makes at most mc cells of ms slots -/
def Mt (G : oG) (M : oM) (as : List Value) (h : oH) (mc ms : Nat) (Post : oP) : Prop :=
  Met (gl G) (mY M) (mW M :: o_TT) (mRm M mc ms) (o_Pc G as h) (o_Qc G Post) mc ms (o_A G)
-- small facts
theorem o_cat (G : oG) (v : Value) : (o_rl G v).category = v.category := by cases v <;> rfl
theorem o_ws_len (G : oG) (h : oH) : (o_ws G h).length = h.length := by simp [o_ws]
theorem o_ws_at {G : oG} {h : oH} {k : Nat} {e : oE} (hk : h[k]? = some e) : (o_ws G h)[k]? = some ((gH G).size + k, o_rE G e) := by simp [o_ws, hk]
theorem o_ws_set (G : oG) (h : oH) (k : Nat) (e : oE) : o_ws G (h.set k e) = (o_ws G h).set k ((gH G).size + k, o_rE G e) := by
  apply List.ext_getElem?
  intro j
  by_cases hj : k = j
  · subst hj
    by_cases hl : k < h.length
    · rw [List.getElem?_set_self (by rw [o_ws_len]; exact hl)]
      exact o_ws_at (List.getElem?_set_self hl)
    · rw [List.getElem?_eq_none (by rw [o_ws_len, List.length_set]; omega), List.getElem?_eq_none (by rw [List.length_set, o_ws_len]; omega)]
  · rw [List.getElem?_set_ne hj]
    simp only [o_ws, List.getElem?_mapIdx, List.getElem?_set_ne hj]
theorem o_ws_app (G : oG) (h : oH) (e : oE) : o_ws G (h ++ [e]) = o_ws G h ++ [((gH G).size + h.length, o_rE G e)] := by
  simp [o_ws, List.mapIdx_append]
theorem o_Wd.set {G : oG} {h : oH} {H H1 : Heap} {locs : List Loc} {k i : Nat} {e0 e : oE} (hW : o_Wd G h H locs) (hk : h[k]? = some e0) (he : va_at (gD G) o_cl ((gH G).size + k, o_rE G e) H1) (z : H1.size = H.size) (oq : ∀ q : Nat, q ≠ (gH G).size + k → H1[q]? = H[q]?) : o_Wd G (h.set k e) H1 (locs ++ [⟨(gH G).size + k, i⟩]) := by
  obtain ⟨hP, hD, hS, hz⟩ := hW
  have hk' := o_ws_at (G := G) hk
  unfold o_Wd
  rw [o_ws_set]
  exact ⟨hP.set hD hk' he oq, hD.set hk', hS.put z oq (hD.2 k _ hk'), by rw [z, hz, List.length_set]⟩
theorem o_Wd.push {G : oG} {h : oH} {H H1 : Heap} {locs : List Loc} {e : oE} (hW : o_Wd G h H locs) (he : va_at (gD G) o_cl (H.size, o_rE G e) H1) (z : H1.size = H.size + 1) (oq : ∀ q : Nat, q < H.size → H1[q]? = H[q]?) : o_Wd G (h ++ [e]) H1 locs := by
  obtain ⟨hP, hD, hS, hz⟩ := hW
  unfold o_Wd
  rw [o_ws_app, ← hz]
  have hk : ∀ (k : Nat) (x : Nat × va_E), (o_ws G h)[k]? = some x → H1[x.1]? = H[x.1]? := fun k x hx => oq x.1 ((hP k x hx).lt)
  refine ⟨(hP.kept hk).app (fun k x hx => ?_), hD.push hP rfl hS.1, ⟨Nat.le_trans hS.1 (by omega), fun x h1 h2 => (oq x (Nat.lt_of_lt_of_le h1 hS.1)).trans (hS.2.1 x h1 h2), hS.2.2⟩, by rw [z, hz, List.length_append]; rfl⟩
  have hz : k < 1 := (List.getElem?_eq_some_iff.mp hx).1
  rw [show k = 0 by omega] at hx
  cases hx
  exact he
theorem o_Wd.forget {G : oG} {h : oH} {H : Heap} {locs : List Loc} (hW : o_Wd G h H locs) : o_Wd G h H [] := ⟨hW.1, hW.2.1, ⟨hW.2.2.1.1, hW.2.2.1.2.1, fun _ h => absurd h List.not_mem_nil⟩, hW.2.2.2⟩
theorem o_Sf.same {G : oG} {u U : State} (h : u.vm = U.vm) (hS : o_Sf G u) : o_Sf G U := by
  obtain ⟨h1, h2, h3, h4, h5⟩ := hS
  have ha : u.vm.Alike U.vm := by rw [h]; exact Vm.Alike.refl _
  exact ⟨h1.moved ha, h2.moved ha, h3, fun w hw => va_Nw.same (o_NW_tab w hw) h (h4 w hw), fun C hC => (h5 C hC).moved ha⟩
theorem o_Sf.warm {G : oG} {s U : State} (hW : s.WarmedH U.vm) (hS : o_Sf G s) : o_Sf G U := by
  obtain ⟨h1, h2, h3, h4, h5⟩ := hS
  exact ⟨h1.moved hW.alike, h2.moved hW.alike, h3, fun w hw => o_NW_warm w hw hW (h4 w hw), fun C hC => (h5 C hC).moved hW.alike⟩
theorem o_blind (G : oG) (as : List Value) (h : oH) : FrameBlind (o_Pc G as h) := fun a U g mk ⟨h1, h2, h3⟩ => ⟨h1, h2, o_Sf.same (u := U) (U := U.calling g mk a) rfl h3⟩
