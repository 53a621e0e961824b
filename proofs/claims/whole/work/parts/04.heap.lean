/-! Fields, arrays, new cells, calls. -/
def o_get (h : oH) (v : Value) : Option oE := match v with
  | .ref (a + 1) => h[a]?
  | _ => none
def o_ix (v : Value) : Nat := match v with
  | .ref (a + 1) => a
  | _ => 0
theorem o_get_spec {h : oH} {v : Value} {e : oE} (hg : o_get h v = some e) : ∃ a : Nat, v = .ref (a + 1) ∧ h[a]? = some e := by
  unfold o_get at hg
  split at hg
  · exact ⟨_, rfl, hg⟩
  · cases hg
/-- what the tables say of the objects of number ci -/
def o_Cl (ci : Nat) (C : String) (T : u_T) (N : Nat) (ty : Nat → FieldType) : Prop :=
  o_cl[ci]? = some (C, T, N) ∧ (∀ w ∈ u_ws C T N, w ∈ o_TT) ∧ (∀ k, k < N → parseFieldDescriptor (T k).2.2.1 = some (ty k)) ∧ ∀ a, a < N → ∀ b, b < N → a ≠ b → (T a).2.1 ≠ (T b).2.1
section OW
variable {G : oG} {p : Program} {e : Env} {R : Room} {s : State} {m : MethodId} {args : Array Value} {below : List Frame} {meth : Method} {cd : Code} {H : Heap} {locs : List Loc} {cells slots : Nat} {Q : State → Prop} {ls : Array Slot} {rest : List Value} {own : String} {cc : ByteArray} {h : oH} {ci a k index pc N : Nat} {C : String} {T : u_T} {ty : Nat → FieldType} {fs : List Value} {v : Value}
theorem o_wput (hx : p.tables.exec = Jvm.exec) (hb : cd.code = cc) (hts : ∀ w ∈ o_TT, w.before args s = true) (hown : s.vm.findClass own = some m.cls) (hSf : o_Sf G s) (hC : o_Cl ci C T N ty) (hW : o_Wd G h H locs) (ha : h[a]? = some (.inr (ci, fs))) (hk : k < N) (hlink : (Cond.fieldLink own index (T k).1 (T k).2.1 (T k).2.2.1).before args s = true) (hfin : (T k).2.2.2 = false) (hn : narrow (ty k) (o_rl G v) = o_rl G v) (hfit : fits (ty k) (o_rl G v) = true) (hl : k < fs.length) (hd : decode cc pc = .ok (.putfield index, 3))
    (kk : ∀ (H1 : Heap) (locs1 : List Loc), o_Wd G (h.set a (.inr (ci, fs.set k v))) H1 locs1 → W p (gl G) e R s m args below meth cd H1 locs1 cells slots Q (F0 m (pc + 3) ls rest)) : W p (gl G) e R s m args below meth cd H locs cells slots Q (F0 m pc ls (o_rl G v :: .ref ((gH G).size + a) :: rest)) := by
  have hap := va_apart (own := own) hts hC.2.1 ty hC.2.2.1 hC.2.2.2 hSf.1 hC.1
  obtain ⟨r, h1, cell, q1, q2, q3, q4⟩ := hW.1 a _ (o_ws_at ha)
  have hr : r = (C, T, N) := Option.some.inj (h1.symm.trans hC.1)
  subst hr
  obtain ⟨hS, hfc, kC, hkC, hkind⟩ := hSf.1.1 ci _ hC.1
  obtain ⟨cf, kf, fi, f, hi, hsl⟩ := hS k hk
  have hlay := hts _ (hC.2.1 _ (u_in_lay hk))
  unfold u_lay at hlay
  rw [if_neg (by rw [hfin]; decide)] at hlay
  have hst := (u_facts hfc hkC (u_lays hts hC.2.1 hk) hi).1
  have h6 := u_store hfc hkC hkind hlay hi (hC.2.2.1 k hk) hn hfit
  refine W.putK hx hb (f := f) ⟨hown, hlink, ⟨_, _, _, hi⟩, hst⟩ (by rw [q2]; exact h6) q1 q3 (by rw [hsl]; exact k2_hasslot (q4 k hk)) rfl rfl hd fun H' e1 e2 e3 => ?_
  rw [hsl] at e1 ⊢
  refine kk H' _ (hW.set (e := .inr (ci, fs.set k v)) ha ⟨_, hC.1, t_OB.to (V := updV (vp_V (fs.map (o_rl G))) k (o_rl G v)) ⟨_, e1, q2, q3, t_set q4 hap hk _⟩ (fun j _ => ?_)⟩ e2 e3)
  show _ = vp_V ((fs.set k v).map (o_rl G)) j
  rw [List.map_set]
  exact vp_updV_set (by rw [List.length_map]; exact hl) _ j
theorem o_wputN (hx : p.tables.exec = Jvm.exec) (hb : cd.code = cc) (hts : ∀ w ∈ o_TT, w.before args s = true) (hown : s.vm.findClass own = some m.cls) (hSf : o_Sf G s) (hC : o_Cl ci C T N ty) (hW : o_Wd G h H locs) (ha : h[a]? = some (.inr (ci, fs))) (hk : k < N) {host : String} (hlink : (Cond.fieldLinkNest own index (T k).1 (T k).2.1 (T k).2.2.1 host).before args s = true) (hfin : (T k).2.2.2 = false) (hn : narrow (ty k) (o_rl G v) = o_rl G v) (hfit : fits (ty k) (o_rl G v) = true) (hl : k < fs.length) (hd : decode cc pc = .ok (.putfield index, 3))
    (kk : ∀ (H1 : Heap) (locs1 : List Loc), o_Wd G (h.set a (.inr (ci, fs.set k v))) H1 locs1 → W p (gl G) e R s m args below meth cd H1 locs1 cells slots Q (F0 m (pc + 3) ls rest)) : W p (gl G) e R s m args below meth cd H locs cells slots Q (F0 m pc ls (o_rl G v :: .ref ((gH G).size + a) :: rest)) := by
  have hap := va_apart (own := own) hts hC.2.1 ty hC.2.2.1 hC.2.2.2 hSf.1 hC.1
  obtain ⟨r, h1, cell, q1, q2, q3, q4⟩ := hW.1 a _ (o_ws_at ha)
  have hr : r = (C, T, N) := Option.some.inj (h1.symm.trans hC.1)
  subst hr
  obtain ⟨hS, hfc, kC, hkC, hkind⟩ := hSf.1.1 ci _ hC.1
  obtain ⟨cf, kf, fi, f, hi, hsl⟩ := hS k hk
  have hlay := hts _ (hC.2.1 _ (u_in_lay hk))
  unfold u_lay at hlay
  rw [if_neg (by rw [hfin]; decide)] at hlay
  have hst := (u_facts hfc hkC (u_lays hts hC.2.1 hk) hi).1
  have h6 := u_store hfc hkC hkind hlay hi (hC.2.2.1 k hk) hn hfit
  refine va_WputK hx hb (f := f) hown hlink hi hst (by rw [q2]; exact h6) q1 q3 (by rw [hsl]; exact k2_hasslot (q4 k hk)) rfl rfl hd fun H' e1 e2 e3 => ?_
  rw [hsl] at e1 ⊢
  refine kk H' _ (hW.set (e := .inr (ci, fs.set k v)) ha ⟨_, hC.1, t_OB.to (V := updV (vp_V (fs.map (o_rl G))) k (o_rl G v)) ⟨_, e1, q2, q3, t_set q4 hap hk _⟩ (fun j _ => ?_)⟩ e2 e3)
  show _ = vp_V ((fs.set k v).map (o_rl G)) j
  rw [List.map_set]
  exact vp_updV_set (by rw [List.length_map]; exact hl) _ j
theorem o_wputF (hx : p.tables.exec = Jvm.exec) (hb : cd.code = cc) (hts : ∀ w ∈ o_TT, w.before args s = true) (hown : s.vm.findClass own = some m.cls) (hSf : o_Sf G s) (hC : o_Cl ci C T N ty) (hW : o_Wd G h H locs) (ha : h[a]? = some (.inr (ci, fs))) (hk : k < N) (hlink : (Cond.fieldLink own index (T k).1 (T k).2.1 (T k).2.2.1).before args s = true) (hfin : (T k).2.2.2 = true) (hin2 : meth.name = "<init>") (hdecl : (T k).1 = own) (hn : narrow (ty k) (o_rl G v) = o_rl G v) (hfit : fits (ty k) (o_rl G v) = true) (hl : k < fs.length) (hd : decode cc pc = .ok (.putfield index, 3))
    (kk : ∀ (H1 : Heap) (locs1 : List Loc), o_Wd G (h.set a (.inr (ci, fs.set k v))) H1 locs1 → W p (gl G) e R s m args below meth cd H1 locs1 cells slots Q (F0 m (pc + 3) ls rest)) : W p (gl G) e R s m args below meth cd H locs cells slots Q (F0 m pc ls (o_rl G v :: .ref ((gH G).size + a) :: rest)) := by
  have hap := va_apart (own := own) hts hC.2.1 ty hC.2.2.1 hC.2.2.2 hSf.1 hC.1
  obtain ⟨r, h1, cell, q1, q2, q3, q4⟩ := hW.1 a _ (o_ws_at ha)
  have hr : r = (C, T, N) := Option.some.inj (h1.symm.trans hC.1)
  subst hr
  obtain ⟨hS, hfc, kC, hkC, hkind⟩ := hSf.1.1 ci _ hC.1
  obtain ⟨cf, kf, fi, f, hi, hsl⟩ := hS k hk
  have hlay := hts _ (hC.2.1 _ (u_in_lay hk))
  unfold u_lay at hlay
  rw [if_pos hfin] at hlay
  have hst := (u_facts hfc hkC (u_lays hts hC.2.1 hk) hi).1
  have hcf : m.cls = cf := by
    obtain ⟨_, _, c', _, _, _, -, -, hf', -, -, -, hown2, -⟩ := Cond.laysFinal_spec hlay
    have e1 : c' = cf := by have := hi.symm.trans hf'; simp at this; exact this.1.symm
    rw [hdecl] at hown2
    rw [← e1]; exact Option.some.inj (hown.symm.trans hown2)
  have h6 := u_fits hfc hkC hkind (Or.inr hlay) hi (hC.2.2.1 k hk) hn hfit
  refine W.putFinK hx hb hown hlink hi hst hcf hin2 (by rw [q2]; exact h6) q1 q3 (by rw [hsl]; exact k2_hasslot (q4 k hk)) rfl rfl hd fun H' e1 e2 e3 => ?_
  rw [hsl] at e1 ⊢
  refine kk H' _ (hW.set (e := .inr (ci, fs.set k v)) ha ⟨_, hC.1, t_OB.to (V := updV (vp_V (fs.map (o_rl G))) k (o_rl G v)) ⟨_, e1, q2, q3, t_set q4 hap hk _⟩ (fun j _ => ?_)⟩ e2 e3)
  show _ = vp_V ((fs.set k v).map (o_rl G)) j
  rw [List.map_set]
  exact vp_updV_set (by rw [List.length_map]; exact hl) _ j
theorem o_wiast {n : Nat} {f : Nat → Int32} {i : Int32} {x : Int32} (hx : p.tables.exec = Jvm.exec) (hb : cd.code = cc) (hSf : o_Sf G s) (hW : o_Wd G h H locs) (ha : h[a]? = some (.inl (0, n, .inl f))) (hin : vp_in i n) (hd : decode cc pc = .ok (.iastore, 1))
    (kk : ∀ (H1 : Heap) (locs1 : List Loc), o_Wd G (h.set a (.inl (0, n, .inl (upd f i.toNatClampNeg x)))) H1 locs1 → W p (gl G) e R s m args below meth cd H1 locs1 cells slots Q (F0 m (pc + 1) ls rest)) : W p (gl G) e R s m args below meth cd H locs cells slots Q (F0 m pc ls (.int x :: .int i :: .ref ((gH G).size + a) :: rest)) := by
  refine W.iast hx hb (hW.1 a _ (o_ws_at ha)) ((hSf.1.2 0 _ rfl).1 n (fun j => .int (f j))) (fun q => by cases q) (by show ¬ (i < 0 ∨ (arrV _ _ _).slots.size ≤ _); rw [arrV_size]; exact hin) rfl rfl hd fun H1 e z oq => ?_
  refine kk H1 _ (hW.set (e := .inl (0, n, .inl (upd f i.toNatClampNeg x))) ha ?_ z oq)
  show H1[(gH G).size + a]? = some (vp_cell (gA G 0) (n, .inl (upd f i.toNatClampNeg x)))
  rw [e]
  show some (Cell.setSlot (vp_cell (gA G 0) (n, .inl f)) _ _) = _
  rw [vp_cell_i, vp_cell_i, arrV_store]
  congr 2
  funext q
  by_cases hq : q = i.toNatClampNeg
  · subst hq
    simp [updV, upd]
    try rfl
  · simp [updV, upd, hq]
theorem o_wlast {n : Nat} {f : Nat → Int64} {i : Int32} {x : Int64} (hx : p.tables.exec = Jvm.exec) (hb : cd.code = cc) (hSf : o_Sf G s) (hW : o_Wd G h H locs) (ha : h[a]? = some (.inl (1, n, .inr (.inl f)))) (hin : vp_in i n) (hd : decode cc pc = .ok (.lastore, 1))
    (kk : ∀ (H1 : Heap) (locs1 : List Loc), o_Wd G (h.set a (.inl (1, n, .inr (.inl (vp_updL f i.toNatClampNeg x))))) H1 locs1 → W p (gl G) e R s m args below meth cd H1 locs1 cells slots Q (F0 m (pc + 1) ls rest)) : W p (gl G) e R s m args below meth cd H locs cells slots Q (F0 m pc ls (.long x :: .int i :: .ref ((gH G).size + a) :: rest)) := by
  refine W.last hx hb (hW.1 a _ (o_ws_at ha)) ((hSf.1.2 1 _ rfl).1 n (fun j => .long (f j))) (fun q => by cases q) (by show ¬ (i < 0 ∨ (arrV _ _ _).slots.size ≤ _); rw [arrV_size]; exact hin) rfl rfl hd fun H1 e z oq => ?_
  refine kk H1 _ (hW.set (e := .inl (1, n, .inr (.inl (vp_updL f i.toNatClampNeg x)))) ha ?_ z oq)
  show H1[(gH G).size + a]? = some (vp_cell (gA G 1) (n, .inr (.inl (vp_updL f i.toNatClampNeg x))))
  rw [e]
  show some (Cell.setSlot (vp_cell (gA G 1) (n, .inr (.inl f))) _ _) = _
  rw [vp_cell_l, vp_cell_l, arrV_store]
  congr 2
  funext q
  by_cases hq : q = i.toNatClampNeg
  · subst hq
    simp [updV, vp_updL]
    try rfl
  · simp [updV, vp_updL, hq]
theorem o_wzast {n : Nat} {f : Nat → Int32} {i : Int32} {x : Int32} (hx : p.tables.exec = Jvm.exec) (hb : cd.code = cc) (hSf : o_Sf G s) (hW : o_Wd G h H locs) (ha : h[a]? = some (.inl (2, n, .inl f))) (hin : vp_in i n) (hd : decode cc pc = .ok (.bastore, 1))
    (kk : ∀ (H1 : Heap) (locs1 : List Loc), o_Wd G (h.set a (.inl (2, n, .inl (upd f i.toNatClampNeg (vp_nar .boolean x))))) H1 locs1 → W p (gl G) e R s m args below meth cd H1 locs1 cells slots Q (F0 m (pc + 1) ls rest)) : W p (gl G) e R s m args below meth cd H locs cells slots Q (F0 m pc ls (.int x :: .int i :: .ref ((gH G).size + a) :: rest)) := by
  refine W.zast hx hb (hW.1 a _ (o_ws_at ha)) ((hSf.1.2 2 _ rfl).1 n (fun j => .int (f j))) (fun q => by cases q) (by show ¬ (i < 0 ∨ (arrV _ _ _).slots.size ≤ _); rw [arrV_size]; exact hin) rfl rfl hd fun H1 e z oq => ?_
  refine kk H1 _ (hW.set (e := .inl (2, n, .inl (upd f i.toNatClampNeg (vp_nar .boolean x)))) ha ?_ z oq)
  show H1[(gH G).size + a]? = some (vp_cell (gA G 2) (n, .inl (upd f i.toNatClampNeg (vp_nar .boolean x))))
  rw [e]
  show some (Cell.setSlot (vp_cell (gA G 2) (n, .inl f)) _ _) = _
  rw [vp_cell_i, vp_cell_i, arrV_store]
  congr 2
  funext q
  by_cases hq : q = i.toNatClampNeg
  · subst hq
    simp [updV, upd, vp_nar]
    try rfl
  · simp [updV, upd, vp_nar, hq]
theorem o_rfE {G : oG} {f : Nat → Option Nat} {t n : Nat} : o_rE G (.inl (t, n, .inr (.inr (.inr (.inr f))))) = .inl (gA G t, n, .inr (.inr (.inr (.inr (fun j => (f j).map (o_ad G)))))) := rfl
theorem o_waast {n t b : Nat} {E : String} {f : Nat → Option Nat} {i : Int32} {vs : List Value} (hx : p.tables.exec = Jvm.exec) (hb : cd.code = cc) (hSf : o_Sf G s) (hW : o_Wd G h H locs) (ha : h[a]? = some (.inl (t, n, .inr (.inr (.inr (.inr f)))))) (ht : (o_tys G)[t]? = some (gA G t, .object E)) (hv : h[b]? = some (.inr (ci, vs))) (hC : o_Cl ci E T N ty) (hin : vp_in i n) (hd : decode cc pc = .ok (.aastore, 1))
    (kk : ∀ (H1 : Heap) (locs1 : List Loc), o_Wd G (h.set a (.inl (t, n, .inr (.inr (.inr (.inr (va_up f i.toNatClampNeg (some (b + 1))))))))) H1 locs1 → W p (gl G) e R s m args below meth cd H1 locs1 cells slots Q (F0 m (pc + 1) ls rest)) : W p (gl G) e R s m args below meth cd H locs cells slots Q (F0 m pc ls (.ref ((gH G).size + b) :: .int i :: .ref ((gH G).size + a) :: rest)) := by
  have hlt : i.toNatClampNeg < n := Nat.not_le.mp fun q => hin (Or.inr q)
  have h0 : ¬ i < 0 := fun q => hin (Or.inl q)
  obtain ⟨r', hr', cellV, g1, g2, g3, -⟩ := hW.1 b _ (o_ws_at hv)
  have hcls := (hSf.1.1 ci _ hC.1).2
  obtain ⟨kA, comp, k1, k2, k3, -⟩ := (hSf.1.2 t _ ht).2
  have hcomp : comp = (gD G).1 ci := Option.some.inj (k3.symm.trans hcls.1)
  subst hcomp
  have hcls2 := hcls
  obtain ⟨kC, hkC, -⟩ := hcls.2
  refine W.aast hx hb (hW.1 a _ (o_ws_at ha)) (fun q h => by cases h) (fun h => by cases h) k1 k2 rfl hkC ⟨h0, by show _ < (arrV _ _ _).slots.size; rw [arrV_size]; exact hlt⟩ g1 (fun q h => by rw [g3] at h; cases h) (by rw [g2]; exact hkC) (by rw [g2]; exact va_assign hcls2) rfl rfl hd fun H1 e z oq => ?_
  refine kk H1 _ (hW.set (e := .inl (t, n, .inr (.inr (.inr (.inr (va_up f i.toNatClampNeg (some (b + 1)))))))) ha ?_ z oq)
  show H1[(gH G).size + a]? = some (vp_cell (gA G t) (n, .inr (.inr (.inr (.inr (fun j => (va_up f i.toNatClampNeg (some (b + 1)) j).map (o_ad G)))))))
  rw [e]
  show some (Cell.setSlot (vp_cell (gA G t) (n, .inr (.inr (.inr (.inr (fun j => (f j).map (o_ad G)))))) ) _ _) = _
  rw [vp_cell_q, vp_cell_q, arrV_store]
  congr 2
  funext q
  by_cases hq : q = i.toNatClampNeg
  · subst hq
    simp [updV, va_up, va_rf, o_ad]
  · simp [updV, va_up, hq]
/-- behind a call -/
theorem o_cont {mc ms : Nat} {P : oP} {as : Array Value} {st0 : List Value} (hr : va_Run p (gl G) e R s m args below meth cd H locs cells slots mc ms (F0 m pc ls st0) rest (o_Qc G P as) (o_A G)) (hW : o_Wd G h H locs)
    (kk : ∀ (v : Option Value) (h' : oH) (H' : Heap) (locs' : List Loc), P v h' → o_Wd G h' H' locs' → W p (gl G) e R s m args below meth cd H' locs' (cells + mc) (slots + ms) Q (F0 m (pc + 3) ls ((v.map (o_rl G)).toList ++ rest))) : W p (gl G) e R s m args below meth cd H locs cells slots Q (F0 m pc ls st0) := by
  intro T hT X
  obtain ⟨v, st₀, t, T', L, e0, X', hL, e1, e2, ⟨v', h', hP, hv, hW'⟩, st⟩ := hr T hT X
  have hv' : v = v'.map (o_rl G) := by injection hv
  subst hv'
  have hW2 : o_Wd G h' T'.heap (locs ++ L) := by
    rw [e1]
    refine ⟨hW'.1, hW'.2.1, ⟨hW'.2.2.1.1, hW'.2.2.1.2.1, fun q hq => ?_⟩, hW'.2.2.2⟩
    rcases List.mem_append.mp hq with h1 | h1
    · exact hW.2.2.1.2.2 q h1
    · exact hL q h1
  obtain ⟨t2, a1, b1⟩ := kk v' h' T'.heap (locs ++ L) hP hW2 T' rfl X'
  exact ⟨t2, st t2 a1, b1⟩
end OW
section OJ
variable {G : oG} {M : oM} {Post : oP} {pc : Nat} {K : oK}
def o_getf (ci k : Nat) (K : oK) : oK := fun c s L st h => match st with
  | v :: r => match o_get h v with
    | some (.inr (cj, fs)) => cj = ci ∧ match fs[k]? with
      | some x => K c s L (x :: r) h
      | none => False
    | _ => False
  | _ => False
theorem so_getf {ci k N index : Nat} {C : String} {T : u_T} {ty : Nat → FieldType} (hC : o_Cl ci C T N ty) (hk : k < N) (hw : Cond.fieldLink (mY M).cls index (T k).1 (T k).2.1 (T k).2.2.1 ∈ o_TT) (hd : decode (mC M) pc = .ok (.getfield index, 3)) (kn : oS G M Post (pc + 3) K) : oS G M Post pc (o_getf ci k K) := by
  intro c s L st h hk2
  unfold o_getf at hk2
  split at hk2
  · split at hk2
    · rename_i v r _ cj fs hg
      obtain ⟨hc1, hk3⟩ := hk2
      subst hc1
      split at hk3
      · rename_i x hx
        obtain ⟨a, rfl, ha⟩ := o_get_spec hg
        intro p e R s0 m args below meth cd Q H locs cells slots ls hE hW hc hs hl
        exact va_get hE.1 hE.2.1 hE.2.2.2.2.2.1 hC.2.1 hE.2.2.2.1 hE.2.2.2.2.2.2.2.2.1.1 hW.1 a (o_ws_at ha) hC.1 k hk (hE.2.2.2.2.2.1 _ hw) (fun _ q => q) (by rw [List.getElem?_map, hx]; rfl) hd (kn _ _ _ _ _ hk3 p e R s0 m args below meth cd Q H locs cells slots ls hE hW hc hs hl)
      · exact hk3.elim
    · exact hk2.elim
  · exact hk2.elim
theorem so_getfN {ci k N index : Nat} {C : String} {T : u_T} {ty : Nat → FieldType} (hC : o_Cl ci C T N ty) (hk : k < N) {host : String} (hw : Cond.fieldLinkNest (mY M).cls index (T k).1 (T k).2.1 (T k).2.2.1 host ∈ o_NW) (hd : decode (mC M) pc = .ok (.getfield index, 3)) (kn : oS G M Post (pc + 3) K) : oS G M Post pc (o_getf ci k K) := by
  intro c s L st h hk2
  unfold o_getf at hk2
  split at hk2
  · split at hk2
    · rename_i v r _ cj fs hg
      obtain ⟨hc1, hk3⟩ := hk2
      subst hc1
      split at hk3
      · rename_i x hx
        obtain ⟨a, rfl, ha⟩ := o_get_spec hg
        intro p e R s0 m args below meth cd Q H locs cells slots ls hE hW hc hs hl
        exact va_getN hE.1 hE.2.1 hE.2.2.2.2.2.1 hC.2.1 hE.2.2.2.1 hE.2.2.2.2.2.2.2.2.1.1 hW.1 a (o_ws_at ha) hC.1 k hk (va_Nw.use rfl (hE.2.2.2.2.2.2.2.2.1.2.2.2.1 _ hw)) (fun _ q => q) (by rw [List.getElem?_map, hx]; rfl) hd (kn _ _ _ _ _ hk3 p e R s0 m args below meth cd Q H locs cells slots ls hE hW hc hs hl)
      · exact hk3.elim
    · exact hk2.elim
  · exact hk2.elim
def o_putfI (ci k : Nat) (K : oK) : oK := fun c s L st h => match st with
  | .int x :: v :: r => match o_get h v with
    | some (.inr (cj, fs)) => (cj = ci ∧ k < fs.length) ∧ K c s L r (h.set (o_ix v) (.inr (ci, fs.set k (.int x))))
    | _ => False
  | _ => False
def o_putfR (ci k : Nat) (K : oK) : oK := fun c s L st h => match st with
  | .ref x :: v :: r => match o_get h v with
    | some (.inr (cj, fs)) => (cj = ci ∧ k < fs.length) ∧ K c s L r (h.set (o_ix v) (.inr (ci, fs.set k (.ref x))))
    | _ => False
  | _ => False
theorem so_putfI {ci k N index : Nat} {C : String} {T : u_T} {ty : Nat → FieldType} (hC : o_Cl ci C T N ty) (hk : k < N) (hty : ty k = .int) (hfin : (T k).2.2.2 = false) (hw : Cond.fieldLink (mY M).cls index (T k).1 (T k).2.1 (T k).2.2.1 ∈ o_TT) (hd : decode (mC M) pc = .ok (.putfield index, 3)) (kn : oS G M Post (pc + 3) K) : oS G M Post pc (o_putfI ci k K) := by
  intro c s L st h hk2
  unfold o_putfI at hk2
  split at hk2
  · split at hk2
    · rename_i x v r _ cj fs hg
      obtain ⟨⟨hc1, hlen⟩, hk3⟩ := hk2
      subst hc1
      obtain ⟨a, rfl, ha⟩ := o_get_spec hg
      intro p e R s0 m args below meth cd Q H locs cells slots ls hE hW hc hs hl
      exact o_wput (v := .int x) hE.1 hE.2.1 hE.2.2.2.2.2.1 hE.2.2.2.1 hE.2.2.2.2.2.2.2.2.1 hC hW ha hk (hE.2.2.2.2.2.1 _ hw) hfin (by rw [hty]; rfl) (by rw [hty]; rfl) hlen hd (fun H1 locs1 hW1 => kn _ _ _ _ _ hk3 p e R s0 m args below meth cd Q H1 locs1 cells slots ls hE hW1 hc hs hl)
    · exact hk2.elim
  · exact hk2.elim
theorem so_putfIN {ci k N index : Nat} {C : String} {T : u_T} {ty : Nat → FieldType} (hC : o_Cl ci C T N ty) (hk : k < N) (hty : ty k = .int) (hfin : (T k).2.2.2 = false) {host : String} (hw : Cond.fieldLinkNest (mY M).cls index (T k).1 (T k).2.1 (T k).2.2.1 host ∈ o_NW) (hd : decode (mC M) pc = .ok (.putfield index, 3)) (kn : oS G M Post (pc + 3) K) : oS G M Post pc (o_putfI ci k K) := by
  intro c s L st h hk2
  unfold o_putfI at hk2
  split at hk2
  · split at hk2
    · rename_i x v r _ cj fs hg
      obtain ⟨⟨hc1, hlen⟩, hk3⟩ := hk2
      subst hc1
      obtain ⟨a, rfl, ha⟩ := o_get_spec hg
      intro p e R s0 m args below meth cd Q H locs cells slots ls hE hW hc hs hl
      exact o_wputN (v := .int x) hE.1 hE.2.1 hE.2.2.2.2.2.1 hE.2.2.2.1 hE.2.2.2.2.2.2.2.2.1 hC hW ha hk (va_Nw.use rfl (hE.2.2.2.2.2.2.2.2.1.2.2.2.1 _ hw)) hfin (by rw [hty]; rfl) (by rw [hty]; rfl) hlen hd (fun H1 locs1 hW1 => kn _ _ _ _ _ hk3 p e R s0 m args below meth cd Q H1 locs1 cells slots ls hE hW1 hc hs hl)
    · exact hk2.elim
  · exact hk2.elim
theorem so_putfIF {ci k N index : Nat} {C : String} {T : u_T} {ty : Nat → FieldType} (hC : o_Cl ci C T N ty) (hk : k < N) (hty : ty k = .int) (hfin : (T k).2.2.2 = true) (hin2 : (mY M).name = "<init>") (hdecl : (T k).1 = (mY M).cls) (hw : Cond.fieldLink (mY M).cls index (T k).1 (T k).2.1 (T k).2.2.1 ∈ o_TT) (hd : decode (mC M) pc = .ok (.putfield index, 3)) (kn : oS G M Post (pc + 3) K) : oS G M Post pc (o_putfI ci k K) := by
  intro c s L st h hk2
  unfold o_putfI at hk2
  split at hk2
  · split at hk2
    · rename_i x v r _ cj fs hg
      obtain ⟨⟨hc1, hlen⟩, hk3⟩ := hk2
      subst hc1
      obtain ⟨a, rfl, ha⟩ := o_get_spec hg
      intro p e R s0 m args below meth cd Q H locs cells slots ls hE hW hc hs hl
      exact o_wputF (v := .int x) hE.1 hE.2.1 hE.2.2.2.2.2.1 hE.2.2.2.1 hE.2.2.2.2.2.2.2.2.1 hC hW ha hk (hE.2.2.2.2.2.1 _ hw) hfin (hE.2.2.2.2.1 hin2) hdecl (by rw [hty]; rfl) (by rw [hty]; rfl) hlen hd (fun H1 locs1 hW1 => kn _ _ _ _ _ hk3 p e R s0 m args below meth cd Q H1 locs1 cells slots ls hE hW1 hc hs hl)
    · exact hk2.elim
  · exact hk2.elim
theorem so_putfR {ci k N index : Nat} {C : String} {T : u_T} {ty : Nat → FieldType} (hC : o_Cl ci C T N ty) (hk : k < N) (hty : (∃ E, ty k = .object E) ∨ (∃ E, ty k = .array E)) (hfin : (T k).2.2.2 = false) (hw : Cond.fieldLink (mY M).cls index (T k).1 (T k).2.1 (T k).2.2.1 ∈ o_TT) (hd : decode (mC M) pc = .ok (.putfield index, 3)) (kn : oS G M Post (pc + 3) K) : oS G M Post pc (o_putfR ci k K) := by
  intro c s L st h hk2
  unfold o_putfR at hk2
  split at hk2
  · split at hk2
    · rename_i x v r _ cj fs hg
      obtain ⟨⟨hc1, hlen⟩, hk3⟩ := hk2
      subst hc1
      obtain ⟨a, rfl, ha⟩ := o_get_spec hg
      intro p e R s0 m args below meth cd Q H locs cells slots ls hE hW hc hs hl
      exact o_wput (v := .ref x) hE.1 hE.2.1 hE.2.2.2.2.2.1 hE.2.2.2.1 hE.2.2.2.2.2.2.2.2.1 hC hW ha hk (hE.2.2.2.2.2.1 _ hw) hfin (by rcases hty with ⟨E, q⟩ | ⟨E, q⟩ <;> rw [q] <;> rfl) (by rcases hty with ⟨E, q⟩ | ⟨E, q⟩ <;> rw [q] <;> rfl) hlen hd (fun H1 locs1 hW1 => kn _ _ _ _ _ hk3 p e R s0 m args below meth cd Q H1 locs1 cells slots ls hE hW1 hc hs hl)
    · exact hk2.elim
  · exact hk2.elim
theorem so_putfRN {ci k N index : Nat} {C : String} {T : u_T} {ty : Nat → FieldType} (hC : o_Cl ci C T N ty) (hk : k < N) (hty : (∃ E, ty k = .object E) ∨ (∃ E, ty k = .array E)) (hfin : (T k).2.2.2 = false) {host : String} (hw : Cond.fieldLinkNest (mY M).cls index (T k).1 (T k).2.1 (T k).2.2.1 host ∈ o_NW) (hd : decode (mC M) pc = .ok (.putfield index, 3)) (kn : oS G M Post (pc + 3) K) : oS G M Post pc (o_putfR ci k K) := by
  intro c s L st h hk2
  unfold o_putfR at hk2
  split at hk2
  · split at hk2
    · rename_i x v r _ cj fs hg
      obtain ⟨⟨hc1, hlen⟩, hk3⟩ := hk2
      subst hc1
      obtain ⟨a, rfl, ha⟩ := o_get_spec hg
      intro p e R s0 m args below meth cd Q H locs cells slots ls hE hW hc hs hl
      exact o_wputN (v := .ref x) hE.1 hE.2.1 hE.2.2.2.2.2.1 hE.2.2.2.1 hE.2.2.2.2.2.2.2.2.1 hC hW ha hk (va_Nw.use rfl (hE.2.2.2.2.2.2.2.2.1.2.2.2.1 _ hw)) hfin (by rcases hty with ⟨E, q⟩ | ⟨E, q⟩ <;> rw [q] <;> rfl) (by rcases hty with ⟨E, q⟩ | ⟨E, q⟩ <;> rw [q] <;> rfl) hlen hd (fun H1 locs1 hW1 => kn _ _ _ _ _ hk3 p e R s0 m args below meth cd Q H1 locs1 cells slots ls hE hW1 hc hs hl)
    · exact hk2.elim
  · exact hk2.elim
theorem so_putfRF {ci k N index : Nat} {C : String} {T : u_T} {ty : Nat → FieldType} (hC : o_Cl ci C T N ty) (hk : k < N) (hty : (∃ E, ty k = .object E) ∨ (∃ E, ty k = .array E)) (hfin : (T k).2.2.2 = true) (hin2 : (mY M).name = "<init>") (hdecl : (T k).1 = (mY M).cls) (hw : Cond.fieldLink (mY M).cls index (T k).1 (T k).2.1 (T k).2.2.1 ∈ o_TT) (hd : decode (mC M) pc = .ok (.putfield index, 3)) (kn : oS G M Post (pc + 3) K) : oS G M Post pc (o_putfR ci k K) := by
  intro c s L st h hk2
  unfold o_putfR at hk2
  split at hk2
  · split at hk2
    · rename_i x v r _ cj fs hg
      obtain ⟨⟨hc1, hlen⟩, hk3⟩ := hk2
      subst hc1
      obtain ⟨a, rfl, ha⟩ := o_get_spec hg
      intro p e R s0 m args below meth cd Q H locs cells slots ls hE hW hc hs hl
      exact o_wputF (v := .ref x) hE.1 hE.2.1 hE.2.2.2.2.2.1 hE.2.2.2.1 hE.2.2.2.2.2.2.2.2.1 hC hW ha hk (hE.2.2.2.2.2.1 _ hw) hfin (hE.2.2.2.2.1 hin2) hdecl (by rcases hty with ⟨E, q⟩ | ⟨E, q⟩ <;> rw [q] <;> rfl) (by rcases hty with ⟨E, q⟩ | ⟨E, q⟩ <;> rw [q] <;> rfl) hlen hd (fun H1 locs1 hW1 => kn _ _ _ _ _ hk3 p e R s0 m args below meth cd Q H1 locs1 cells slots ls hE hW1 hc hs hl)
    · exact hk2.elim
  · exact hk2.elim
def o_ints (G : oG) (h : oH) (v : Value) : Option (Nat × (Nat → Int32)) := match v with
  | .ref 0 => some (gn G, gx G)
  | .ref (a + 1) => match h[a]? with
    | some (.inl (t, n, .inl f)) => if t = 0 then some (n, f) else none
    | _ => none
  | _ => none
theorem o_ints_spec {h : oH} {v : Value} {n : Nat} {f : Nat → Int32} (hg : o_ints G h v = some (n, f)) : (v = .ref 0 ∧ n = gn G ∧ f = gx G) ∨ ∃ a : Nat, v = .ref (a + 1) ∧ h[a]? = some (.inl (0, n, .inl f)) := by
  unfold o_ints at hg
  split at hg
  · left
    cases hg
    exact ⟨rfl, rfl, rfl⟩
  · right
    rename_i a
    split at hg
    · rename_i t n' f' ha
      split at hg
      · rename_i ht
        subst ht
        cases hg
        exact ⟨a, rfl, ha⟩
      · cases hg
    · cases hg
  · cases hg
def o_iald (G : oG) (K : oK) : oK := fun c s L st h => match st with
  | .int i :: v :: r => match o_ints G h v with
    | some (n, f) => vp_in i n ∧ K c s L (.int (f i.toNatClampNeg) :: r) h
    | none => False
  | _ => False
theorem so_iald (hd : decode (mC M) pc = .ok (.iaload, 1)) (kn : oS G M Post (pc + 1) K) : oS G M Post pc (o_iald G K) := by
  intro c s L st h hk2
  unfold o_iald at hk2
  split at hk2
  · split at hk2
    · rename_i i v r _ n f hg
      intro p e R s0 m args below meth cd Q H locs cells slots ls hE hW hc hs hl
      have hX := hE.2.2.2.2.2.2.2.2.1
      rcases o_ints_spec hg with ⟨rfl, rfl, rfl⟩ | ⟨a, rfl, ha⟩
      · exact va_sld (A := o_A G) hE.1 hE.2.1 hX.2.1 hX.2.2.1 (fun q => Nat.lt_irrefl _ (Nat.lt_of_lt_of_le hX.2.2.1 q)) hW.2.2.1 hk2.1 hd (kn _ _ _ _ _ hk2.2 p e R s0 m args below meth cd Q H locs cells slots ls hE hW hc hs hl)
      · exact va_iald hE.1 hE.2.1 hX.1 hW.1 a 0 (o_ws_at ha) rfl hk2.1 hd (kn _ _ _ _ _ hk2.2 p e R s0 m args below meth cd Q H locs cells slots ls hE hW hc hs hl)
    · exact hk2.elim
  · exact hk2.elim
def o_alen (G : oG) (K : oK) : oK := fun c s L st h => match st with
  | v :: r => match o_ints G h v with
    | some (n, _) => K c s L (.int (Int32.ofNat n) :: r) h
    | none => False
  | _ => False
theorem so_alen (hd : decode (mC M) pc = .ok (.arraylength, 1)) (kn : oS G M Post (pc + 1) K) : oS G M Post pc (o_alen G K) := by
  intro c s L st h hk2
  unfold o_alen at hk2
  split at hk2
  · split at hk2
    · rename_i v r _ n f hg
      intro p e R s0 m args below meth cd Q H locs cells slots ls hE hW hc hs hl
      have hX := hE.2.2.2.2.2.2.2.2.1
      rcases o_ints_spec hg with ⟨rfl, rfl, rfl⟩ | ⟨a, rfl, ha⟩
      · exact va_slen (A := o_A G) hE.1 hE.2.1 hX.2.1 hX.2.2.1 (fun q => Nat.lt_irrefl _ (Nat.lt_of_lt_of_le hX.2.2.1 q)) hW.2.2.1 hd (kn _ _ _ _ _ hk2 p e R s0 m args below meth cd Q H locs cells slots ls hE hW hc hs hl)
      · exact va_alen hE.1 hE.2.1 hX.1 hW.1 a 0 (o_ws_at ha) rfl rfl hd (kn _ _ _ _ _ hk2 p e R s0 m args below meth cd Q H locs cells slots ls hE hW hc hs hl)
    · exact hk2.elim
  · exact hk2.elim
def o_lald (K : oK) : oK := fun c s L st h => match st with
  | .int i :: v :: r => match o_get h v with
    | some (.inl (t, n, .inr (.inl f))) => t = 1 ∧ vp_in i n ∧ K c s L (.long (f i.toNatClampNeg) :: r) h
    | _ => False
  | _ => False
theorem so_lald (hd : decode (mC M) pc = .ok (.laload, 1)) (kn : oS G M Post (pc + 1) K) : oS G M Post pc (o_lald K) := by
  intro c s L st h hk2
  unfold o_lald at hk2
  split at hk2
  · split at hk2
    · rename_i i v r _ t n f hg
      obtain ⟨rfl, hin, hk3⟩ := hk2
      obtain ⟨a, rfl, ha⟩ := o_get_spec hg
      intro p e R s0 m args below meth cd Q H locs cells slots ls hE hW hc hs hl
      exact va_lald hE.1 hE.2.1 hE.2.2.2.2.2.2.2.2.1.1 hW.1 a 1 (o_ws_at ha) rfl hin hd (kn _ _ _ _ _ hk3 p e R s0 m args below meth cd Q H locs cells slots ls hE hW hc hs hl)
    · exact hk2.elim
  · exact hk2.elim
def o_zald (K : oK) : oK := fun c s L st h => match st with
  | .int i :: v :: r => match o_get h v with
    | some (.inl (t, n, .inl f)) => t = 2 ∧ vp_in i n ∧ K c s L (.int (f i.toNatClampNeg) :: r) h
    | _ => False
  | _ => False
theorem so_zald (hd : decode (mC M) pc = .ok (.baload, 1)) (kn : oS G M Post (pc + 1) K) : oS G M Post pc (o_zald K) := by
  intro c s L st h hk2
  unfold o_zald at hk2
  split at hk2
  · split at hk2
    · rename_i i v r _ t n f hg
      obtain ⟨rfl, hin, hk3⟩ := hk2
      obtain ⟨a, rfl, ha⟩ := o_get_spec hg
      intro p e R s0 m args below meth cd Q H locs cells slots ls hE hW hc hs hl
      exact va_zald hE.1 hE.2.1 hE.2.2.2.2.2.2.2.2.1.1 hW.1 a 2 (o_ws_at ha) rfl hin hd (kn _ _ _ _ _ hk3 p e R s0 m args below meth cd Q H locs cells slots ls hE hW hc hs hl)
    · exact hk2.elim
  · exact hk2.elim
def o_iast (K : oK) : oK := fun c s L st h => match st with
  | .int x :: .int i :: v :: r => match o_get h v with
    | some (.inl (t, n, .inl f)) => t = 0 ∧ vp_in i n ∧ K c s L r (h.set (o_ix v) (.inl (t, n, .inl (upd f i.toNatClampNeg x))))
    | _ => False
  | _ => False
theorem so_iast (hd : decode (mC M) pc = .ok (.iastore, 1)) (kn : oS G M Post (pc + 1) K) : oS G M Post pc (o_iast K) := by
  intro c s L st h hk2
  unfold o_iast at hk2
  split at hk2
  · split at hk2
    · rename_i x i v r _ t n f hg
      obtain ⟨rfl, hin, hk3⟩ := hk2
      obtain ⟨a, rfl, ha⟩ := o_get_spec hg
      intro p e R s0 m args below meth cd Q H locs cells slots ls hE hW hc hs hl
      exact o_wiast hE.1 hE.2.1 hE.2.2.2.2.2.2.2.2.1 hW ha hin hd (fun H1 locs1 hW1 => kn _ _ _ _ _ hk3 p e R s0 m args below meth cd Q H1 locs1 cells slots ls hE hW1 hc hs hl)
    · exact hk2.elim
  · exact hk2.elim
def o_last (K : oK) : oK := fun c s L st h => match st with
  | .long x :: .int i :: v :: r => match o_get h v with
    | some (.inl (t, n, .inr (.inl f))) => t = 1 ∧ vp_in i n ∧ K c s L r (h.set (o_ix v) (.inl (t, n, .inr (.inl (vp_updL f i.toNatClampNeg x)))))
    | _ => False
  | _ => False
theorem so_last (hd : decode (mC M) pc = .ok (.lastore, 1)) (kn : oS G M Post (pc + 1) K) : oS G M Post pc (o_last K) := by
  intro c s L st h hk2
  unfold o_last at hk2
  split at hk2
  · split at hk2
    · rename_i x i v r _ t n f hg
      obtain ⟨rfl, hin, hk3⟩ := hk2
      obtain ⟨a, rfl, ha⟩ := o_get_spec hg
      intro p e R s0 m args below meth cd Q H locs cells slots ls hE hW hc hs hl
      exact o_wlast hE.1 hE.2.1 hE.2.2.2.2.2.2.2.2.1 hW ha hin hd (fun H1 locs1 hW1 => kn _ _ _ _ _ hk3 p e R s0 m args below meth cd Q H1 locs1 cells slots ls hE hW1 hc hs hl)
    · exact hk2.elim
  · exact hk2.elim
def o_zast (K : oK) : oK := fun c s L st h => match st with
  | .int x :: .int i :: v :: r => match o_get h v with
    | some (.inl (t, n, .inl f)) => t = 2 ∧ vp_in i n ∧ K c s L r (h.set (o_ix v) (.inl (t, n, .inl (upd f i.toNatClampNeg (vp_nar .boolean x)))))
    | _ => False
  | _ => False
theorem so_zast (hd : decode (mC M) pc = .ok (.bastore, 1)) (kn : oS G M Post (pc + 1) K) : oS G M Post pc (o_zast K) := by
  intro c s L st h hk2
  unfold o_zast at hk2
  split at hk2
  · split at hk2
    · rename_i x i v r _ t n f hg
      obtain ⟨rfl, hin, hk3⟩ := hk2
      obtain ⟨a, rfl, ha⟩ := o_get_spec hg
      intro p e R s0 m args below meth cd Q H locs cells slots ls hE hW hc hs hl
      exact o_wzast hE.1 hE.2.1 hE.2.2.2.2.2.2.2.2.1 hW ha hin hd (fun H1 locs1 hW1 => kn _ _ _ _ _ hk3 p e R s0 m args below meth cd Q H1 locs1 cells slots ls hE hW1 hc hs hl)
    · exact hk2.elim
  · exact hk2.elim
/-- a place of an array of objects that has been filled -/
def o_aald (tt : Nat) (K : oK) : oK := fun c s L st h => match st with
  | .int i :: v :: r => match o_get h v with
    | some (.inl (t, n, .inr (.inr (.inr (.inr f))))) => t = tt ∧ vp_in i n ∧ match f i.toNatClampNeg with
      | some b => K c s L (.ref b :: r) h
      | none => False
    | _ => False
  | _ => False
theorem so_aald {tt : Nat} {E : String} (hd : decode (mC M) pc = .ok (.aaload, 1)) (ht : (o_tys G)[tt]? = some (gA G tt, .object E)) (kn : oS G M Post (pc + 1) K) : oS G M Post pc (o_aald tt K) := by
  intro c s L st h hk2
  unfold o_aald at hk2
  split at hk2
  · split at hk2
    · rename_i i v r _ t n f hg
      obtain ⟨rfl, hin, hk3⟩ := hk2
      split at hk3
      · rename_i b hf
        obtain ⟨a, rfl, ha⟩ := o_get_spec hg
        intro p e R s0 m args below meth cd Q H locs cells slots ls hE hW hc hs hl
        refine va_aldq hE.1 hE.2.1 hE.2.2.2.2.2.2.2.2.1.1 hW.1 a t (o_ws_at ha) ht hin hd ?_
        rw [hf]
        exact kn _ _ _ _ _ hk3 p e R s0 m args below meth cd Q H locs cells slots ls hE hW hc hs hl
      · exact hk3.elim
    · exact hk2.elim
  · exact hk2.elim
def o_aast (tt ci : Nat) (K : oK) : oK := fun c s L st h => match st with
  | .ref (b + 1) :: .int i :: v :: r => match o_get h v with
    | some (.inl (t, n, .inr (.inr (.inr (.inr f))))) => t = tt ∧ vp_in i n ∧ match h[b]? with
      | some (.inr (cj, _)) => cj = ci ∧ K c s L r (h.set (o_ix v) (.inl (t, n, .inr (.inr (.inr (.inr (va_up f i.toNatClampNeg (some (b + 1)))))))))
      | _ => False
    | _ => False
  | _ => False
theorem so_aast {tt ci N : Nat} {E : String} {T : u_T} {ty : Nat → FieldType} (hC : o_Cl ci E T N ty) (hd : decode (mC M) pc = .ok (.aastore, 1)) (ht : (o_tys G)[tt]? = some (gA G tt, .object E)) (kn : oS G M Post (pc + 1) K) : oS G M Post pc (o_aast tt ci K) := by
  intro c s L st h hk2
  unfold o_aast at hk2
  split at hk2
  · split at hk2
    · rename_i b i v r _ t n f hg
      obtain ⟨rfl, hin, hk3⟩ := hk2
      split at hk3
      · rename_i cj vs hb
        obtain ⟨rfl, hk4⟩ := hk3
        obtain ⟨a, rfl, ha⟩ := o_get_spec hg
        intro p e R s0 m args below meth cd Q H locs cells slots ls hE hW hc hs hl
        exact o_waast hE.1 hE.2.1 hE.2.2.2.2.2.2.2.2.1 hW ha ht hb hC hin hd (fun H1 locs1 hW1 => kn _ _ _ _ _ hk4 p e R s0 m args below meth cd Q H1 locs1 cells slots ls hE hW1 hc hs hl)
      · exact hk3.elim
    · exact hk2.elim
  · exact hk2.elim
-- new cells
def o_new (ci : Nat) (fs : List Value) (K : oK) : oK := fun c s L st h => 1 ≤ c ∧ fs.length ≤ s ∧ K (c - 1) (s - fs.length) L (.ref (h.length + 1) :: st) (h ++ [.inr (ci, fs)])
theorem so_new {ci N index : Nat} {C : String} {T : u_T} {ty : Nat → FieldType} {fs : List Value} (hC : o_Cl ci C T N ty) (h1 : Cond.classLink (mY M).cls index C ∈ o_TT) (h2 : Cond.instantiable C N ∈ o_TT) (h3 : Cond.initialized C ∈ o_TT) (hN : fs.length = N) (hfr : fs.map (o_rl G) = fs) (hfs : ∀ j, j < N → defaultValue (ty j) = vp_V fs j) (hd : decode (mC M) pc = .ok (.new index, 3)) (kn : oS G M Post (pc + 3) K) : oS G M Post pc (o_new ci fs K) := by
  intro c s L st h hk2
  obtain ⟨hc1, hs1, hk3⟩ := hk2
  intro p e R s0 m args below meth cd Q H locs cells slots ls hE hW hc hs hl
  have hts := hE.2.2.2.2.2.1
  have hKn := hE.2.2.2.2.2.2.2.2.1.1.1 ci _ hC.1
  refine W.newcK hE.1 hE.2.1 hE.2.2.2.1 (hts _ h1) (hts _ h2) (hts _ h3) rfl hd (by omega) (by omega) hKn.2.1 rfl fun H1 kC hkC e1 z1 o1 => ?_
  have hW1 : o_Wd G (h ++ [.inr (ci, fs)]) H1 locs := hW.push ⟨_, hC.1, (u_born ty hts hC.2.1 hKn hkC e1 hC.2.2.1).to (fun j hj => by show _ = vp_V (fs.map (o_rl G)) j; rw [hfr]; exact hfs j hj)⟩ z1 o1
  have kk := kn _ _ _ _ _ hk3 p e R s0 m args below meth cd Q H1 locs (cells + 1) (slots + N) ls hE hW1 (by omega) (by omega) hl
  rw [hW.2.2.2]
  exact kk
def o_newa (t : Nat) (x : (Nat → Int32) ⊕ (Nat → Int64) ⊕ (Nat → UInt32) ⊕ (Nat → UInt64) ⊕ (Nat → Option Nat)) (K : oK) : oK := fun c s L st h => match st with
  | .int n :: r => (¬ n < 0 ∧ n.toNatClampNeg ≤ 4096) ∧ 1 ≤ c ∧ n.toNatClampNeg ≤ s ∧ K (c - 1) (s - n.toNatClampNeg) L (.ref (h.length + 1) :: r) (h ++ [.inl (t, n.toNatClampNeg, x)])
  | _ => False
theorem so_newa {t : Nat} {x : (Nat → Int32) ⊕ (Nat → Int64) ⊕ (Nat → UInt32) ⊕ (Nat → UInt64) ⊕ (Nat → Option Nat)} {atype : ArrayType} {ty : FieldType} (hty : newarray.typeOf atype = ty) (hw : Cond.arrayClass ty ∈ o_TT) (ht : (o_tys G)[t]? = some (gA G t, ty)) (hob : ∀ E, ty ≠ .object E) (hby : componentBytes ty ≤ 8) (hx : o_rX G x = x) (hcl : ∀ (cA : ClassId) (n : Nat), vp_cell cA (n, x) = arrV cA n (fun _ => defaultValue ty)) (hd : decode (mC M) pc = .ok (.newarray atype, 2)) (kn : oS G M Post (pc + 2) K) : oS G M Post pc (o_newa t x K) := by
  subst hty
  intro c s L st h hk2
  unfold o_newa at hk2
  split at hk2
  · rename_i n r
    obtain ⟨⟨hn, hm⟩, hc1, hs1, hk3⟩ := hk2
    intro p e R s0 m args below meth cd Q H locs cells slots ls hE hW hc hs hl
    have hts := hE.2.2.2.2.2.1
    refine va_newaK (N := n.toNatClampNeg) hE.1 hE.2.1 (hts _ hw) rfl hd rfl hn rfl (Nat.le_trans (Nat.mul_le_mul hm hby) (by decide)) (by omega) (by omega) rfl fun H1 cA e1 z1 o1 hAr hNm => ?_
    have hcA : cA = gA G t := by
      have h9 := (hE.2.2.2.2.2.2.2.2.1.1.2 t _ ht).2
      unfold va_RA at h9
      split at h9
      · rename_i E q
        exact absurd q (hob E)
      · exact Option.some.inj (hNm.symm.trans h9)
    subst hcA
    have hW1 : o_Wd G (h ++ [.inl (t, n.toNatClampNeg, x)]) H1 locs := hW.push (by
      show H1[H.size]? = some (vp_cell (gA G t) (n.toNatClampNeg, o_rX G x))
      rw [hx, hcl]
      exact e1) z1 o1
    have kk := kn _ _ _ _ _ hk3 p e R s0 m args below meth cd Q H1 locs (cells + 1) (slots + n.toNatClampNeg) ls hE hW1 (by omega) (by omega) hl
    rw [hW.2.2.2]
    exact kk
  · exact hk2.elim
theorem so_anew {t index : Nat} {C : String} (h1 : Cond.classLink (mY M).cls index C ∈ o_TT) (h2 : C ∈ o_AO) (ht : (o_tys G)[t]? = some (gA G t, .object C)) (hd : decode (mC M) pc = .ok (.anewarray index, 3)) (kn : oS G M Post (pc + 3) K) : oS G M Post pc (o_newa t (.inr (.inr (.inr (.inr (fun _ => none))))) K) := by
  intro c s L st h hk2
  unfold o_newa at hk2
  split at hk2
  · rename_i n r
    obtain ⟨⟨hn, hm⟩, hc1, hs1, hk3⟩ := hk2
    intro p e R s0 m args below meth cd Q H locs cells slots ls hE hW hc hs hl
    have hts := hE.2.2.2.2.2.1
    refine W.anew hE.1 hE.2.1 hE.2.2.2.1 (hts _ h1) (va_AO.use (hE.2.2.2.2.2.2.2.2.1.2.2.2.2 C h2)) rfl hd rfl hn (by omega) (by omega) (by omega) fun cA kA comp f1 f2 f3 f4 => ?_
    have hcA : cA = gA G t := by
      obtain ⟨kA', comp', g1, g2, g3, g4⟩ := (hE.2.2.2.2.2.2.2.2.1.1.2 t _ ht).2
      exact Option.some.inj (f1.symm.trans g4)
    subst hcA
    have hW1 : o_Wd G (h ++ [.inl (t, n.toNatClampNeg, .inr (.inr (.inr (.inr (fun _ => none)))))]) (H.push ({ cls := gA G t, slots := Array.replicate n.toNatClampNeg .null, vm := .none } : Cell)) locs := hW.push (by
      show (H.push _)[H.size]? = some (vp_cell (gA G t) (n.toNatClampNeg, .inr (.inr (.inr (.inr (fun _ => none))))))
      rw [Array.getElem?_push_size, vp_cell_q, arrV_new]
      rfl) (by rw [Array.size_push]) (fun q hq => by rw [Array.getElem?_push, if_neg (Nat.ne_of_lt hq)])
    have kk := kn _ _ _ _ _ hk3 p e R s0 m args below meth cd Q _ locs (cells + 1) (slots + n.toNatClampNeg) ls hE hW1 (by omega) (by omega) hl
    have e9 : F0 m (pc + 3) ls (.ref H.size :: r.map (o_rl G)) = F0 m (pc + 3) ls ((Value.ref (h.length + 1) :: r).map (o_rl G)) := by
      rw [hW.2.2.2]; rfl
    exact W.eq e9 kk
  · exact hk2.elim
end OJ
/-- what the tables say of a method: its code, that its owner is ready, the number of its arguments -/
def o_Mf (M : oM) (n : Nat) : Prop := mW M ∈ o_TT ∧ Cond.initialized (mY M).cls ∈ o_TT ∧ ((mY M).cls ≠ "java/lang/invoke/MethodHandle" ∧ (mY M).cls ≠ "java/lang/invoke/VarHandle" ∧ (parseMethodDescriptor (mY M).desc).map (fun d => d.parameters.length) = some n)
theorem o_good {M : oM} (h : mW M ∈ o_TT) : GoodIn o_TT (mW M :: o_TT) := by
  intro w hw
  rcases List.mem_cons.mp hw with e | e
  · rw [e]; exact ⟨h, o_TT_good _ h⟩
  · exact ⟨e, o_TT_good _ e⟩
section OC
variable {G : oG} {M : oM} {Post : oP} {pc : Nat} {K : oK}
def o_callS (G : oG) (M' : oM) (n : Nat) (K : oK) : oK := fun c s L st h => n ≤ st.length ∧ ((st.drop n).map Value.category).sum ≤ 8 ∧ ∃ (mc ms : Nat) (P : oP), mc ≤ c ∧ ms ≤ s ∧ Mt G M' (st.take n).reverse h mc ms P ∧ ∀ (w : Option Value) (h' : oH), P w h' → K (c - mc) (s - ms) L (w.toList ++ st.drop n) h'
def o_callI (G : oG) (M' : oM) (n : Nat) (K : oK) : oK := fun c s L st h => match st.drop n with
  | .ref a :: rest => (rest.map Value.category).sum ≤ 8 ∧ ∃ (mc ms : Nat) (P : oP), mc ≤ c ∧ ms ≤ s ∧ Mt G M' (.ref a :: (st.take n).reverse) h mc ms P ∧ ∀ (w : Option Value) (h' : oH), P w h' → K (c - mc) (s - ms) L (w.toList ++ rest) h'
  | _ => False
def o_callV (G : oG) (ci : Nat) (M' : oM) (n : Nat) (K : oK) : oK := fun c s L st h => match st.drop n with
  | v :: rest => match o_get h v with
    | some (.inr (cj, _)) => cj = ci ∧ (rest.map Value.category).sum ≤ 8 ∧ ∃ (mc ms : Nat) (P : oP), mc ≤ c ∧ ms ≤ s ∧ Mt G M' (v :: (st.take n).reverse) h mc ms P ∧ ∀ (w : Option Value) (h' : oH), P w h' → K (c - mc) (s - ms) L (w.toList ++ rest) h'
    | _ => False
  | _ => False
theorem o_catsum (G : oG) (st : List Value) : ((st.map (o_rl G)).map fun v => v.category).sum = (st.map Value.category).sum := by
  rw [List.map_map]
  congr 1
  apply List.map_congr_left
  intro v _
  exact o_cat G v
theorem o_toList (G : oG) (w : Option Value) (st : List Value) : (w.map (o_rl G)).toList ++ st.map (o_rl G) = (w.toList ++ st).map (o_rl G) := by
  cases w <;> simp
theorem so_callS {M' : oM} {n index : Nat} (hM : o_Mf M' n) (hst1 : Cond.static (mY M') ∈ o_TT) (hl1 : Cond.methodLink (mY M).cls index (mY M') ∈ o_TT) (hD : mD M' < mD M) (hQ : 8 + (mL M' + 11) + mQ M' ≤ mQ M) (hd : decode (mC M) pc = .ok (.invokestatic index, 3)) (kn : oS G M Post (pc + 3) K) : oS G M Post pc (o_callS G M' n K) := by
  intro c s L st h hk2
  obtain ⟨hn, hcat, mc, ms, P, hmc, hms, hMt, hk3⟩ := hk2
  intro p e R s0 m args below meth cd Q H locs cells slots ls hE hW hc hs hl
  have hts := hE.2.2.2.2.2.1
  have hSf := hE.2.2.2.2.2.2.2.2.1
  have hfr := hE.2.2.2.2.2.2.1
  have hlo := hE.2.2.2.2.2.2.2.1
  have hR : (mRm M' mc ms).frames + 1 ≤ R.frames ∧ 8 + (mL M' + 11) + (mRm M' mc ms).locals ≤ R.locals := ⟨by show mD M' + 1 ≤ _; omega, by show 8 + (mL M' + 11) + mQ M' ≤ _; omega⟩
  have hstk : (F0 m pc ls (st.map (o_rl G))).stack = (((st.take n).reverse).map (o_rl G)).reverse ++ (st.drop n).map (o_rl G) := by
    show st.map (o_rl G) = _
    rw [List.map_reverse, List.reverse_reverse, ← List.map_append, List.take_append_drop]
  have hr := va_runS (H := H) (locs := locs) (cells := cells) (slots := slots) (e := e) (below := below) (meth := meth) (g := F0 m pc ls (st.map (o_rl G))) (n := n) ⟨hE.1, hE.2.1, hE.2.2.1, hE.2.2.2.1, hts⟩ hMt ⟨callB_of n hts (o_good hM.1) rfl rfl rfl (hts _ hM.2.1) (hts _ hl1) hM.2.2 hR, hts _ hst1⟩ (As := ((st.take n).reverse).map (o_rl G)) (rest := (st.drop n).map (o_rl G)) ⟨o_blind _ _ _, fun U hU hw => ⟨rfl, by rw [hU]; exact hW.forget, hSf.warm hw⟩⟩ rfl (by rw [List.length_map, List.length_reverse, List.length_take]; omega) hl.1 hstk (lv_room (by rw [o_catsum]; exact hcat)) hd ⟨by omega, by omega⟩
  refine o_cont hr hW fun w h' H' locs' hP hW' => ?_
  rw [o_toList]
  exact kn _ _ _ _ _ (hk3 w h' hP) p e R s0 m args below meth cd Q H' locs' (cells + mc) (slots + ms) ls hE hW' (by omega) (by omega) hl
theorem so_callI {M' : oM} {n index : Nat} (hM : o_Mf M' n) (hi1 : Cond.instanceMethod (mY M') ∈ o_TT) (hnm : (mY M').name = "<init>") (hrt : mR M' = none) (hl1 : Cond.methodLink (mY M).cls index (mY M') ∈ o_TT) (hD : mD M' < mD M) (hQ : 8 + (mL M' + 11) + mQ M' ≤ mQ M) (hd : decode (mC M) pc = .ok (.invokespecial index, 3)) (kn : oS G M Post (pc + 3) K) : oS G M Post pc (o_callI G M' n K) := by
  obtain ⟨y', cc', mL', ret', d', q'⟩ := M'
  have hrt : ret' = none := hrt
  subst hrt
  intro c s L st h hk2
  unfold o_callI at hk2
  split at hk2
  · rename_i a rest hst
    obtain ⟨hcat, mc, ms, P, hmc, hms, hMt, hk3⟩ := hk2
    intro p e R s0 m args below meth cd Q H locs cells slots ls hE hW hc hs hl
    have hts := hE.2.2.2.2.2.1
    have hSf := hE.2.2.2.2.2.2.2.2.1
    have hfr := hE.2.2.2.2.2.2.1
    have hlo := hE.2.2.2.2.2.2.2.1
    have hQ : 8 + (mL' + 11) + q' ≤ mQ M := hQ
    have hD : d' < mD M := hD
    have hR : d' + 1 ≤ R.frames ∧ 8 + (mL' + 11) + q' ≤ R.locals := ⟨by omega, by omega⟩
    have hlen : n < st.length := by
      rcases Nat.lt_or_ge n st.length with q | q
      · exact q
      · rw [List.drop_eq_nil_of_le q] at hst; cases hst
    have hstk : (F0 m pc ls (st.map (o_rl G))).stack = (((st.take n).reverse).map (o_rl G)).reverse ++ Value.ref (o_ad G a) :: rest.map (o_rl G) := by
      show st.map (o_rl G) = _
      rw [List.map_reverse, List.reverse_reverse]
      conv => lhs; rw [← List.take_append_drop n st, hst, List.map_append]
      rfl
    have hr := va_runI (H := H) (locs := locs) (cells := cells) (slots := slots) (e := e) (below := below) (meth := meth) (g := F0 m pc ls (st.map (o_rl G))) (n := n) ⟨hE.1, hE.2.1, hE.2.2.1, hE.2.2.2.1, hts⟩ hMt ⟨callB_of (ret := none) n hts (o_good hM.1) rfl rfl rfl (hts _ hM.2.1) (hts _ hl1) hM.2.2 hR, hnm, hts _ hi1⟩ (b := o_ad G a) (As := ((st.take n).reverse).map (o_rl G)) (rest := rest.map (o_rl G)) ⟨o_blind _ _ _, fun U hU hw => ⟨rfl, by rw [hU]; exact hW.forget, hSf.warm hw⟩⟩ rfl (by rw [List.length_map, List.length_reverse, List.length_take]; omega) hl.1 hstk (lv_room (by rw [o_catsum]; exact hcat)) hd ⟨by omega, by omega⟩
    refine o_cont hr hW fun w h' H' locs' hP hW' => ?_
    rw [o_toList]
    exact kn _ _ _ _ _ (hk3 w h' hP) p e R s0 m args below meth cd Q H' locs' (cells + mc) (slots + ms) ls hE hW' (by omega) (by omega) hl
  · exact hk2.elim
theorem so_callV {M' : oM} {ci n index N : Nat} {T : u_T} {ty : Nat → FieldType} (hC : o_Cl ci (mY M').cls T N ty) (hM : o_Mf M' n) (hi1 : Cond.instanceMethod (mY M') ∈ o_TT) (hse : Cond.selects (mY M').cls (mY M') (mY M') ∈ o_TT) (hl1 : Cond.methodLink (mY M).cls index (mY M') ∈ o_TT) (hD : mD M' < mD M) (hQ : 8 + (mL M' + 11) + mQ M' ≤ mQ M) (hd : decode (mC M) pc = .ok (.invokevirtual index, 3)) (kn : oS G M Post (pc + 3) K) : oS G M Post pc (o_callV G ci M' n K) := by
  intro c s L st h hk2
  unfold o_callV at hk2
  split at hk2
  · split at hk2
    · rename_i v rest hst _ cj fs hg
      obtain ⟨rfl, hcat, mc, ms, P, hmc, hms, hMt, hk3⟩ := hk2
      obtain ⟨a, rfl, ha⟩ := o_get_spec hg
      intro p e R s0 m args below meth cd Q H locs cells slots ls hE hW hc hs hl
      have hts := hE.2.2.2.2.2.1
      have hSf := hE.2.2.2.2.2.2.2.2.1
      have hfr := hE.2.2.2.2.2.2.1
      have hlo := hE.2.2.2.2.2.2.2.1
      have hR : (mRm M' mc ms).frames + 1 ≤ R.frames ∧ 8 + (mL M' + 11) + (mRm M' mc ms).locals ≤ R.locals := ⟨by show mD M' + 1 ≤ _; omega, by show 8 + (mL M' + 11) + mQ M' ≤ _; omega⟩
      have hlen : n < st.length := by
        rcases Nat.lt_or_ge n st.length with q | q
        · exact q
        · rw [List.drop_eq_nil_of_le q] at hst; cases hst
      have hstk : (F0 m pc ls (st.map (o_rl G))).stack = (((st.take n).reverse).map (o_rl G)).reverse ++ Value.ref ((gH G).size + a) :: rest.map (o_rl G) := by
        show st.map (o_rl G) = _
        rw [List.map_reverse, List.reverse_reverse]
        conv => lhs; rw [← List.take_append_drop n st, hst, List.map_append]
        rfl
      have hr := va_runV (H := H) (locs := locs) (cells := cells) (slots := slots) (e := e) (below := below) (meth := meth) (g := F0 m pc ls (st.map (o_rl G))) (n := n) (C := (mY M').cls) ⟨hE.1, hE.2.1, hE.2.2.1, hE.2.2.2.1, hts⟩ hMt ⟨callB_of n hts (o_good hM.1) rfl rfl rfl (hts _ hM.2.1) (hts _ hl1) hM.2.2 hR, hts _ hi1, hts _ hse⟩ (b := (gH G).size + a) (As := ((st.take n).reverse).map (o_rl G)) (rest := rest.map (o_rl G)) ⟨o_blind _ _ _, va_recv hSf.1 hW.1 hC.1 (o_ws_at ha), fun U hU hw => ⟨rfl, by rw [hU]; exact hW.forget, hSf.warm hw⟩⟩ rfl (by rw [List.length_map, List.length_reverse, List.length_take]; omega) hl.1 hstk (lv_room (by rw [o_catsum]; exact hcat)) hd ⟨by omega, by omega⟩
      refine o_cont hr hW fun w h' H' locs' hP hW' => ?_
      rw [o_toList]
      exact kn _ _ _ _ _ (hk3 w h' hP) p e R s0 m args below meth cd Q H' locs' (cells + mc) (slots + ms) ls hE hW' (by omega) (by omega) hl
    · exact hk2.elim
  · exact hk2.elim
theorem so_callSN {M' : oM} {n index : Nat} (hM : o_Mf M' n) (hst1 : Cond.static (mY M') ∈ o_TT) {host : String} (hl1 : Cond.methodLinkNest (mY M).cls index (mY M') host ∈ o_NW) (hD : mD M' < mD M) (hQ : 8 + (mL M' + 11) + mQ M' ≤ mQ M) (hd : decode (mC M) pc = .ok (.invokestatic index, 3)) (kn : oS G M Post (pc + 3) K) : oS G M Post pc (o_callS G M' n K) := by
  intro c s L st h hk2
  obtain ⟨hn, hcat, mc, ms, P, hmc, hms, hMt, hk3⟩ := hk2
  intro p e R s0 m args below meth cd Q H locs cells slots ls hE hW hc hs hl
  have hts := hE.2.2.2.2.2.1
  have hSf := hE.2.2.2.2.2.2.2.2.1
  have hfr := hE.2.2.2.2.2.2.1
  have hlo := hE.2.2.2.2.2.2.2.1
  have hR : (mRm M' mc ms).frames + 1 ≤ R.frames ∧ 8 + (mL M' + 11) + (mRm M' mc ms).locals ≤ R.locals := ⟨by show mD M' + 1 ≤ _; omega, by show 8 + (mL M' + 11) + mQ M' ≤ _; omega⟩
  have hstk : (F0 m pc ls (st.map (o_rl G))).stack = (((st.take n).reverse).map (o_rl G)).reverse ++ (st.drop n).map (o_rl G) := by
    show st.map (o_rl G) = _
    rw [List.map_reverse, List.reverse_reverse, ← List.map_append, List.take_append_drop]
  have hr := va_runSN (H := H) (locs := locs) (cells := cells) (slots := slots) (e := e) (below := below) (meth := meth) (g := F0 m pc ls (st.map (o_rl G))) (n := n) ⟨hE.1, hE.2.1, hE.2.2.1, hE.2.2.2.1, hts⟩ hMt ⟨va_cnB n hts (o_good hM.1) rfl rfl rfl (hE.2.2.2.2.2.2.2.2.1.2.2.2.1 _ hl1) (hts _ hM.2.1) hM.2.2 hR, hts _ hst1, trivial⟩ (As := ((st.take n).reverse).map (o_rl G)) (rest := (st.drop n).map (o_rl G)) ⟨o_blind _ _ _, fun U hU hw => ⟨rfl, by rw [hU]; exact hW.forget, hSf.warm hw⟩⟩ rfl (by rw [List.length_map, List.length_reverse, List.length_take]; omega) hl.1 hstk (lv_room (by rw [o_catsum]; exact hcat)) hd ⟨by omega, by omega⟩
  refine o_cont hr hW fun w h' H' locs' hP hW' => ?_
  rw [o_toList]
  exact kn _ _ _ _ _ (hk3 w h' hP) p e R s0 m args below meth cd Q H' locs' (cells + mc) (slots + ms) ls hE hW' (by omega) (by omega) hl
theorem so_callIN {M' : oM} {n index : Nat} (hM : o_Mf M' n) (hi1 : Cond.instanceMethod (mY M') ∈ o_TT) (hnm : (mY M').name = "<init>") (hrt : mR M' = none) {host : String} (hl1 : Cond.methodLinkNest (mY M).cls index (mY M') host ∈ o_NW) (hD : mD M' < mD M) (hQ : 8 + (mL M' + 11) + mQ M' ≤ mQ M) (hd : decode (mC M) pc = .ok (.invokespecial index, 3)) (kn : oS G M Post (pc + 3) K) : oS G M Post pc (o_callI G M' n K) := by
  obtain ⟨y', cc', mL', ret', d', q'⟩ := M'
  have hrt : ret' = none := hrt
  subst hrt
  intro c s L st h hk2
  unfold o_callI at hk2
  split at hk2
  · rename_i a rest hst
    obtain ⟨hcat, mc, ms, P, hmc, hms, hMt, hk3⟩ := hk2
    intro p e R s0 m args below meth cd Q H locs cells slots ls hE hW hc hs hl
    have hts := hE.2.2.2.2.2.1
    have hSf := hE.2.2.2.2.2.2.2.2.1
    have hfr := hE.2.2.2.2.2.2.1
    have hlo := hE.2.2.2.2.2.2.2.1
    have hQ : 8 + (mL' + 11) + q' ≤ mQ M := hQ
    have hD : d' < mD M := hD
    have hR : d' + 1 ≤ R.frames ∧ 8 + (mL' + 11) + q' ≤ R.locals := ⟨by omega, by omega⟩
    have hlen : n < st.length := by
      rcases Nat.lt_or_ge n st.length with q | q
      · exact q
      · rw [List.drop_eq_nil_of_le q] at hst; cases hst
    have hstk : (F0 m pc ls (st.map (o_rl G))).stack = (((st.take n).reverse).map (o_rl G)).reverse ++ Value.ref (o_ad G a) :: rest.map (o_rl G) := by
      show st.map (o_rl G) = _
      rw [List.map_reverse, List.reverse_reverse]
      conv => lhs; rw [← List.take_append_drop n st, hst, List.map_append]
      rfl
    have hr := va_runIN (H := H) (locs := locs) (cells := cells) (slots := slots) (e := e) (below := below) (meth := meth) (g := F0 m pc ls (st.map (o_rl G))) (n := n) ⟨hE.1, hE.2.1, hE.2.2.1, hE.2.2.2.1, hts⟩ hMt ⟨va_cnB (ret := none) n hts (o_good hM.1) rfl rfl rfl (hE.2.2.2.2.2.2.2.2.1.2.2.2.1 _ hl1) (hts _ hM.2.1) hM.2.2 hR, hnm, hts _ hi1⟩ (b := o_ad G a) (As := ((st.take n).reverse).map (o_rl G)) (rest := rest.map (o_rl G)) ⟨o_blind _ _ _, fun U hU hw => ⟨rfl, by rw [hU]; exact hW.forget, hSf.warm hw⟩⟩ rfl (by rw [List.length_map, List.length_reverse, List.length_take]; omega) hl.1 hstk (lv_room (by rw [o_catsum]; exact hcat)) hd ⟨by omega, by omega⟩
    refine o_cont hr hW fun w h' H' locs' hP hW' => ?_
    rw [o_toList]
    exact kn _ _ _ _ _ (hk3 w h' hP) p e R s0 m args below meth cd Q H' locs' (cells + mc) (slots + ms) ls hE hW' (by omega) (by omega) hl
  · exact hk2.elim
theorem so_callVN {M' : oM} {ci n index N : Nat} {T : u_T} {ty : Nat → FieldType} (hC : o_Cl ci (mY M').cls T N ty) (hM : o_Mf M' n) (hi1 : Cond.instanceMethod (mY M') ∈ o_TT) (hse : Cond.selects (mY M').cls (mY M') (mY M') ∈ o_TT) {host : String} (hl1 : Cond.methodLinkNest (mY M).cls index (mY M') host ∈ o_NW) (hD : mD M' < mD M) (hQ : 8 + (mL M' + 11) + mQ M' ≤ mQ M) (hd : decode (mC M) pc = .ok (.invokevirtual index, 3)) (kn : oS G M Post (pc + 3) K) : oS G M Post pc (o_callV G ci M' n K) := by
  intro c s L st h hk2
  unfold o_callV at hk2
  split at hk2
  · split at hk2
    · rename_i v rest hst _ cj fs hg
      obtain ⟨rfl, hcat, mc, ms, P, hmc, hms, hMt, hk3⟩ := hk2
      obtain ⟨a, rfl, ha⟩ := o_get_spec hg
      intro p e R s0 m args below meth cd Q H locs cells slots ls hE hW hc hs hl
      have hts := hE.2.2.2.2.2.1
      have hSf := hE.2.2.2.2.2.2.2.2.1
      have hfr := hE.2.2.2.2.2.2.1
      have hlo := hE.2.2.2.2.2.2.2.1
      have hR : (mRm M' mc ms).frames + 1 ≤ R.frames ∧ 8 + (mL M' + 11) + (mRm M' mc ms).locals ≤ R.locals := ⟨by show mD M' + 1 ≤ _; omega, by show 8 + (mL M' + 11) + mQ M' ≤ _; omega⟩
      have hlen : n < st.length := by
        rcases Nat.lt_or_ge n st.length with q | q
        · exact q
        · rw [List.drop_eq_nil_of_le q] at hst; cases hst
      have hstk : (F0 m pc ls (st.map (o_rl G))).stack = (((st.take n).reverse).map (o_rl G)).reverse ++ Value.ref ((gH G).size + a) :: rest.map (o_rl G) := by
        show st.map (o_rl G) = _
        rw [List.map_reverse, List.reverse_reverse]
        conv => lhs; rw [← List.take_append_drop n st, hst, List.map_append]
        rfl
      have hr := va_runVN (H := H) (locs := locs) (cells := cells) (slots := slots) (e := e) (below := below) (meth := meth) (g := F0 m pc ls (st.map (o_rl G))) (n := n) (C := (mY M').cls) ⟨hE.1, hE.2.1, hE.2.2.1, hE.2.2.2.1, hts⟩ hMt ⟨va_cnB n hts (o_good hM.1) rfl rfl rfl (hE.2.2.2.2.2.2.2.2.1.2.2.2.1 _ hl1) (hts _ hM.2.1) hM.2.2 hR, hts _ hi1, hts _ hse⟩ (b := (gH G).size + a) (As := ((st.take n).reverse).map (o_rl G)) (rest := rest.map (o_rl G)) ⟨o_blind _ _ _, va_recv hSf.1 hW.1 hC.1 (o_ws_at ha), fun U hU hw => ⟨rfl, by rw [hU]; exact hW.forget, hSf.warm hw⟩⟩ rfl (by rw [List.length_map, List.length_reverse, List.length_take]; omega) hl.1 hstk (lv_room (by rw [o_catsum]; exact hcat)) hd ⟨by omega, by omega⟩
      refine o_cont hr hW fun w h' H' locs' hP hW' => ?_
      rw [o_toList]
      exact kn _ _ _ _ _ (hk3 w h' hP) p e R s0 m args below meth cd Q H' locs' (cells + mc) (slots + ms) ls hE hW' (by omega) (by omega) hl
    · exact hk2.elim
  · exact hk2.elim
def o_objInit (K : oK) : oK := fun c s L st h => match st with
  | .ref _ :: r => (r.map Value.category).sum ≤ 8 ∧ K c s L r h
  | _ => False
theorem so_objInit {index : Nat} (h1 : Cond.methodLink (mY M).cls index Lib.objectInit ∈ o_TT) (h2 : Cond.instanceMethod Lib.objectInit ∈ o_TT) (h3 : Cond.code Lib.objectInit ⟨#[0xb1]⟩ 1 none ∈ o_TT) (hD : 1 ≤ mD M) (hQ : 20 ≤ mQ M) (hd : decode (mC M) pc = .ok (.invokespecial index, 3)) (kn : oS G M Post (pc + 3) K) : oS G M Post pc (o_objInit K) := by
  intro c s L st h hk2
  unfold o_objInit at hk2
  split at hk2
  · rename_i a r
    intro p e R s0 m args below meth cd Q H locs cells slots ls hE hW hc hs hl
    have hts := hE.2.2.2.2.2.1
    have hfr := hE.2.2.2.2.2.2.1
    have hlo := hE.2.2.2.2.2.2.2.1
    have hcat := o_catsum G r
    have h8 := hk2.1
    exact W.objInit hE.1 hE.2.1 hE.2.2.2.1 (hts _ h1) (hts _ h2) (hts _ h3) rfl (by rw [hE.2.2.1]; exact hl.1) rfl hd (by omega) (by show 2 * 0 + _ + 12 ≤ _; omega) (kn _ _ _ _ _ hk2.2 p e R s0 m args below meth cd Q H locs cells slots ls hE hW hc hs hl)
  · exact hk2.elim
theorem o_rL_args (G : oG) (as : List Value) : ∀ i : Nat, lv_args i (as.map (o_rl G)) = o_rL G (lv_args i as) := by
  induction as with
  | nil => intro i; rfl
  | cons v r ih =>
    intro i
    simp only [List.map_cons, lv_args, o_cat, ih, o_rL]
theorem o_sl_len (G : oG) (as : List Value) : (lg_sl (as.map (o_rl G))).length = (lg_sl as).length := by
  induction as with
  | nil => rfl
  | cons v r ih =>
    have e : lg_sl (v :: r) = (if v.category = 2 then [.val v, .second] else [.val v]) ++ lg_sl r := by simp [lg_sl]
    have e2 : lg_sl ((v :: r).map (o_rl G)) = (if (o_rl G v).category = 2 then [.val (o_rl G v), .second] else [.val (o_rl G v)]) ++ lg_sl (r.map (o_rl G)) := by simp [lg_sl]
    rw [e, e2, List.length_append, List.length_append, ih, o_cat]
    by_cases h : v.category = 2 <;> simp [h]
/-- the contract out of the walk of the body -/
theorem Mt.of {as : List Value} {h : oH} {mc ms : Nat} (hy : plainName (mY M).cls = true) (hlen : (lg_sl as).length ≤ mL M) (k : Wp G M Post 0 mc ms (lv_args 0 as) [] h) : Mt G M as h mc ms Post := by
  refine Met.ofW (cc := mC M) (maxL := mL M) (ret := mR M) hy rfl ?_
  intro p e s m args below meth cd s₁ B hml hv
  obtain ⟨rfl, hW, hSf⟩ := hv
  have hl := lv_entry (as.map (o_rl G)) (n := mL M) (by rw [o_sl_len]; exact hlen)
  rw [lg_entry_eq]
  generalize (lg_sl (as.map (o_rl G)) ++ List.replicate (mL M - (lg_sl (as.map (o_rl G))).length) Slot.unset).toArray = ls at hl ⊢
  refine k p e _ s m _ below meth cd _ s.heap [] 0 0 ls ⟨B.exec, B.bytes, hml, findClass_of_methodNamed B.named, fun q => (name_of_methodNamed B.named B.method).1.trans q, fun w hw => atoms_spec (ws := mW M :: o_TT) B.pre w (List.mem_cons_of_mem _ hw), Nat.le_refl _, Nat.le_refl _, hSf, ?_⟩ hW (by show 0 + mc ≤ mc; omega) (by show 0 + ms ≤ ms; omega) (by rw [← o_rL_args]; exact hl)
  intro v h' H locs ls' pc cells slots hP hW' hc hs hr
  refine W.widen hc hs ?_
  unfold o_rets at hr
  split at hr
  · exact W.vret B.exec B.bytes (B.returns.trans hr.1) (fun t ht hw => ⟨none, h', hP, rfl, by rw [ht]; exact hW'.forget⟩) hW'.2.2.1.2.2 hr.2
  · rename_i x
    obtain ⟨⟨ty, h1, h2⟩, h3⟩ := hr
    exact W.zret B.exec B.bytes (B.returns.trans h1) h2 (fun t ht hw => ⟨some (.int x), h', hP, rfl, by rw [ht]; exact hW'.forget⟩) hW'.2.2.1.2.2 h3
  · rename_i x
    exact W.lret B.exec B.bytes (B.returns.trans hr.1) (fun t ht hw => ⟨some (.long x), h', hP, rfl, by rw [ht]; exact hW'.forget⟩) hW'.2.2.1.2.2 hr.2
  · exact hr.elim
end OC
