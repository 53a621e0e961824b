/-! Math.max and Math.min: the kit's own rows (the library's table overrides that owner). -/
section OX
variable {G : oG} {M : oM} {Post : oP} {pc : Nat} {K : oK}
def o_mmax (K : oK) : oK := fun c s L st h => match st with
  | .int y :: .int x :: r => (r.map Value.category).sum ≤ 8 ∧ K c s L (.int (if x < y then y else x) :: r) h
  | _ => False
theorem so_mmax {index : Nat} (h1 : Cond.methodLink (mY M).cls index Lib.Math.max.name ∈ o_TT) (h2 : Cond.static Lib.Math.max.name ∈ o_TT) (h3 : Cond.initialized "java/lang/Math" ∈ o_TT) (h4 : Cond.code Lib.Math.max.name Lib.Math.max.code 2 (some .int) ∈ o_TT) (hD : 1 ≤ mD M) (hQ : 21 ≤ mQ M) (hd : decode (mC M) pc = .ok (.invokestatic index, 3)) (kn : oS G M Post (pc + 3) K) : oS G M Post pc (o_mmax K) := by
  intro c s L st h hk2
  unfold o_mmax at hk2
  split at hk2
  · rename_i y x r
    intro p e R s0 m args below meth cd Q H locs cells slots ls hE hW hc hs hl
    have hts := hE.2.2.2.2.2.1
    have hfr := hE.2.2.2.2.2.2.1
    have hlo := hE.2.2.2.2.2.2.2.1
    have hcat := o_catsum G r
    have h8 := hk2.1
    exact va_mmax hE.1 hE.2.1 (by rw [hE.2.2.1]; exact hl.1.symm) hE.2.2.2.1 (hts _ h1) (hts _ h2) (hts _ h3) (hts _ h4) (by omega) (by omega) (by omega) (by omega) hd (kn _ _ _ _ _ hk2.2 p e R s0 m args below meth cd Q H locs cells slots ls hE hW hc hs hl)
  · exact hk2.elim
def o_mmin (K : oK) : oK := fun c s L st h => match st with
  | .int y :: .int x :: r => (r.map Value.category).sum ≤ 8 ∧ K c s L (.int (if y < x then y else x) :: r) h
  | _ => False
theorem so_mmin {index : Nat} (h1 : Cond.methodLink (mY M).cls index Lib.Math.min.name ∈ o_TT) (h2 : Cond.static Lib.Math.min.name ∈ o_TT) (h3 : Cond.initialized "java/lang/Math" ∈ o_TT) (h4 : Cond.code Lib.Math.min.name Lib.Math.min.code 2 (some .int) ∈ o_TT) (hD : 1 ≤ mD M) (hQ : 21 ≤ mQ M) (hd : decode (mC M) pc = .ok (.invokestatic index, 3)) (kn : oS G M Post (pc + 3) K) : oS G M Post pc (o_mmin K) := by
  intro c s L st h hk2
  unfold o_mmin at hk2
  split at hk2
  · rename_i y x r
    intro p e R s0 m args below meth cd Q H locs cells slots ls hE hW hc hs hl
    have hts := hE.2.2.2.2.2.1
    have hfr := hE.2.2.2.2.2.2.1
    have hlo := hE.2.2.2.2.2.2.2.1
    have hcat := o_catsum G r
    have h8 := hk2.1
    exact va_mmin hE.1 hE.2.1 (by rw [hE.2.2.1]; exact hl.1.symm) hE.2.2.2.1 (hts _ h1) (hts _ h2) (hts _ h3) (hts _ h4) (by omega) (by omega) (by omega) (by omega) hd (kn _ _ _ _ _ hk2.2 p e R s0 m args below meth cd Q H locs cells slots ls hE hW hc hs hl)
  · exact hk2.elim
end OX
