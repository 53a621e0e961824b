/-! Every step keeps the state in its bounds: opening, pipes, moving bytes, the trap. -/
theorem opm_md {b : Int32} (h : opm b = true) : 0 < tN b % 4 ∧ tN b % 4 < 4 := by
  unfold opm at h
  rw [Bool.and_eq_true, Bool.and_eq_true] at h
  have h2 := h.2.1
  simp only [Bool.not_eq_true', decide_eq_false_iff_not] at h2
  omega
theorem Ok_sz0 {m : MS} {f : Nat} (h : Ok m) : Ok (q_ssz m (va_up (q_sz m) f 0)) := by
  refine ⟨h.1, h.2.1, h.2.2.1, h.2.2.2.1, fun f' hf6 hh => ?_, h.2.2.2.2.2⟩
  show va_up (q_sz m) f 0 f' ≤ 24 ∧ ∀ i, i < va_up (q_sz m) f 0 f' → q_dat m f' i < 256
  simp only [va_up]
  by_cases e : f' = f
  · simp only [if_pos e]; exact ⟨by decide, fun i hi => absurd hi (Nat.not_lt_zero _)⟩
  · simp only [if_neg e]; exact h.2.2.2.2.1 f' hf6 hh
theorem Ok_new {m : MS} {f k : Nat} (h : Ok m) (hl : OkN (q_ins k f (q_nm m))) : Ok (q_ssz (q_snm m (q_ins k f (q_nm m))) (va_up (q_sz m) f 0)) := by
  refine ⟨h.1, h.2.1, hl, h.2.2.2.1, fun f' hf6 hh => ?_, h.2.2.2.2.2⟩
  show va_up (q_sz m) f 0 f' ≤ 24 ∧ ∀ i, i < va_up (q_sz m) f 0 f' → q_dat m f' i < 256
  simp only [va_up]
  by_cases e : f' = f
  · simp only [if_pos e]; exact ⟨by decide, fun i hi => absurd hi (Nat.not_lt_zero _)⟩
  · simp only [if_neg e]
    refine h.2.2.2.2.1 f' hf6 (fex_nm_le (l := q_ins k f (q_nm m)) (fun h5 => ?_) hh)
    rw [nof_countP, countP_ins, ← nof_countP] at h5
    rw [if_neg (by simpa using fun q => e q.symm), Nat.add_zero] at h5
    unfold fex
    rw [decide_eq_true h5]
    rfl
theorem sz0_z {m : MS} {f : Nat} : q_sz (q_ssz m (va_up (q_sz m) f 0)) f = 0 := by
  show va_up (q_sz m) f 0 f = 0
  simp [va_up]
theorem ok_open {m : MS} (h : Ok m) {p : Nat} (hp : p < 3) (a b : Int32) : Ok (sp_open m p a b).2 := by
  unfold sp_open
  split
  · rename_i hb
    obtain ⟨b1, b2⟩ := opm_md hb
    split
    · exact h
    · rename_i s hs
      obtain ⟨t1, t2, t3, t4⟩ := q_str_ok h.1 h.2.1 hs
      split
      · exact h
      · rename_i h0
        split
        · rename_i i hi
          obtain ⟨i1, i2⟩ := nix_some hi
          have hf6 := (OkN_at h i1).2.2
          split
          · exact h
          · rename_i d hd
            obtain ⟨-, d5, d0⟩ := freeD_some hd
            split
            · exact h
            · rename_i o ho
              obtain ⟨-, o8, o0⟩ := freeO_some (by decide) ho
              split
              · exact Ok_mk h (by omega) d0 o8 (by omega) b1 b2 (fun q => by omega) (fun _ => h.2.2.2.2.1 _ hf6 (fex_nm i1)) (fun q hq => by omega)
              · refine Ok_mk (Ok_sz0 h) (by omega) d0 o8 (by omega) b1 b2 (fun q => by omega) (fun _ => ?_) (fun q hq => by omega)
                rw [sz0_z]
                exact ⟨by decide, fun i hi => absurd hi (Nat.not_lt_zero _)⟩
        · rename_i hn
          split
          · exact h
          · split
            · exact h
            · rename_i d hd
              obtain ⟨-, d5, d0⟩ := freeD_some hd
              split
              · exact h
              · rename_i o ho
                obtain ⟨-, o8, o0⟩ := freeO_some (by decide) ho
                split
                · exact h
                · rename_i f hf
                  obtain ⟨f6, fx⟩ := freeF_some hf
                  split
                  · exact h
                  · rename_i h8
                    have hl := h.2.2.1.1
                    refine Ok_mk (Ok_new h (OkN_ins h.2.2.1 (by omega) (by omega) t3 f6 (nix_none hn))) (by omega) d0 o8 (by omega) b1 b2 (fun q => by omega) (fun _ => ?_) (fun q hq => by omega)
                    have e : q_sz (q_ssz (q_snm m (q_ins (q_key s) f (q_nm m))) (va_up (q_sz m) f 0)) f = 0 := by
                      show va_up (q_sz m) f 0 f = 0
                      simp [va_up]
                    rw [e]
                    exact ⟨by decide, fun i hi => absurd hi (Nat.not_lt_zero _)⟩
  · exact h
theorem Ok_hl0 {m : MS} {q : Nat} (h : Ok m) : Ok (q_shl m (va_up (q_hl m) q 0)) := by
  refine ⟨h.1, h.2.1, h.2.2.1, h.2.2.2.1, h.2.2.2.2.1, fun f' hf6 hh => ?_⟩
  show va_up (q_hl m) q 0 f' ≤ 8 ∧ ∀ i, i < va_up (q_hl m) q 0 f' → q_pb m f' i < 256
  simp only [va_up]
  by_cases e : f' = q
  · simp only [if_pos e]; exact ⟨by decide, fun i hi => absurd hi (Nat.not_lt_zero _)⟩
  · simp only [if_neg e]; exact h.2.2.2.2.2 f' hf6 hh
theorem ok_pip {m : MS} (h : Ok m) {p r w x y q : Nat} (hp : p < 3) (hr : r < 5) (hr0 : q_ds m (p * 5 + r) = 0) (hw : w < 5) (hw0 : q_ds m (p * 5 + w) = 0) (hrw : r < w) (hx : x < 8) (hy : y < 8) (hq : q < 2) : Ok (q_pip m p r w x y q) := by
  have e0 : ∀ q', 6 + q' = 6 + q → va_up (q_hl m) q 0 q' = 0 := fun q' h1 => by
    have : q' = q := by omega
    rw [this]
    simp [va_up]
  have h1 : Ok (q_mk (q_shl m (va_up (q_hl m) q 0)) (p * 5 + r) x (6 + q) 1) := Ok_mk (Ok_hl0 h) (by omega) hr0 hx (by omega) (by decide) (by decide) (fun _ => Or.inl rfl) (fun h => by omega) (fun q' h2 => by
    have e : q_hl (q_shl m (va_up (q_hl m) q 0)) q' = 0 := e0 q' h2
    rw [e]
    exact ⟨by decide, fun i hi => absurd hi (Nat.not_lt_zero _)⟩)
  refine Ok_mk h1 (by omega) ?_ hy (by omega) (by decide) (by decide) (fun _ => Or.inr rfl) (fun h => by omega) (fun q' h2 => ?_)
  · show va_up (q_ds m) (p * 5 + r) (x + 1) (p * 5 + w) = 0
    simp only [va_up]
    rw [if_neg (by omega)]
    exact hw0
  · have e : q_hl (q_mk (q_shl m (va_up (q_hl m) q 0)) (p * 5 + r) x (6 + q) 1) q' = 0 := e0 q' h2
    rw [e]
    exact ⟨by decide, fun i hi => absurd hi (Nat.not_lt_zero _)⟩
theorem ok_pipe {m : MS} (h : Ok m) {p : Nat} (hp : p < 3) (a : Int32) : Ok (sp_pipe m p a).2 := by
  unfold sp_pipe
  split
  · split
    · exact h
    · rename_i r hr
      obtain ⟨-, r5, r0⟩ := freeD_some hr
      split
      · exact h
      · rename_i w hw
        obtain ⟨rw, w5, w0⟩ := freeD_some hw
        split
        · exact h
        · rename_i x hx
          obtain ⟨-, x8, x0⟩ := freeO_some (by decide) hx
          split
          · exact h
          · rename_i y hy
            obtain ⟨xy, y8, y0⟩ := freeO_some (by omega) hy
            split
            · exact h
            · rename_i q hq
              obtain ⟨q2, q0⟩ := freeP_some hq
              refine Ok_mem (ok_pip h hp r5 r0 w5 w0 (by omega) x8 y8 q2) (q_wr_lt h.2.1 (fun i hi => ?_))
              unfold piV
              split <;> omega
  · exact h
theorem Ok_tk {m : MS} {q n : Nat} (h : Ok m) (hq : q < 2) (hx : pex m q = true) (hn : n ≤ q_hl m q) : Ok (tkQ m q n) := by
  obtain ⟨a1, a2⟩ := h.2.2.2.2.2 q hq hx
  exact Ok_q h (by omega) (fun i hi => a2 _ (by omega))
theorem ok_rd {m : MS} (h : Ok m) {p o n : Nat} {ad : Nat → Nat} (ho : o < 8) (hh : has (q_ds m) o = true) : Ok (sp_rd m p o ad n).2 := by
  obtain ⟨k1, k2, k3, k4, k5⟩ := h.2.2.2.1.2 o ho hh
  unfold sp_rd
  split
  · exact h
  · split
    · rename_i h6
      have hx := pex_op h.2.2.2.1 ho hh h6
      obtain ⟨a1, a2⟩ := h.2.2.2.2.2 _ (show q_tg m o - 6 < 2 by omega) hx
      split
      · exact h
      · exact Ok_mem (Ok_tk h (by omega) hx (by omega)) (q_wr_lt h.2.1 (fun i hi => a2 i (by omega)))
    · rename_i h6
      have hx := fex_op h.2.2.2.1 ho hh
      obtain ⟨a1, a2⟩ := h.2.2.2.2.1 _ (show q_tg m o < 6 by omega) hx
      exact Ok_mem (Ok_ps h (by omega)) (q_wr_lt h.2.1 (fun i hi => a2 _ (by omega)))
theorem ok_wr {m : MS} (h : Ok m) {p o n : Nat} {ad : Nat → Nat} (ho : o < 8) (hh : has (q_ds m) o = true) : Ok (sp_wr m p o ad n).2 := by
  obtain ⟨k1, k2, k3, k4, k5⟩ := h.2.2.2.1.2 o ho hh
  have hl : ∀ a, q_ld m p a < 256 := q_ld_lt h.1 h.2.1 p
  unfold sp_wr
  split
  · exact h
  · split
    · rename_i h6
      have hx := pex_op h.2.2.2.1 ho hh h6
      obtain ⟨a1, a2⟩ := h.2.2.2.2.2 _ (show q_tg m o - 6 < 2 by omega) hx
      split
      · exact h
      · split
        · exact h
        · refine Ok_q h (by omega) (fun i hi => ?_)
          split
          · exact hl _
          · exact a2 i (by omega)
    · rename_i h6
      have hx := fex_op h.2.2.2.1 ho hh
      obtain ⟨a1, a2⟩ := h.2.2.2.2.1 _ (show q_tg m o < 6 by omega) hx
      split
      · exact h
      · refine Ok_ps (m := q_ssz (q_sdat m (va_up (q_dat m) (q_tg m o) _)) (va_up (q_sz m) (q_tg m o) _)) (Ok_fl h (by omega) (fun i hi => ?_)) (by omega)
        unfold ptF
        split
        · exact hl _
        · split
          · decide
          · exact a2 i (by omega)
theorem ok_mv {m : MS} (h : Ok m) {g p o n : Nat} {ad : Nat → Nat} (ho : o < 8) (hh : has (q_ds m) o = true) : Ok (sp_mv g m p o ad n).2 := by
  unfold sp_mv
  split
  · exact ok_rd h ho hh
  · exact ok_wr h ho hh
theorem ok_xfer {m : MS} (h : Ok m) {g p : Nat} (hp : p < 3) (a b c : Int32) : Ok (sp_xfer g m p a b c).2 := by
  unfold sp_xfer
  split
  · split
    · exact h
    · rename_i o ho
      obtain ⟨o1, o2⟩ := for_some h.2.2.2.1 hp ho
      split
      · exact ok_mv h o1 o2
      · exact h
  · exact h
theorem ok_xferv {m : MS} (h : Ok m) {g p : Nat} (hp : p < 3) (a b c : Int32) : Ok (sp_xferv g m p a b c).2 := by
  unfold sp_xferv
  split
  · split
    · exact h
    · rename_i o ho
      obtain ⟨o1, o2⟩ := for_some h.2.2.2.1 hp ho
      split
      · exact ok_mv h o1 o2
      · exact h
  · exact h
theorem ok_sv {m : MS} (h : Ok m) {p : Nat} (hp : p < 3) (a b c : Int32) : ∀ k : Nat, Ok (sp_sv m p a b c k).2
  | 0 => h
  | 1 => h
  | 2 => ok_open h hp a b
  | 3 => ok_close h hp a
  | 4 => ok_xfer h hp a b c
  | 5 => ok_xfer h hp a b c
  | 6 => ok_seek h p a b
  | 7 => ok_dup h hp a
  | 8 => ok_unlink h p a
  | 9 => ok_link h p a b
  | 10 => ok_stat h p a b
  | 11 => ok_pipe h hp a
  | 12 => ok_list h p a b
  | 13 => ok_copy h p a b c
  | 14 => ok_protect h p a b
  | 15 => ok_xferv h hp a b c
  | 16 => ok_xferv h hp a b c
  | 17 => ok_rename h p a b
  | _ + 18 => h
theorem ok_serve {m : MS} (h : Ok m) {p : Nat} (hp : p < 3) (x : Int32) : Ok (sp_serve m p x).2 := by
  unfold sp_serve
  split
  · exact ok_sv h hp _ _ _ _
  · exact h
theorem Ok_res {r : Int32 × MS} {p : Nat} (h : Ok r.2) : Ok (q_res r p) := h
theorem ok_trap {m : MS} (h : Ok m) (p x : Int32) : Ok (sp_trap m p x).2 := by
  unfold sp_trap
  split
  · rename_i hw
    obtain ⟨p, hp, rfl⟩ := wI_t (n := 3) (by decide) hw
    rw [tN_nI (show p < 2 ^ 31 by omega)]
    exact Ok_res (ok_serve h hp x)
  · exact h
theorem ok_call {m : MS} (h : Ok m) (p x a b c : Int32) : Ok (sp_call m p x a b c).2 := by
  unfold sp_call
  split
  · exact ok_trap (Ok_set3 h) p x
  · exact h
