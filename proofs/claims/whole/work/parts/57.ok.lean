/-! Every step keeps the state in its bounds. -/
theorem q_wr_lt {m : MS} (hB : OkB m) {lc vl : Nat → Nat} {n : Nat} (h : ∀ i, i < n → vl i < 256) : ∀ k, k < 320 → q_wr (q_mem m) lc vl n k < 256 := by
  induction n with
  | zero => exact hB
  | succ n ih =>
    intro k hk
    simp only [q_wr, va_up]
    by_cases e : k = lc n
    · rw [if_pos e]; exact h n (by omega)
    · rw [if_neg e]; exact ih (fun i hi => h i (by omega)) k hk
theorem Ok_mem {m : MS} {f : Nat → Nat} (h : Ok m) (hf : ∀ k, k < 320 → f k < 256) : Ok (q_smem m f) := ⟨h.1, hf, h.2.2.1, h.2.2.2.1, h.2.2.2.2.1, h.2.2.2.2.2⟩
theorem Ok_pg {m : MS} {k e : Nat} (h : Ok m) (he : e ≤ 160) : Ok (q_spg m (va_up (q_pg m) k e)) := ⟨fun j => by
  show va_up (q_pg m) k e j ≤ 160
  simp only [va_up]
  by_cases x : j = k
  · rw [if_pos x]; exact he
  · rw [if_neg x]; exact h.1 j, h.2.1, h.2.2.1, h.2.2.2.1, h.2.2.2.2.1, h.2.2.2.2.2⟩
theorem Ok_ds {m : MS} {ds : Nat → Nat} (h : Ok m) (h8 : ∀ d, ds d ≤ 8) (hm : ∀ o, o < 8 → has ds o = true → has (q_ds m) o = true) : Ok (q_sds m ds) :=
  ⟨h.1, h.2.1, h.2.2.1, ⟨h8, fun o ho hh => h.2.2.2.1.2 o ho (hm o ho hh)⟩, fun f hf hh => h.2.2.2.2.1 f hf (fex_mono hm hh), fun q hq hh => h.2.2.2.2.2 q hq (pex_mono hm hh)⟩
theorem up_le {f : Nat → Nat} {k e b : Nat} (hf : ∀ j, f j ≤ b) (he : e ≤ b) : ∀ j, va_up f k e j ≤ b := by
  intro j
  simp only [va_up]
  by_cases x : j = k
  · rw [if_pos x]; exact he
  · rw [if_neg x]; exact hf j
theorem Ok_ps {m : MS} {o x : Nat} (h : Ok m) (hx : x ≤ 24) : Ok (q_sps m (va_up (q_ps m) o x)) := by
  refine ⟨h.1, h.2.1, h.2.2.1, ⟨h.2.2.2.1.1, fun j hj hh => ?_⟩, h.2.2.2.2.1, h.2.2.2.2.2⟩
  obtain ⟨k1, k2, k3, k4, k5⟩ := h.2.2.2.1.2 j hj hh
  refine ⟨k1, k2, k3, ?_, k5⟩
  show va_up (q_ps m) o x j ≤ 24
  simp only [va_up]
  by_cases e : j = o
  · rw [if_pos e]; exact hx
  · rw [if_neg e]; exact k4
theorem Ok_nm {m : MS} {l : List (Nat × Nat)} (h : Ok m) (hl : OkN l) (hx : ∀ f, f < 6 → fex (q_snm m l) f = true → fex m f = true) : Ok (q_snm m l) := ⟨h.1, h.2.1, hl, h.2.2.2.1, fun f hf hh => h.2.2.2.2.1 f hf (hx f hf hh), h.2.2.2.2.2⟩
theorem Ok_mk {m : MS} {k o t d : Nat} (h : Ok m) (hk : k < 15) (h0 : q_ds m k = 0) (ho : o < 8) (ht : t < 8) (hd : 0 < d) (hd4 : d < 4) (h6 : 6 ≤ t → d = 1 ∨ d = 2) (hf : t < 6 → q_sz m t ≤ 24 ∧ ∀ i, i < q_sz m t → q_dat m t i < 256) (hq : ∀ q, 6 + q = t → q_hl m q ≤ 8 ∧ ∀ i, i < q_hl m q → q_pb m q i < 256) : Ok (q_mk m k o t d) := by
  refine ⟨h.1, h.2.1, h.2.2.1, ⟨up_le h.2.2.2.1.1 (by omega), fun x hx hh => ?_⟩, fun f hf6 hh => ?_, fun q hq2 hh => ?_⟩
  · show va_up (q_tg m) o t x < 8 ∧ 0 < va_up (q_md m) o d x ∧ va_up (q_md m) o d x < 4 ∧ va_up (q_ps m) o 0 x ≤ 24 ∧ (6 ≤ va_up (q_tg m) o t x → va_up (q_md m) o d x = 1 ∨ va_up (q_md m) o d x = 2)
    simp only [va_up]
    by_cases e : x = o
    · simp only [if_pos e]
      exact ⟨ht, hd, hd4, Nat.zero_le _, h6⟩
    · simp only [if_neg e]
      refine h.2.2.2.1.2 x hx ?_
      have e1 : has (q_ds (q_mk m k o t d)) x = has (q_ds m) x := has_at hk h0 e
      rw [← e1]
      exact hh
  · rcases fex_mk hk h0 hh with e | e
    · exact h.2.2.2.2.1 f hf6 e
    · subst e; exact hf hf6
  · rcases pex_mk hk h0 hh with e | e
    · exact h.2.2.2.2.2 q hq2 e
    · exact hq q e
theorem Ok_fl {m : MS} {f n : Nat} {d : Nat → Nat} (h : Ok m) (hn : n ≤ 24) (hd : ∀ i, i < n → d i < 256) : Ok (q_ssz (q_sdat m (va_up (q_dat m) f d)) (va_up (q_sz m) f n)) := by
  refine ⟨h.1, h.2.1, h.2.2.1, h.2.2.2.1, fun f' hf6 hh => ?_, h.2.2.2.2.2⟩
  show va_up (q_sz m) f n f' ≤ 24 ∧ ∀ i, i < va_up (q_sz m) f n f' → va_up (q_dat m) f d f' i < 256
  simp only [va_up]
  by_cases e : f' = f
  · simp only [if_pos e]; exact ⟨hn, hd⟩
  · simp only [if_neg e]; exact h.2.2.2.2.1 f' hf6 hh
theorem Ok_q {m : MS} {q n : Nat} {d : Nat → Nat} (h : Ok m) (hn : n ≤ 8) (hd : ∀ i, i < n → d i < 256) : Ok (q_shl (q_spb m (va_up (q_pb m) q d)) (va_up (q_hl m) q n)) := by
  refine ⟨h.1, h.2.1, h.2.2.1, h.2.2.2.1, h.2.2.2.2.1, fun f' hf6 hh => ?_⟩
  show va_up (q_hl m) q n f' ≤ 8 ∧ ∀ i, i < va_up (q_hl m) q n f' → va_up (q_pb m) q d f' i < 256
  simp only [va_up]
  by_cases e : f' = q
  · simp only [if_pos e]; exact ⟨hn, hd⟩
  · simp only [if_neg e]; exact h.2.2.2.2.2 f' hf6 hh
theorem ok_map {m : MS} (h : Ok m) (p q f g : Int32) : Ok (sp_map m p q f g).2 := by
  unfold sp_map
  split
  · rename_i hw
    simp only [Bool.and_eq_true] at hw
    obtain ⟨f, hf, rfl⟩ := wI_t (n := 20) (by decide) hw.2.2.1
    obtain ⟨g, hg, rfl⟩ := wI_t (n := 8) (by decide) hw.2.2.2
    rw [tN_nI (show f < 2 ^ 31 by omega), tN_nI (show g < 2 ^ 31 by omega)]
    exact Ok_pg h (by omega)
  · exact h
theorem ok_unmap {m : MS} (h : Ok m) (p q : Int32) : Ok (sp_unmap m p q).2 := by
  unfold sp_unmap
  split
  · exact Ok_pg h (by omega)
  · exact h
theorem ok_poke {m : MS} (h : Ok m) (f i b : Int32) : Ok (sp_poke m f i b).2 := by
  unfold sp_poke
  split
  · rename_i hw
    simp only [Bool.and_eq_true] at hw
    obtain ⟨b, hb, rfl⟩ := wI_t (n := 256) (by decide) hw.2.2
    rw [tN_nI (show b < 2 ^ 31 by omega)]
    refine Ok_mem h (fun k hk => ?_)
    simp only [va_up]
    by_cases e : k = tN f * 16 + tN i
    · rw [if_pos e]; exact hb
    · rw [if_neg e]; exact h.2.1 k hk
  · exact h
theorem ok_set {m : MS} (h : Ok m) (p k v : Int32) : Ok (sp_set m p k v).2 := by
  unfold sp_set
  split
  · exact h
  · exact h
theorem ok_close {m : MS} (h : Ok m) {p : Nat} (hp : p < 3) (a : Int32) : Ok (sp_close m p a).2 := by
  unfold sp_close
  cases h1 : q_at m p a with
  | none => exact h
  | some o =>
    obtain ⟨j, hj, rfl, e1, e2, e3⟩ := at_some h.2.2.2.1 hp h1
    rw [tN_nI (show j < 2 ^ 31 by omega)]
    refine Ok_ds h (up_le h.2.2.2.1.1 (Nat.zero_le _)) (fun x hx hh => ?_)
    have := ocnt_cl (ds := q_ds m) (k := p * 5 + j) (by omega) e1 x
    unfold has at hh ⊢
    rw [decide_eq_true_eq] at hh ⊢
    omega
theorem ok_dup {m : MS} (h : Ok m) {p : Nat} (hp : p < 3) (a : Int32) : Ok (sp_dup m p a).2 := by
  unfold sp_dup
  cases h1 : q_at m p a with
  | none => exact h
  | some o =>
    obtain ⟨j, hj, rfl, e1, e2, e3⟩ := at_some h.2.2.2.1 hp h1
    cases h2 : freeD m p 0 with
    | none => exact h
    | some d =>
      obtain ⟨-, d5, d0⟩ := freeD_some h2
      refine Ok_ds h (up_le h.2.2.2.1.1 (by omega)) (fun x hx hh => ?_)
      have := ocnt_at (ds := q_ds m) (o := o) (show p * 5 + d < 15 by omega) d0 x
      by_cases hx2 : x = o
      · rw [hx2]; exact e3
      · rw [if_neg hx2] at this
        unfold has at hh ⊢
        rw [decide_eq_true_eq] at hh ⊢
        omega
theorem ok_seek {m : MS} (h : Ok m) (p : Nat) (a b : Int32) : Ok (sp_seek m p a b).2 := by
  unfold sp_seek
  split
  · exact h
  · split
    · exact h
    · split
      · rename_i hw
        obtain ⟨b, hb, rfl⟩ := wI_t (n := 25) (by decide) hw
        rw [tN_nI (show b < 2 ^ 31 by omega)]
        exact Ok_ps h (by omega)
      · exact h
theorem ok_protect {m : MS} (h : Ok m) (p : Nat) (a b : Int32) : Ok (sp_protect m p a b).2 := by
  unfold sp_protect
  split
  · rename_i hw
    rw [Bool.and_eq_true] at hw
    obtain ⟨b, hb, rfl⟩ := wI_t (n := 4) (by decide) hw.2
    rw [tN_nI (show b < 2 ^ 31 by omega)]
    split
    · have h1 := h.1 (p * 16 + tN a)
      exact Ok_pg h (by omega)
    · exact h
  · exact h
theorem ok_unlink {m : MS} (h : Ok m) (p : Nat) (a : Int32) : Ok (sp_unlink m p a).2 := by
  unfold sp_unlink
  split
  · exact h
  · split
    · exact h
    · rename_i i hi
      obtain ⟨h1, h2⟩ := nix_some hi
      refine Ok_nm h (OkN_erase h.2.2.1 i) (fun f hf hx => fex_nm_le (fun h5 => ?_) hx)
      have h6 := countP_erase (P := fun x => decide (x.2 = f)) h1
      rw [nof_countP] at h5
      unfold fex
      rw [nof_countP, decide_eq_true (by omega)]
      rfl
theorem ok_link {m : MS} (h : Ok m) (p : Nat) (a b : Int32) : Ok (sp_link m p a b).2 := by
  unfold sp_link
  split
  · rename_i s t hs ht
    split
    · exact h
    · rename_i i hi
      obtain ⟨h1, h2⟩ := nix_some hi
      obtain ⟨t1, t2, t3, t4⟩ := q_str_ok h.1 h.2.1 ht
      split
      · exact h
      · rename_i h0
        split
        · exact h
        · rename_i hn
          split
          · exact h
          · rename_i h8
            have hl := h.2.2.1.1
            refine Ok_nm h (OkN_ins h.2.2.1 (by omega) (by omega) t3 (OkN_at h h1).2.2 (nix_none hn)) (fun f hf hx => fex_nm_le (fun h5 => ?_) hx)
            rw [nof_countP, countP_ins, ← nof_countP] at h5
            by_cases e : ((q_nm m).getD i (0, 0)).2 = f
            · rw [← e]; exact fex_nm h1
            · rw [if_neg (by simpa using e), Nat.add_zero] at h5
              unfold fex
              rw [decide_eq_true h5]
              rfl
  · exact h
theorem OkN_ren {l : List (Nat × Nat)} (h : OkN l) {i k : Nat} (hi : i < l.length) (hk : 0 < k) (hk2 : k < 2 ^ 56) : OkN (q_ren l i k) := by
  have hf := (h.2.1 _ (List.mem_of_getElem? (getD_at hi))).2.2
  have he := OkN_erase h i
  have hl : (l.eraseIdx i).length = l.length - 1 := List.length_eraseIdx_of_lt hi
  have h8 := h.1
  unfold q_ren
  split
  · rename_i hn
    exact OkN_ins he (by omega) hk hk2 hf (nix_none hn)
  · rename_i j hj
    obtain ⟨j1, j2⟩ := nix_some hj
    have hl2 : ((l.eraseIdx i).eraseIdx j).length = (l.eraseIdx i).length - 1 := List.length_eraseIdx_of_lt j1
    refine OkN_ins (OkN_erase he j) (by omega) hk hk2 hf (fun x hx e => ?_)
    have hp := he.2.2
    rw [List.mem_eraseIdx_iff_getElem?] at hx
    obtain ⟨n, hn, hx⟩ := hx
    have hx2 := getD_at j1
    obtain ⟨n1, n2⟩ := List.getElem?_eq_some_iff.mp hx
    obtain ⟨m1, m2⟩ := List.getElem?_eq_some_iff.mp hx2
    rw [List.pairwise_iff_getElem] at hp
    rcases Nat.lt_or_gt_of_ne hn with q | q
    · have := hp n j n1 j1 q
      rw [n2, m2, j2] at this
      omega
    · have := hp j n j1 n1 q
      rw [n2, m2, j2] at this
      omega
theorem ok_rename {m : MS} (h : Ok m) (p : Nat) (a b : Int32) : Ok (sp_rename m p a b).2 := by
  unfold sp_rename
  split
  · rename_i s t hs ht
    split
    · exact h
    · rename_i i hi
      obtain ⟨h1, h2⟩ := nix_some hi
      obtain ⟨t1, t2, t3, t4⟩ := q_str_ok h.1 h.2.1 ht
      split
      · exact h
      · rename_i h0
        split
        · exact h
        · refine Ok_nm h (OkN_ren h.2.2.1 h1 (by omega) t3) (fun f hf hx => fex_nm_le (fun h5 => ?_) hx)
          have := nof_ren (k := q_key t) h1 f
          unfold fex
          rw [decide_eq_true (by omega)]
          rfl
  · exact h
theorem ok_stat {m : MS} (h : Ok m) (p : Nat) (a b : Int32) : Ok (sp_stat m p a b).2 := by
  unfold sp_stat
  split
  · exact h
  · split
    · split
      · exact h
      · rename_i i hi
        obtain ⟨h1, h2⟩ := nix_some hi
        refine Ok_mem h (q_wr_lt h.2.1 (fun j hj => ?_))
        have a1 := h.2.2.2.2.1 _ (OkN_at h h1).2.2 (fex_nm h1)
        have a2 := nof_le h.2.2.1 ((q_nm m).getD i (0, 0)).2
        have a3 : opn m ((q_nm m).getD i (0, 0)).2 3 ≤ 8 := cnt_le _ _
        match j with
        | 0 => exact Nat.lt_of_le_of_lt a1.1 (by decide)
        | 1 => exact Nat.lt_of_le_of_lt a2 (by decide)
        | _ + 2 => exact Nat.lt_of_le_of_lt a3 (by decide)
    · exact h
theorem ok_list {m : MS} (h : Ok m) (p : Nat) (a b : Int32) : Ok (sp_list m p a b).2 := by
  unfold sp_list
  split
  · split
    · refine Ok_mem h (q_wr_lt h.2.1 (fun j hj => ?_))
      unfold liV
      split
      · exact Nat.mod_lt _ (by decide)
      · decide
    · exact h
  · exact h
theorem ok_copy {m : MS} (h : Ok m) (p : Nat) (a b c : Int32) : Ok (sp_copy m p a b c).2 := by
  unfold sp_copy
  split
  · split
    · exact Ok_mem h (q_wr_lt h.2.1 (fun j hj => q_ld_lt h.1 h.2.1 _ _))
    · exact h
  · exact h
