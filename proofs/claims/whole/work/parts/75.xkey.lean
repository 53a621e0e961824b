/-! Names as lists of bytes, and their keys. -/
theorem l_ext {a b : List Nat} (h : a.length = b.length) (h2 : ∀ j, j < a.length → a.getD j 0 = b.getD j 0) : a = b := by
  apply List.ext_getElem h
  intro i h3 h4
  have := h2 i h3
  simpa [List.getD, h3, h4] using this
theorem fold_add (bs : List Nat) : ∀ x : Nat, q_fold x bs = x * 256 ^ bs.length + q_fold 0 bs := by
  induction bs with
  | nil => intro x; simp [q_fold]
  | cons b bs ih =>
    intro x
    have e1 : q_fold x (b :: bs) = q_fold (x * 256 + b) bs := rfl
    have e2 : q_fold 0 (b :: bs) = q_fold (0 * 256 + b) bs := rfl
    rw [e1, e2, ih (x * 256 + b), ih (0 * 256 + b), List.length_cons, Nat.pow_succ, Nat.add_mul, Nat.zero_mul, Nat.zero_add, Nat.mul_assoc, Nat.mul_comm 256, Nat.add_assoc]
def kx (N : Nat) (bs : List Nat) : Nat := q_fold 0 bs * 256 ^ (N - bs.length)
theorem kx_7 (bs : List Nat) : q_key bs = kx 7 bs := rfl
theorem kx_nil (N : Nat) : kx N [] = 0 := Nat.zero_mul _
theorem kx_cons {M b : Nat} {bs : List Nat} (h : bs.length ≤ M) : kx (M + 1) (b :: bs) = b * 256 ^ M + kx M bs := by
  unfold kx
  have e2 : q_fold 0 (b :: bs) = q_fold (0 * 256 + b) bs := rfl
  rw [e2, fold_add bs (0 * 256 + b), List.length_cons, Nat.zero_mul, Nat.zero_add, Nat.add_mul, Nat.mul_assoc, ← Nat.pow_add, show M + 1 - (bs.length + 1) = M - bs.length by omega, show bs.length + (M - bs.length) = M by omega]
theorem kx_bd (bs : List Nat) : ∀ N, bs.length ≤ N → (∀ b ∈ bs, 0 < b ∧ b < 256) → kx N bs < 256 ^ N := by
  induction bs with
  | nil => intro N _ _; rw [kx_nil]; exact Nat.pow_pos (by decide)
  | cons b bs ih =>
    intro N hN hb
    rw [List.length_cons] at hN
    obtain ⟨M, rfl⟩ : ∃ M, N = M + 1 := ⟨N - 1, by omega⟩
    have h1 := ih M (by omega) (fun x hx => hb x (List.mem_cons_of_mem _ hx))
    have h2 := (hb b List.mem_cons_self).2
    rw [kx_cons (by omega), Nat.pow_succ]
    have h3 : b * 256 ^ M ≤ 255 * 256 ^ M := Nat.mul_le_mul_right _ (by omega)
    omega
def lxL : List Nat → List Nat → Bool
  | _, [] => false
  | [], _ :: _ => true
  | a :: s, b :: t => decide (a < b) || (decide (a = b) && lxL s t)
theorem kx_lt (s : List Nat) : ∀ (N : Nat) (t : List Nat), s.length ≤ N → t.length ≤ N → (∀ b ∈ s, 0 < b ∧ b < 256) → (∀ b ∈ t, 0 < b ∧ b < 256) → (kx N s < kx N t ↔ lxL s t = true) := by
  induction s with
  | nil =>
    intro N t _ h2 _ h4
    cases t with
    | nil => simp [lxL, kx_nil]
    | cons b t =>
      rw [List.length_cons] at h2
      obtain ⟨M, rfl⟩ : ∃ M, N = M + 1 := ⟨N - 1, by omega⟩
      have h5 := (h4 b List.mem_cons_self).1
      have h6 : 0 < b * 256 ^ M := Nat.mul_pos h5 (Nat.pow_pos (by decide))
      rw [kx_nil, kx_cons (by omega)]
      simp only [lxL, iff_true]
      omega
  | cons a s ih =>
    intro N t h1 h2 h3 h4
    cases t with
    | nil => simp [lxL, kx_nil]
    | cons b t =>
      rw [List.length_cons] at h1 h2
      obtain ⟨M, rfl⟩ : ∃ M, N = M + 1 := ⟨N - 1, by omega⟩
      have i1 := ih M t (by omega) (by omega) (fun x hx => h3 x (List.mem_cons_of_mem _ hx)) (fun x hx => h4 x (List.mem_cons_of_mem _ hx))
      have b1 := kx_bd s M (by omega) (fun x hx => h3 x (List.mem_cons_of_mem _ hx))
      have b2 := kx_bd t M (by omega) (fun x hx => h4 x (List.mem_cons_of_mem _ hx))
      rw [kx_cons (by omega), kx_cons (by omega)]
      simp only [lxL, Bool.or_eq_true, Bool.and_eq_true, decide_eq_true_eq, ← i1]
      rcases Nat.lt_trichotomy a b with h | h | h
      · have h5 : (a + 1) * 256 ^ M ≤ b * 256 ^ M := Nat.mul_le_mul_right _ h
        rw [Nat.add_mul, Nat.one_mul] at h5
        exact ⟨fun _ => Or.inl h, fun _ => by omega⟩
      · subst h
        exact ⟨fun q => Or.inr ⟨rfl, by omega⟩, fun q => by
          rcases q with q | q
          · omega
          · omega⟩
      · have h5 : (b + 1) * 256 ^ M ≤ a * 256 ^ M := Nat.mul_le_mul_right _ h
        rw [Nat.add_mul, Nat.one_mul] at h5
        exact ⟨fun q => by omega, fun q => by
          rcases q with q | q
          · omega
          · omega⟩
theorem lxL_tri (s : List Nat) : ∀ t : List Nat, lxL s t = false → lxL t s = false → s = t := by
  induction s with
  | nil =>
    intro t h1 _
    cases t with
    | nil => rfl
    | cons b t => cases h1
  | cons a s ih =>
    intro t h1 h2
    cases t with
    | nil => cases h2
    | cons b t =>
      simp only [lxL, Bool.or_eq_false_iff, decide_eq_false_iff_not, Bool.and_eq_false_iff] at h1 h2
      have e : a = b := by omega
      subst e
      rw [ih t (by
        rcases h1.2 with q | q
        · exact absurd rfl q
        · exact q) (by
        rcases h2.2 with q | q
        · exact absurd rfl q
        · exact q)]
theorem key_lt {s t : List Nat} (h1 : s.length ≤ 7) (h2 : t.length ≤ 7) (h3 : ∀ b ∈ s, 0 < b ∧ b < 256) (h4 : ∀ b ∈ t, 0 < b ∧ b < 256) : (q_key s < q_key t ↔ lxL s t = true) := kx_lt s 7 t h1 h2 h3 h4
theorem key_inj {s t : List Nat} (h1 : s.length ≤ 7) (h2 : t.length ≤ 7) (h3 : ∀ b ∈ s, 0 < b ∧ b < 256) (h4 : ∀ b ∈ t, 0 < b ∧ b < 256) (h : q_key s = q_key t) : s = t := by
  refine lxL_tri s t ?_ ?_
  · exact Bool.eq_false_iff.mpr (fun q => by have := (key_lt h1 h2 h3 h4).mpr q; omega)
  · exact Bool.eq_false_iff.mpr (fun q => by have := (key_lt h2 h1 h4 h3).mpr q; omega)
theorem kx_dig (bs : List Nat) : ∀ N, bs.length ≤ N → (∀ b ∈ bs, 0 < b ∧ b < 256) → ∀ j, j < N → kx N bs / 256 ^ (N - 1 - j) % 256 = bs.getD j 0 := by
  induction bs with
  | nil => intro N _ _ j _; rw [kx_nil]; simp
  | cons b bs ih =>
    intro N hN hb j hj
    rw [List.length_cons] at hN
    obtain ⟨M, rfl⟩ : ∃ M, N = M + 1 := ⟨N - 1, by omega⟩
    have hb2 : ∀ x ∈ bs, 0 < x ∧ x < 256 := fun x hx => hb x (List.mem_cons_of_mem _ hx)
    have h1 := kx_bd bs M (by omega) hb2
    have h2 := (hb b List.mem_cons_self).2
    rw [kx_cons (by omega)]
    cases j with
    | zero =>
      rw [show M + 1 - 1 - 0 = M by omega, Nat.mul_comm, Nat.mul_add_div (Nat.pow_pos (by decide)), Nat.div_eq_of_lt h1, Nat.add_zero, Nat.mod_eq_of_lt h2]
      rfl
    | succ j =>
      have e := ih M (by omega) hb2 j (by omega)
      rw [show M + 1 - 1 - (j + 1) = M - 1 - j by omega]
      have e2 : b * 256 ^ M = 256 ^ (M - 1 - j) * (256 * (b * 256 ^ j)) := by
        have : 256 ^ M = 256 ^ (M - 1 - j) * (256 * 256 ^ j) := by
          rw [← Nat.pow_succ', ← Nat.pow_add]
          congr 1
          omega
        rw [this, Nat.mul_left_comm, Nat.mul_left_comm b 256]
      rw [e2, Nat.mul_add_div (Nat.pow_pos (by decide)), Nat.mul_add_mod]
      exact e
theorem key_dig {bs : List Nat} (h1 : bs.length ≤ 7) (h3 : ∀ b ∈ bs, 0 < b ∧ b < 256) {j : Nat} (hj : j < 7) : q_key bs / 256 ^ (6 - j) % 256 = bs.getD j 0 := kx_dig bs 7 h1 h3 j hj
theorem getD_0 {bs : List Nat} (h3 : ∀ b ∈ bs, 0 < b ∧ b < 256) (j : Nat) : (bs.getD j 0 = 0 ↔ bs.length ≤ j) := by
  by_cases h : j < bs.length
  · have h4 := (h3 _ (List.getElem_mem h)).1
    have h5 : bs.getD j 0 = bs[j] := by simp [List.getD, h]
    rw [h5]
    exact ⟨fun q => by omega, fun q => by omega⟩
  · have h5 : bs.getD j 0 = 0 := by simp [List.getD, Nat.le_of_not_lt h]
    exact ⟨fun _ => by omega, fun _ => h5⟩
theorem key_len {bs : List Nat} (h1 : bs.length ≤ 7) (h3 : ∀ b ∈ bs, 0 < b ∧ b < 256) : klen (q_key bs) 0 7 = bs.length := by
  have h : ∀ k i : Nat, i + k = 7 → i ≤ bs.length → klen (q_key bs) i k = bs.length := by
    intro k
    induction k with
    | zero => intro i hi hl; simp only [klen]; omega
    | succ k ih =>
      intro i hi hl
      have e := key_dig h1 h3 (j := i) (by omega)
      have z := getD_0 h3 i
      rw [← e] at z
      simp only [klen]
      split
      · rename_i q
        have := z.mp q
        omega
      · rename_i q
        exact ih (i + 1) (by omega) (by
          have : ¬ bs.length ≤ i := fun hh => q (z.mpr hh)
          omega)
  exact h 7 0 (by decide) (Nat.zero_le _)
theorem liV_key {bs : List Nat} (h1 : bs.length ≤ 7) (h3 : ∀ b ∈ bs, 0 < b ∧ b < 256) (j : Nat) : liV (q_key bs) bs.length j = bs.getD j 0 := by
  unfold liV
  by_cases h : j < bs.length
  · rw [if_pos h]; exact key_dig h1 h3 (by omega)
  · rw [if_neg h]; exact ((getD_0 h3 j).mpr (by omega)).symm
