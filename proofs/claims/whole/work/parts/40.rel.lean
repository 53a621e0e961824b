/-! The state's other parts; when the first side's cells hold the state. -/
def q_ssz (m : MS) (f : Nat → Nat) : MS := (m.1, m.2.1, m.2.2.1, m.2.2.2.1, m.2.2.2.2.1, f, m.2.2.2.2.2.2)
def q_sdat (m : MS) (f : Nat → Nat → Nat) : MS := (m.1, m.2.1, m.2.2.1, m.2.2.2.1, m.2.2.2.2.1, m.2.2.2.2.2.1, f, m.2.2.2.2.2.2.2)
def q_sds (m : MS) (f : Nat → Nat) : MS := (m.1, m.2.1, m.2.2.1, m.2.2.2.1, m.2.2.2.2.1, m.2.2.2.2.2.1, m.2.2.2.2.2.2.1, f, m.2.2.2.2.2.2.2.2)
def q_stg (m : MS) (f : Nat → Nat) : MS := (m.1, m.2.1, m.2.2.1, m.2.2.2.1, m.2.2.2.2.1, m.2.2.2.2.2.1, m.2.2.2.2.2.2.1, m.2.2.2.2.2.2.2.1, f, m.2.2.2.2.2.2.2.2.2)
def q_smd (m : MS) (f : Nat → Nat) : MS := (m.1, m.2.1, m.2.2.1, m.2.2.2.1, m.2.2.2.2.1, m.2.2.2.2.2.1, m.2.2.2.2.2.2.1, m.2.2.2.2.2.2.2.1, m.2.2.2.2.2.2.2.2.1, f, m.2.2.2.2.2.2.2.2.2.2)
def q_sps (m : MS) (f : Nat → Nat) : MS := (m.1, m.2.1, m.2.2.1, m.2.2.2.1, m.2.2.2.2.1, m.2.2.2.2.2.1, m.2.2.2.2.2.2.1, m.2.2.2.2.2.2.2.1, m.2.2.2.2.2.2.2.2.1, m.2.2.2.2.2.2.2.2.2.1, f, m.2.2.2.2.2.2.2.2.2.2.2)
def q_shl (m : MS) (f : Nat → Nat) : MS := (m.1, m.2.1, m.2.2.1, m.2.2.2.1, m.2.2.2.2.1, m.2.2.2.2.2.1, m.2.2.2.2.2.2.1, m.2.2.2.2.2.2.2.1, m.2.2.2.2.2.2.2.2.1, m.2.2.2.2.2.2.2.2.2.1, m.2.2.2.2.2.2.2.2.2.2.1, f, m.2.2.2.2.2.2.2.2.2.2.2.2)
def q_spb (m : MS) (f : Nat → Nat → Nat) : MS := (m.1, m.2.1, m.2.2.1, m.2.2.2.1, m.2.2.2.2.1, m.2.2.2.2.2.1, m.2.2.2.2.2.2.1, m.2.2.2.2.2.2.2.1, m.2.2.2.2.2.2.2.2.1, m.2.2.2.2.2.2.2.2.2.1, m.2.2.2.2.2.2.2.2.2.2.1, m.2.2.2.2.2.2.2.2.2.2.2.1, f)
/-- how many descriptors stand for number o -/
def ocnt (ds : Nat → Nat) (o : Nat) : Nat := cnt (fun d => decide (ds d = o + 1)) 15
def has (ds : Nat → Nat) (o : Nat) : Bool := decide (0 < ocnt ds o)
def opF (m : MS) (t g : Nat) : Nat → Bool := fun o => has (q_ds m) o && (decide (q_tg m o = t) && !decide (q_md m o &&& g = 0))
def opn (m : MS) (t g : Nat) : Nat := cnt (opF m t g) 8
def fex (m : MS) (f : Nat) : Bool := decide (0 < nof (q_nm m) f) || decide (0 < opn m f 3)
def pex (m : MS) (q : Nat) : Bool := decide (0 < opn m (6 + q) 3)
def freeD (m : MS) (p i : Nat) : Option Nat := lst (fun d => decide (q_ds m (p * 5 + d) = 0)) i (5 - i)
def freeO (m : MS) (i : Nat) : Option Nat := lst (fun o => !has (q_ds m) o) i (8 - i)
def freeF (m : MS) : Option Nat := lst (fun f => !fex m f) 0 6
def freeP (m : MS) : Option Nat := lst (fun q => !pex m q) 0 2
def OkD (m : MS) : Prop := (∀ d, q_ds m d ≤ 8) ∧ ∀ o, o < 8 → has (q_ds m) o = true → q_tg m o < 8 ∧ 0 < q_md m o ∧ q_md m o < 4 ∧ q_ps m o ≤ 24 ∧ (6 ≤ q_tg m o → q_md m o = 1 ∨ q_md m o = 2)
def OkF (m : MS) : Prop := ∀ f, f < 6 → fex m f = true → q_sz m f ≤ 24 ∧ ∀ i, i < q_sz m f → q_dat m f i < 256
def OkQ (m : MS) : Prop := ∀ q, q < 2 → pex m q = true → q_hl m q ≤ 8 ∧ ∀ i, i < q_hl m q → q_pb m q i < 256
def Ok (m : MS) : Prop := OkM m ∧ OkB m ∧ OkN (q_nm m) ∧ OkD m ∧ OkF m ∧ OkQ m
def RCe (m : MS) (σ : oT) : Prop := ∀ k, k < 9 → σ.1 4 k = q_reg m k
def RCd (m : MS) (σ : oT) : Prop := (∀ d, d < 15 → σ.1 9 d = pgv (q_ds m d)) ∧ ∀ o, o < 8 → σ.1 10 o = nI (ocnt (q_ds m) o)
def RCo (m : MS) (σ : oT) : Prop := ∀ o, o < 8 → has (q_ds m) o = true → σ.1 11 o = nI (q_tg m o) ∧ σ.1 12 o = nI (q_md m o) ∧ σ.1 13 o = nI (q_ps m o)
def RCf (m : MS) (σ : oT) : Prop := ∀ f, f < 6 → fex m f = true → σ.2.2 (20 + 2 * f) 1 = nI (q_sz m f) ∧ ∀ i, i < q_sz m f → σ.1 (21 + 2 * f) i = nI (q_dat m f i)
def RCq (m : MS) (σ : oT) : Prop := ∀ q, q < 2 → pex m q = true → σ.2.2 (32 + 2 * q) 1 = nI (q_hl m q) ∧ ∀ i, i < q_hl m q → σ.1 (33 + 2 * q) i = nI (q_pb m q i)
def RC (m : MS) (σ : oT) : Prop := RCg m σ ∧ RCb m σ ∧ RCe m σ ∧ σ.2.2 0 8 = q_trp m ∧ RCn (q_nm m) σ ∧ RCd m σ ∧ RCo m σ ∧ RCf m σ ∧ RCq m σ
theorem RCf_sI {m : MS} {σ : oT} {k : Nat} {g : Nat → Int32} (h : RCf m σ) (hk : k < 20 ∨ 32 ≤ k) : RCf m (sI σ k g) := by
  intro f hf he
  rw [sI_1, if_neg (by omega)]
  exact h f hf he
theorem RCf_sF {m : MS} {σ : oT} {k j : Nat} {x : Int32} (h : RCf m σ) (hk : k < 20 ∨ 32 ≤ k) : RCf m (sF σ k j x) := by
  intro f hf he
  rw [sF_3, if_neg (by omega)]
  exact h f hf he
theorem RCq_sI {m : MS} {σ : oT} {k : Nat} {g : Nat → Int32} (h : RCq m σ) (hk : k < 32 ∨ 36 ≤ k) : RCq m (sI σ k g) := by
  intro f hf he
  rw [sI_1, if_neg (by omega)]
  exact h f hf he
theorem RCq_sF {m : MS} {σ : oT} {k j : Nat} {x : Int32} (h : RCq m σ) (hk : k < 32 ∨ 36 ≤ k) : RCq m (sF σ k j x) := by
  intro f hf he
  rw [sF_3, if_neg (by omega)]
  exact h f hf he
/-- the other side's cells stay -/
def frC (σ τ : oT) : Prop := (∀ k, 36 ≤ k → τ.1 k = σ.1 k) ∧ ∀ k, 36 ≤ k → τ.2.2 k = σ.2.2 k
theorem frC_r (σ : oT) : frC σ σ := ⟨fun _ _ => rfl, fun _ _ => rfl⟩
theorem frC_t {σ τ υ : oT} (h1 : frC σ τ) (h2 : frC τ υ) : frC σ υ := ⟨fun k hk => (h2.1 k hk).trans (h1.1 k hk), fun k hk => (h2.2 k hk).trans (h1.2 k hk)⟩
theorem frC_sI {σ τ : oT} {k : Nat} {g : Nat → Int32} (h : frC σ τ) (hk : k < 36) : frC σ (sI τ k g) := ⟨fun j hj => by rw [sI_1, if_neg (by omega)]; exact h.1 j hj, h.2⟩
theorem frC_sL {σ τ : oT} {g : Nat → Int64} (h : frC σ τ) : frC σ (sL τ g) := h
theorem frC_sF {σ τ : oT} {k j : Nat} {x : Int32} (h : frC σ τ) (hk : k < 36) : frC σ (sF τ k j x) := ⟨h.1, fun a ha => by
  funext b
  rw [sF_3, if_neg (by omega)]
  exact congrFun (h.2 a ha) b⟩
theorem RC_19 {m : MS} {σ : oT} (g : Nat → Int32) (h : RC m σ) : RC m (sI σ 19 g) := ⟨h.1, h.2.1, h.2.2.1, h.2.2.2.1, h.2.2.2.2.1, h.2.2.2.2.2.1, h.2.2.2.2.2.2.1, RCf_sI h.2.2.2.2.2.2.2.1 (by decide), RCq_sI h.2.2.2.2.2.2.2.2 (by decide)⟩
theorem RC_17 {m : MS} {σ : oT} (g : Nat → Int32) (h : RC m σ) : RC m (sI σ 17 g) := ⟨h.1, h.2.1, h.2.2.1, h.2.2.2.1, h.2.2.2.2.1, h.2.2.2.2.2.1, h.2.2.2.2.2.2.1, RCf_sI h.2.2.2.2.2.2.2.1 (by decide), RCq_sI h.2.2.2.2.2.2.2.2 (by decide)⟩
theorem RC_18 {m : MS} {σ : oT} (g : Nat → Int32) (h : RC m σ) : RC m (sI σ 18 g) := ⟨h.1, h.2.1, h.2.2.1, h.2.2.2.1, h.2.2.2.2.1, h.2.2.2.2.2.1, h.2.2.2.2.2.2.1, RCf_sI h.2.2.2.2.2.2.2.1 (by decide), RCq_sI h.2.2.2.2.2.2.2.2 (by decide)⟩
theorem RC_16 {m : MS} {σ : oT} (x : Int32) (h : RC m σ) : RC m (sF σ 16 2 x) := ⟨h.1, h.2.1, h.2.2.1, h.2.2.2.1, h.2.2.2.2.1, h.2.2.2.2.2.1, h.2.2.2.2.2.2.1, RCf_sF h.2.2.2.2.2.2.2.1 (by decide), RCq_sF h.2.2.2.2.2.2.2.2 (by decide)⟩
theorem RC_b {m : MS} {σ : oT} {f : Nat → Nat} {g : Nat → Int32} (h : RC m σ) (hb : ∀ k, k < 320 → g k = nI (f k)) : RC (q_smem m f) (sI σ 2 g) := ⟨h.1, hb, h.2.2.1, h.2.2.2.1, h.2.2.2.2.1, h.2.2.2.2.2.1, h.2.2.2.2.2.2.1, RCf_sI h.2.2.2.2.2.2.2.1 (by decide), RCq_sI h.2.2.2.2.2.2.2.2 (by decide)⟩
theorem RC_g {m : MS} {σ : oT} {f : Nat → Nat} {g : Nat → Int32} (h : RC m σ) (hb : ∀ k, k < 48 → g k = pgv (f k)) : RC (q_spg m f) (sI σ 3 g) := ⟨hb, h.2.1, h.2.2.1, h.2.2.2.1, h.2.2.2.2.1, h.2.2.2.2.2.1, h.2.2.2.2.2.2.1, RCf_sI h.2.2.2.2.2.2.2.1 (by decide), RCq_sI h.2.2.2.2.2.2.2.2 (by decide)⟩
theorem RC_e {m : MS} {σ : oT} {f g : Nat → Int32} (h : RC m σ) (hb : ∀ k, k < 9 → g k = f k) : RC (q_sreg m f) (sI σ 4 g) := ⟨h.1, h.2.1, hb, h.2.2.2.1, h.2.2.2.2.1, h.2.2.2.2.2.1, h.2.2.2.2.2.2.1, RCf_sI h.2.2.2.2.2.2.2.1 (by decide), RCq_sI h.2.2.2.2.2.2.2.2 (by decide)⟩
theorem RC_t {m : MS} {σ : oT} (x : Int32) (h : RC m σ) : RC (q_strp m x) (sF σ 0 8 x) := ⟨h.1, h.2.1, h.2.2.1, rfl, h.2.2.2.2.1, h.2.2.2.2.2.1, h.2.2.2.2.2.2.1, RCf_sF h.2.2.2.2.2.2.2.1 (by decide), RCq_sF h.2.2.2.2.2.2.2.2 (by decide)⟩
/-- what a method of the first side owes: the answer, and a heap that holds the new state -/
def SP (σ : oT) (r : Int32 × MS) : oP := fun v h' => v = some (.int r.1) ∧ ∃ τ : oT, h' = enc τ ∧ RC r.2 τ ∧ frC σ τ
theorem SP.mk {σ τ : oT} {x : Int32} {m : MS} (h : RC m τ) (hf : frC σ τ) : SP σ (x, m) (some (.int x)) (enc τ) := ⟨rfl, τ, rfl, h, hf⟩
theorem wI_t {x : Int32} {n : Nat} (hn : n < 2 ^ 31) (h : wI x (nI n) = true) : ∃ k : Nat, k < n ∧ x = nI k := by
  simp only [wI, Bool.and_eq_true, decide_eq_true_eq] at h
  obtain ⟨j, hj, rfl⟩ := nI_of (i_nlt h.1)
  exact ⟨j, (nI_ltI hj hn).mp h.2, rfl⟩
theorem wI_nI {k n : Nat} (hk : k < n) (hn : n < 2 ^ 31) : wI (nI k) (nI n) = true := by
  simp only [wI, Bool.and_eq_true, decide_eq_true_eq]
  exact ⟨nI_pos' (by omega), nI_lt hk hn⟩
theorem wI_le {x : Int32} {n : Nat} (hn : n + 1 < 2 ^ 31) : wI x (nI (n + 1)) = (decide (¬ x < 0) && decide (x ≤ nI n)) := by
  by_cases h0 : x < 0
  · simp [wI, h0, i_nle h0]
  · obtain ⟨j, hj, rfl⟩ := nI_of h0
    simp [wI, h0, i_ge h0, nI_ltI hj hn, nI_leI hj (show n < 2 ^ 31 by omega), Nat.lt_succ_iff]
