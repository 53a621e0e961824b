/-! What the document says, as one mathematical state: bytes of the frames, pages (0: none, else 1 + 8 * frame + flags), registers, count of traps, names (packed, with their files, in order), sizes and bytes of the files, descriptors (0: closed, else 1 + number), targets, modes and places of what they stand for, bytes held by the pipes. -/
abbrev MS : Type := (Nat → Nat) × (Nat → Nat) × (Nat → Int32) × Int32 × List (Nat × Nat) × (Nat → Nat) × (Nat → Nat → Nat) × (Nat → Nat) × (Nat → Nat) × (Nat → Nat) × (Nat → Nat) × (Nat → Nat) × (Nat → Nat → Nat)
abbrev q_mem (m : MS) : Nat → Nat := m.1
abbrev q_pg (m : MS) : Nat → Nat := m.2.1
abbrev q_reg (m : MS) : Nat → Int32 := m.2.2.1
abbrev q_trp (m : MS) : Int32 := m.2.2.2.1
abbrev q_nm (m : MS) : List (Nat × Nat) := m.2.2.2.2.1
abbrev q_sz (m : MS) : Nat → Nat := m.2.2.2.2.2.1
abbrev q_dat (m : MS) : Nat → Nat → Nat := m.2.2.2.2.2.2.1
abbrev q_ds (m : MS) : Nat → Nat := m.2.2.2.2.2.2.2.1
abbrev q_tg (m : MS) : Nat → Nat := m.2.2.2.2.2.2.2.2.1
abbrev q_md (m : MS) : Nat → Nat := m.2.2.2.2.2.2.2.2.2.1
abbrev q_ps (m : MS) : Nat → Nat := m.2.2.2.2.2.2.2.2.2.2.1
abbrev q_hl (m : MS) : Nat → Nat := m.2.2.2.2.2.2.2.2.2.2.2.1
abbrev q_pb (m : MS) : Nat → Nat → Nat := m.2.2.2.2.2.2.2.2.2.2.2.2
def q_smem (m : MS) (f : Nat → Nat) : MS := (f, m.2)
def q_spg (m : MS) (f : Nat → Nat) : MS := (m.1, f, m.2.2)
def q_sreg (m : MS) (f : Nat → Int32) : MS := (m.1, m.2.1, f, m.2.2.2)
def q_strp (m : MS) (x : Int32) : MS := (m.1, m.2.1, m.2.2.1, x, m.2.2.2.2)
def q_snm (m : MS) (l : List (Nat × Nat)) : MS := (m.1, m.2.1, m.2.2.1, m.2.2.2.1, l, m.2.2.2.2.2)
/-- a page may be used so: it is there, the user may use it, and the flag g (1 or 2) is set -/
def q_pok (m : MS) (p q g : Nat) : Bool := decide (q_pg m (p * 16 + q) ≠ 0) && (decide ((q_pg m (p * 16 + q) - 1) / 4 % 2 = 1) && decide ((q_pg m (p * 16 + q) - 1) / g % 2 = 1))
def q_ok (m : MS) (p a g : Nat) : Bool := decide (a < 256) && q_pok m p (a / 16) g
def q_loc (m : MS) (p a : Nat) : Nat := (q_pg m (p * 16 + a / 16) - 1) / 8 * 16 + a % 16
def q_okn (m : MS) (p : Nat) (a : Int32) (n g : Nat) : Bool := decide (n = 0) || (decide (0 ≤ a) && decide (∀ i, i < n → q_ok m p (a.toNatClampNeg + i) g = true))
def q_ld (m : MS) (p a : Nat) : Nat := q_mem m (q_loc m p a)
def q_rd (m : MS) (p : Nat) : Nat → Nat → Option (List Nat)
  | 0, _ => none
  | n + 1, a => if q_ok m p a 1 then (if q_ld m p a = 0 then some [] else (q_rd m p n (a + 1)).map (q_ld m p a :: ·)) else none
def q_str (m : MS) (p : Nat) (a : Int32) : Option (List Nat) := if a < 0 then none else q_rd m p 8 a.toNatClampNeg
def q_key (bs : List Nat) : Nat := bs.foldl (fun x b => x * 256 + b) 0 * 256 ^ (7 - bs.length)
/-- the state's numbers are in their bounds -/
def OkM (m : MS) : Prop := ∀ k, q_pg m k ≤ 160
def pgv (n : Nat) : Int32 := match n with
  | 0 => -1
  | e + 1 => nI e
/-- the pages of the first side hold the state's -/
def RCg (m : MS) (σ : oT) : Prop := ∀ k, k < 48 → σ.1 3 k = pgv (q_pg m k)
/-- its frames -/
def RCb (m : MS) (σ : oT) : Prop := ∀ k, k < 320 → σ.1 2 k = nI (q_mem m k)
