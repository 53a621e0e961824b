/-! The heap behind the two constructors: a list of cells over a state: the contents of the int arrays by cell, of the long array, the int fields by cell and place. -/
abbrev oT : Type := (Nat → Nat → Int32) × (Nat → Int64) × (Nat → Nat → Int32)
def sI (σ : oT) (k : Nat) (f : Nat → Int32) : oT := (fun j => if j = k then f else σ.1 j, σ.2.1, σ.2.2)
def sL (σ : oT) (f : Nat → Int64) : oT := (σ.1, f, σ.2.2)
def sF (σ : oT) (k j : Nat) (x : Int32) : oT := (σ.1, σ.2.1, fun a b => if a = k then (if b = j then x else σ.2.2 a b) else σ.2.2 a b)
theorem sI_1 (σ : oT) (k : Nat) (f : Nat → Int32) (j : Nat) : (sI σ k f).1 j = if j = k then f else σ.1 j := rfl
theorem sI_2 (σ : oT) (k : Nat) (f : Nat → Int32) : (sI σ k f).2 = σ.2 := rfl
theorem sL_1 (σ : oT) (f : Nat → Int64) : (sL σ f).1 = σ.1 := rfl
theorem sL_2 (σ : oT) (f : Nat → Int64) : (sL σ f).2.1 = f := rfl
theorem sL_3 (σ : oT) (f : Nat → Int64) : (sL σ f).2.2 = σ.2.2 := rfl
theorem sF_1 (σ : oT) (k j : Nat) (x : Int32) : (sF σ k j x).1 = σ.1 := rfl
theorem sF_2 (σ : oT) (k j : Nat) (x : Int32) : (sF σ k j x).2.1 = σ.2.1 := rfl
theorem sF_3 (σ : oT) (k j : Nat) (x : Int32) (a b : Nat) : (sF σ k j x).2.2 a b = if a = k then (if b = j then x else σ.2.2 a b) else σ.2.2 a b := rfl
def enc (σ : oT) : oH := [
  .inr (6, [.ref 2, .ref 5, .ref 6, .ref 9, .ref 15, .ref 16, .ref 17, .ref 20, .int (σ.2.2 0 8)]),
  .inr (0, [.ref 3, .ref 4]),
  .inl (0, 320, .inl (σ.1 2)),
  .inl (0, 48, .inl (σ.1 3)),
  .inl (0, 9, .inl (σ.1 4)),
  .inr (1, [.ref 7, .ref 8, .int (σ.2.2 5 2)]),
  .inl (1, 8, .inr (.inl σ.2.1)),
  .inl (0, 8, .inl (σ.1 7)),
  .inr (2, [.ref 10, .ref 11, .ref 12, .ref 13, .ref 14]),
  .inl (0, 15, .inl (σ.1 9)),
  .inl (0, 8, .inl (σ.1 10)),
  .inl (0, 8, .inl (σ.1 11)),
  .inl (0, 8, .inl (σ.1 12)),
  .inl (0, 8, .inl (σ.1 13)),
  .inl (3, 6, .inr (.inr (.inr (.inr (va_up (va_up (va_up (va_up (va_up (va_up (fun _ => none) 0 (some 21)) 1 (some 23)) 2 (some 25)) 3 (some 27)) 4 (some 29)) 5 (some 31)))))),
  .inl (4, 2, .inr (.inr (.inr (.inr (va_up (va_up (fun _ => none) 0 (some 33)) 1 (some 35)))))),
  .inr (4, [.ref 18, .ref 19, .int (σ.2.2 16 2)]),
  .inl (0, 4, .inl (σ.1 17)),
  .inl (0, 4, .inl (σ.1 18)),
  .inl (0, 64, .inl (σ.1 19)),
  .inr (5, [.ref 22, .int (σ.2.2 20 1)]),
  .inl (0, 24, .inl (σ.1 21)),
  .inr (5, [.ref 24, .int (σ.2.2 22 1)]),
  .inl (0, 24, .inl (σ.1 23)),
  .inr (5, [.ref 26, .int (σ.2.2 24 1)]),
  .inl (0, 24, .inl (σ.1 25)),
  .inr (5, [.ref 28, .int (σ.2.2 26 1)]),
  .inl (0, 24, .inl (σ.1 27)),
  .inr (5, [.ref 30, .int (σ.2.2 28 1)]),
  .inl (0, 24, .inl (σ.1 29)),
  .inr (5, [.ref 32, .int (σ.2.2 30 1)]),
  .inl (0, 24, .inl (σ.1 31)),
  .inr (3, [.ref 34, .int (σ.2.2 32 1)]),
  .inl (0, 8, .inl (σ.1 33)),
  .inr (3, [.ref 36, .int (σ.2.2 34 1)]),
  .inl (0, 8, .inl (σ.1 35)),
  .inr (7, [.ref 38, .ref 39, .ref 40, .ref 41, .int (σ.2.2 36 4), .ref 42, .ref 43, .ref 44, .ref 45, .ref 46, .ref 47, .ref 48, .ref 49, .ref 50, .ref 51, .ref 52, .ref 53, .ref 54, .ref 55, .int (σ.2.2 36 19), .int (σ.2.2 36 20), .int (σ.2.2 36 21), .int (σ.2.2 36 22), .int (σ.2.2 36 23), .ref 56, .ref 57, .ref 58, .ref 59]),
  .inl (0, 320, .inl (σ.1 37)),
  .inl (0, 48, .inl (σ.1 38)),
  .inl (0, 48, .inl (σ.1 39)),
  .inl (0, 9, .inl (σ.1 40)),
  .inl (2, 6, .inl (σ.1 41)),
  .inl (0, 6, .inl (σ.1 42)),
  .inl (0, 144, .inl (σ.1 43)),
  .inl (0, 8, .inl (σ.1 44)),
  .inl (0, 64, .inl (σ.1 45)),
  .inl (0, 8, .inl (σ.1 46)),
  .inl (0, 8, .inl (σ.1 47)),
  .inl (0, 8, .inl (σ.1 48)),
  .inl (0, 8, .inl (σ.1 49)),
  .inl (0, 8, .inl (σ.1 50)),
  .inl (2, 2, .inl (σ.1 51)),
  .inl (0, 2, .inl (σ.1 52)),
  .inl (0, 16, .inl (σ.1 53)),
  .inl (0, 15, .inl (σ.1 54)),
  .inl (0, 1024, .inl (σ.1 55)),
  .inl (0, 1024, .inl (σ.1 56)),
  .inl (0, 16, .inl (σ.1 57)),
  .inl (0, 2, .inl (σ.1 58))]
theorem og_0 (σ : oT) : o_get (enc σ) (.ref 1) = some (.inr (6, [.ref 2, .ref 5, .ref 6, .ref 9, .ref 15, .ref 16, .ref 17, .ref 20, .int (σ.2.2 0 8)])) := rfl
theorem oi_0 : o_ix (.ref 1) = 0 := rfl
theorem ef_0_8 (σ : oT) (x : Int32) : (enc σ).set 0 (.inr (6, [.ref 2, .ref 5, .ref 6, .ref 9, .ref 15, .ref 16, .ref 17, .ref 20, .int x])) = enc (sF σ 0 8 x) := rfl
theorem og_1 (σ : oT) : o_get (enc σ) (.ref 2) = some (.inr (0, [.ref 3, .ref 4])) := rfl
theorem oi_1 : o_ix (.ref 2) = 1 := rfl
theorem og_2 (σ : oT) : o_get (enc σ) (.ref 3) = some (.inl (0, 320, .inl (σ.1 2))) := rfl
theorem oi_2 : o_ix (.ref 3) = 2 := rfl
theorem oq_2 (G : oG) (σ : oT) : o_ints G (enc σ) (.ref 3) = some (320, σ.1 2) := rfl
theorem es_2 (σ : oT) (f : Nat → Int32) : (enc σ).set 2 (.inl (0, 320, .inl f)) = enc (sI σ 2 f) := rfl
theorem og_3 (σ : oT) : o_get (enc σ) (.ref 4) = some (.inl (0, 48, .inl (σ.1 3))) := rfl
theorem oi_3 : o_ix (.ref 4) = 3 := rfl
theorem oq_3 (G : oG) (σ : oT) : o_ints G (enc σ) (.ref 4) = some (48, σ.1 3) := rfl
theorem es_3 (σ : oT) (f : Nat → Int32) : (enc σ).set 3 (.inl (0, 48, .inl f)) = enc (sI σ 3 f) := rfl
theorem og_4 (σ : oT) : o_get (enc σ) (.ref 5) = some (.inl (0, 9, .inl (σ.1 4))) := rfl
theorem oi_4 : o_ix (.ref 5) = 4 := rfl
theorem oq_4 (G : oG) (σ : oT) : o_ints G (enc σ) (.ref 5) = some (9, σ.1 4) := rfl
theorem es_4 (σ : oT) (f : Nat → Int32) : (enc σ).set 4 (.inl (0, 9, .inl f)) = enc (sI σ 4 f) := rfl
theorem og_5 (σ : oT) : o_get (enc σ) (.ref 6) = some (.inr (1, [.ref 7, .ref 8, .int (σ.2.2 5 2)])) := rfl
theorem oi_5 : o_ix (.ref 6) = 5 := rfl
theorem ef_5_2 (σ : oT) (x : Int32) : (enc σ).set 5 (.inr (1, [.ref 7, .ref 8, .int x])) = enc (sF σ 5 2 x) := rfl
theorem og_6 (σ : oT) : o_get (enc σ) (.ref 7) = some (.inl (1, 8, .inr (.inl σ.2.1))) := rfl
theorem oi_6 : o_ix (.ref 7) = 6 := rfl
theorem es_6 (σ : oT) (f : Nat → Int64) : (enc σ).set 6 (.inl (1, 8, .inr (.inl f))) = enc (sL σ f) := rfl
theorem og_7 (σ : oT) : o_get (enc σ) (.ref 8) = some (.inl (0, 8, .inl (σ.1 7))) := rfl
theorem oi_7 : o_ix (.ref 8) = 7 := rfl
theorem oq_7 (G : oG) (σ : oT) : o_ints G (enc σ) (.ref 8) = some (8, σ.1 7) := rfl
theorem es_7 (σ : oT) (f : Nat → Int32) : (enc σ).set 7 (.inl (0, 8, .inl f)) = enc (sI σ 7 f) := rfl
theorem og_8 (σ : oT) : o_get (enc σ) (.ref 9) = some (.inr (2, [.ref 10, .ref 11, .ref 12, .ref 13, .ref 14])) := rfl
theorem oi_8 : o_ix (.ref 9) = 8 := rfl
theorem og_9 (σ : oT) : o_get (enc σ) (.ref 10) = some (.inl (0, 15, .inl (σ.1 9))) := rfl
theorem oi_9 : o_ix (.ref 10) = 9 := rfl
theorem oq_9 (G : oG) (σ : oT) : o_ints G (enc σ) (.ref 10) = some (15, σ.1 9) := rfl
theorem es_9 (σ : oT) (f : Nat → Int32) : (enc σ).set 9 (.inl (0, 15, .inl f)) = enc (sI σ 9 f) := rfl
theorem og_10 (σ : oT) : o_get (enc σ) (.ref 11) = some (.inl (0, 8, .inl (σ.1 10))) := rfl
theorem oi_10 : o_ix (.ref 11) = 10 := rfl
theorem oq_10 (G : oG) (σ : oT) : o_ints G (enc σ) (.ref 11) = some (8, σ.1 10) := rfl
theorem es_10 (σ : oT) (f : Nat → Int32) : (enc σ).set 10 (.inl (0, 8, .inl f)) = enc (sI σ 10 f) := rfl
theorem og_11 (σ : oT) : o_get (enc σ) (.ref 12) = some (.inl (0, 8, .inl (σ.1 11))) := rfl
theorem oi_11 : o_ix (.ref 12) = 11 := rfl
theorem oq_11 (G : oG) (σ : oT) : o_ints G (enc σ) (.ref 12) = some (8, σ.1 11) := rfl
theorem es_11 (σ : oT) (f : Nat → Int32) : (enc σ).set 11 (.inl (0, 8, .inl f)) = enc (sI σ 11 f) := rfl
theorem og_12 (σ : oT) : o_get (enc σ) (.ref 13) = some (.inl (0, 8, .inl (σ.1 12))) := rfl
theorem oi_12 : o_ix (.ref 13) = 12 := rfl
theorem oq_12 (G : oG) (σ : oT) : o_ints G (enc σ) (.ref 13) = some (8, σ.1 12) := rfl
theorem es_12 (σ : oT) (f : Nat → Int32) : (enc σ).set 12 (.inl (0, 8, .inl f)) = enc (sI σ 12 f) := rfl
theorem og_13 (σ : oT) : o_get (enc σ) (.ref 14) = some (.inl (0, 8, .inl (σ.1 13))) := rfl
theorem oi_13 : o_ix (.ref 14) = 13 := rfl
theorem oq_13 (G : oG) (σ : oT) : o_ints G (enc σ) (.ref 14) = some (8, σ.1 13) := rfl
theorem es_13 (σ : oT) (f : Nat → Int32) : (enc σ).set 13 (.inl (0, 8, .inl f)) = enc (sI σ 13 f) := rfl
theorem og_14 (σ : oT) : o_get (enc σ) (.ref 15) = some (.inl (3, 6, .inr (.inr (.inr (.inr (va_up (va_up (va_up (va_up (va_up (va_up (fun _ => none) 0 (some 21)) 1 (some 23)) 2 (some 25)) 3 (some 27)) 4 (some 29)) 5 (some 31))))))) := rfl
theorem oi_14 : o_ix (.ref 15) = 14 := rfl
theorem og_15 (σ : oT) : o_get (enc σ) (.ref 16) = some (.inl (4, 2, .inr (.inr (.inr (.inr (va_up (va_up (fun _ => none) 0 (some 33)) 1 (some 35))))))) := rfl
theorem oi_15 : o_ix (.ref 16) = 15 := rfl
theorem og_16 (σ : oT) : o_get (enc σ) (.ref 17) = some (.inr (4, [.ref 18, .ref 19, .int (σ.2.2 16 2)])) := rfl
theorem oi_16 : o_ix (.ref 17) = 16 := rfl
theorem ef_16_2 (σ : oT) (x : Int32) : (enc σ).set 16 (.inr (4, [.ref 18, .ref 19, .int x])) = enc (sF σ 16 2 x) := rfl
theorem og_17 (σ : oT) : o_get (enc σ) (.ref 18) = some (.inl (0, 4, .inl (σ.1 17))) := rfl
theorem oi_17 : o_ix (.ref 18) = 17 := rfl
theorem oq_17 (G : oG) (σ : oT) : o_ints G (enc σ) (.ref 18) = some (4, σ.1 17) := rfl
theorem es_17 (σ : oT) (f : Nat → Int32) : (enc σ).set 17 (.inl (0, 4, .inl f)) = enc (sI σ 17 f) := rfl
theorem og_18 (σ : oT) : o_get (enc σ) (.ref 19) = some (.inl (0, 4, .inl (σ.1 18))) := rfl
theorem oi_18 : o_ix (.ref 19) = 18 := rfl
theorem oq_18 (G : oG) (σ : oT) : o_ints G (enc σ) (.ref 19) = some (4, σ.1 18) := rfl
theorem es_18 (σ : oT) (f : Nat → Int32) : (enc σ).set 18 (.inl (0, 4, .inl f)) = enc (sI σ 18 f) := rfl
theorem og_19 (σ : oT) : o_get (enc σ) (.ref 20) = some (.inl (0, 64, .inl (σ.1 19))) := rfl
theorem oi_19 : o_ix (.ref 20) = 19 := rfl
theorem oq_19 (G : oG) (σ : oT) : o_ints G (enc σ) (.ref 20) = some (64, σ.1 19) := rfl
theorem es_19 (σ : oT) (f : Nat → Int32) : (enc σ).set 19 (.inl (0, 64, .inl f)) = enc (sI σ 19 f) := rfl
theorem og_20 (σ : oT) : o_get (enc σ) (.ref 21) = some (.inr (5, [.ref 22, .int (σ.2.2 20 1)])) := rfl
theorem oi_20 : o_ix (.ref 21) = 20 := rfl
theorem ef_20_1 (σ : oT) (x : Int32) : (enc σ).set 20 (.inr (5, [.ref 22, .int x])) = enc (sF σ 20 1 x) := rfl
theorem og_21 (σ : oT) : o_get (enc σ) (.ref 22) = some (.inl (0, 24, .inl (σ.1 21))) := rfl
theorem oi_21 : o_ix (.ref 22) = 21 := rfl
theorem oq_21 (G : oG) (σ : oT) : o_ints G (enc σ) (.ref 22) = some (24, σ.1 21) := rfl
theorem es_21 (σ : oT) (f : Nat → Int32) : (enc σ).set 21 (.inl (0, 24, .inl f)) = enc (sI σ 21 f) := rfl
theorem og_22 (σ : oT) : o_get (enc σ) (.ref 23) = some (.inr (5, [.ref 24, .int (σ.2.2 22 1)])) := rfl
theorem oi_22 : o_ix (.ref 23) = 22 := rfl
theorem ef_22_1 (σ : oT) (x : Int32) : (enc σ).set 22 (.inr (5, [.ref 24, .int x])) = enc (sF σ 22 1 x) := rfl
theorem og_23 (σ : oT) : o_get (enc σ) (.ref 24) = some (.inl (0, 24, .inl (σ.1 23))) := rfl
theorem oi_23 : o_ix (.ref 24) = 23 := rfl
theorem oq_23 (G : oG) (σ : oT) : o_ints G (enc σ) (.ref 24) = some (24, σ.1 23) := rfl
theorem es_23 (σ : oT) (f : Nat → Int32) : (enc σ).set 23 (.inl (0, 24, .inl f)) = enc (sI σ 23 f) := rfl
theorem og_24 (σ : oT) : o_get (enc σ) (.ref 25) = some (.inr (5, [.ref 26, .int (σ.2.2 24 1)])) := rfl
theorem oi_24 : o_ix (.ref 25) = 24 := rfl
theorem ef_24_1 (σ : oT) (x : Int32) : (enc σ).set 24 (.inr (5, [.ref 26, .int x])) = enc (sF σ 24 1 x) := rfl
theorem og_25 (σ : oT) : o_get (enc σ) (.ref 26) = some (.inl (0, 24, .inl (σ.1 25))) := rfl
theorem oi_25 : o_ix (.ref 26) = 25 := rfl
theorem oq_25 (G : oG) (σ : oT) : o_ints G (enc σ) (.ref 26) = some (24, σ.1 25) := rfl
theorem es_25 (σ : oT) (f : Nat → Int32) : (enc σ).set 25 (.inl (0, 24, .inl f)) = enc (sI σ 25 f) := rfl
theorem og_26 (σ : oT) : o_get (enc σ) (.ref 27) = some (.inr (5, [.ref 28, .int (σ.2.2 26 1)])) := rfl
theorem oi_26 : o_ix (.ref 27) = 26 := rfl
theorem ef_26_1 (σ : oT) (x : Int32) : (enc σ).set 26 (.inr (5, [.ref 28, .int x])) = enc (sF σ 26 1 x) := rfl
theorem og_27 (σ : oT) : o_get (enc σ) (.ref 28) = some (.inl (0, 24, .inl (σ.1 27))) := rfl
theorem oi_27 : o_ix (.ref 28) = 27 := rfl
theorem oq_27 (G : oG) (σ : oT) : o_ints G (enc σ) (.ref 28) = some (24, σ.1 27) := rfl
theorem es_27 (σ : oT) (f : Nat → Int32) : (enc σ).set 27 (.inl (0, 24, .inl f)) = enc (sI σ 27 f) := rfl
theorem og_28 (σ : oT) : o_get (enc σ) (.ref 29) = some (.inr (5, [.ref 30, .int (σ.2.2 28 1)])) := rfl
theorem oi_28 : o_ix (.ref 29) = 28 := rfl
theorem ef_28_1 (σ : oT) (x : Int32) : (enc σ).set 28 (.inr (5, [.ref 30, .int x])) = enc (sF σ 28 1 x) := rfl
theorem og_29 (σ : oT) : o_get (enc σ) (.ref 30) = some (.inl (0, 24, .inl (σ.1 29))) := rfl
theorem oi_29 : o_ix (.ref 30) = 29 := rfl
theorem oq_29 (G : oG) (σ : oT) : o_ints G (enc σ) (.ref 30) = some (24, σ.1 29) := rfl
theorem es_29 (σ : oT) (f : Nat → Int32) : (enc σ).set 29 (.inl (0, 24, .inl f)) = enc (sI σ 29 f) := rfl
theorem og_30 (σ : oT) : o_get (enc σ) (.ref 31) = some (.inr (5, [.ref 32, .int (σ.2.2 30 1)])) := rfl
theorem oi_30 : o_ix (.ref 31) = 30 := rfl
theorem ef_30_1 (σ : oT) (x : Int32) : (enc σ).set 30 (.inr (5, [.ref 32, .int x])) = enc (sF σ 30 1 x) := rfl
theorem og_31 (σ : oT) : o_get (enc σ) (.ref 32) = some (.inl (0, 24, .inl (σ.1 31))) := rfl
theorem oi_31 : o_ix (.ref 32) = 31 := rfl
theorem oq_31 (G : oG) (σ : oT) : o_ints G (enc σ) (.ref 32) = some (24, σ.1 31) := rfl
theorem es_31 (σ : oT) (f : Nat → Int32) : (enc σ).set 31 (.inl (0, 24, .inl f)) = enc (sI σ 31 f) := rfl
theorem og_32 (σ : oT) : o_get (enc σ) (.ref 33) = some (.inr (3, [.ref 34, .int (σ.2.2 32 1)])) := rfl
theorem oi_32 : o_ix (.ref 33) = 32 := rfl
theorem ef_32_1 (σ : oT) (x : Int32) : (enc σ).set 32 (.inr (3, [.ref 34, .int x])) = enc (sF σ 32 1 x) := rfl
theorem og_33 (σ : oT) : o_get (enc σ) (.ref 34) = some (.inl (0, 8, .inl (σ.1 33))) := rfl
theorem oi_33 : o_ix (.ref 34) = 33 := rfl
theorem oq_33 (G : oG) (σ : oT) : o_ints G (enc σ) (.ref 34) = some (8, σ.1 33) := rfl
theorem es_33 (σ : oT) (f : Nat → Int32) : (enc σ).set 33 (.inl (0, 8, .inl f)) = enc (sI σ 33 f) := rfl
theorem og_34 (σ : oT) : o_get (enc σ) (.ref 35) = some (.inr (3, [.ref 36, .int (σ.2.2 34 1)])) := rfl
theorem oi_34 : o_ix (.ref 35) = 34 := rfl
theorem ef_34_1 (σ : oT) (x : Int32) : (enc σ).set 34 (.inr (3, [.ref 36, .int x])) = enc (sF σ 34 1 x) := rfl
theorem og_35 (σ : oT) : o_get (enc σ) (.ref 36) = some (.inl (0, 8, .inl (σ.1 35))) := rfl
theorem oi_35 : o_ix (.ref 36) = 35 := rfl
theorem oq_35 (G : oG) (σ : oT) : o_ints G (enc σ) (.ref 36) = some (8, σ.1 35) := rfl
theorem es_35 (σ : oT) (f : Nat → Int32) : (enc σ).set 35 (.inl (0, 8, .inl f)) = enc (sI σ 35 f) := rfl
theorem og_36 (σ : oT) : o_get (enc σ) (.ref 37) = some (.inr (7, [.ref 38, .ref 39, .ref 40, .ref 41, .int (σ.2.2 36 4), .ref 42, .ref 43, .ref 44, .ref 45, .ref 46, .ref 47, .ref 48, .ref 49, .ref 50, .ref 51, .ref 52, .ref 53, .ref 54, .ref 55, .int (σ.2.2 36 19), .int (σ.2.2 36 20), .int (σ.2.2 36 21), .int (σ.2.2 36 22), .int (σ.2.2 36 23), .ref 56, .ref 57, .ref 58, .ref 59])) := rfl
theorem oi_36 : o_ix (.ref 37) = 36 := rfl
theorem ef_36_4 (σ : oT) (x : Int32) : (enc σ).set 36 (.inr (7, [.ref 38, .ref 39, .ref 40, .ref 41, .int x, .ref 42, .ref 43, .ref 44, .ref 45, .ref 46, .ref 47, .ref 48, .ref 49, .ref 50, .ref 51, .ref 52, .ref 53, .ref 54, .ref 55, .int (σ.2.2 36 19), .int (σ.2.2 36 20), .int (σ.2.2 36 21), .int (σ.2.2 36 22), .int (σ.2.2 36 23), .ref 56, .ref 57, .ref 58, .ref 59])) = enc (sF σ 36 4 x) := rfl
theorem ef_36_19 (σ : oT) (x : Int32) : (enc σ).set 36 (.inr (7, [.ref 38, .ref 39, .ref 40, .ref 41, .int (σ.2.2 36 4), .ref 42, .ref 43, .ref 44, .ref 45, .ref 46, .ref 47, .ref 48, .ref 49, .ref 50, .ref 51, .ref 52, .ref 53, .ref 54, .ref 55, .int x, .int (σ.2.2 36 20), .int (σ.2.2 36 21), .int (σ.2.2 36 22), .int (σ.2.2 36 23), .ref 56, .ref 57, .ref 58, .ref 59])) = enc (sF σ 36 19 x) := rfl
theorem ef_36_20 (σ : oT) (x : Int32) : (enc σ).set 36 (.inr (7, [.ref 38, .ref 39, .ref 40, .ref 41, .int (σ.2.2 36 4), .ref 42, .ref 43, .ref 44, .ref 45, .ref 46, .ref 47, .ref 48, .ref 49, .ref 50, .ref 51, .ref 52, .ref 53, .ref 54, .ref 55, .int (σ.2.2 36 19), .int x, .int (σ.2.2 36 21), .int (σ.2.2 36 22), .int (σ.2.2 36 23), .ref 56, .ref 57, .ref 58, .ref 59])) = enc (sF σ 36 20 x) := rfl
theorem ef_36_21 (σ : oT) (x : Int32) : (enc σ).set 36 (.inr (7, [.ref 38, .ref 39, .ref 40, .ref 41, .int (σ.2.2 36 4), .ref 42, .ref 43, .ref 44, .ref 45, .ref 46, .ref 47, .ref 48, .ref 49, .ref 50, .ref 51, .ref 52, .ref 53, .ref 54, .ref 55, .int (σ.2.2 36 19), .int (σ.2.2 36 20), .int x, .int (σ.2.2 36 22), .int (σ.2.2 36 23), .ref 56, .ref 57, .ref 58, .ref 59])) = enc (sF σ 36 21 x) := rfl
theorem ef_36_22 (σ : oT) (x : Int32) : (enc σ).set 36 (.inr (7, [.ref 38, .ref 39, .ref 40, .ref 41, .int (σ.2.2 36 4), .ref 42, .ref 43, .ref 44, .ref 45, .ref 46, .ref 47, .ref 48, .ref 49, .ref 50, .ref 51, .ref 52, .ref 53, .ref 54, .ref 55, .int (σ.2.2 36 19), .int (σ.2.2 36 20), .int (σ.2.2 36 21), .int x, .int (σ.2.2 36 23), .ref 56, .ref 57, .ref 58, .ref 59])) = enc (sF σ 36 22 x) := rfl
theorem ef_36_23 (σ : oT) (x : Int32) : (enc σ).set 36 (.inr (7, [.ref 38, .ref 39, .ref 40, .ref 41, .int (σ.2.2 36 4), .ref 42, .ref 43, .ref 44, .ref 45, .ref 46, .ref 47, .ref 48, .ref 49, .ref 50, .ref 51, .ref 52, .ref 53, .ref 54, .ref 55, .int (σ.2.2 36 19), .int (σ.2.2 36 20), .int (σ.2.2 36 21), .int (σ.2.2 36 22), .int x, .ref 56, .ref 57, .ref 58, .ref 59])) = enc (sF σ 36 23 x) := rfl
theorem og_37 (σ : oT) : o_get (enc σ) (.ref 38) = some (.inl (0, 320, .inl (σ.1 37))) := rfl
theorem oi_37 : o_ix (.ref 38) = 37 := rfl
theorem oq_37 (G : oG) (σ : oT) : o_ints G (enc σ) (.ref 38) = some (320, σ.1 37) := rfl
theorem es_37 (σ : oT) (f : Nat → Int32) : (enc σ).set 37 (.inl (0, 320, .inl f)) = enc (sI σ 37 f) := rfl
theorem og_38 (σ : oT) : o_get (enc σ) (.ref 39) = some (.inl (0, 48, .inl (σ.1 38))) := rfl
theorem oi_38 : o_ix (.ref 39) = 38 := rfl
theorem oq_38 (G : oG) (σ : oT) : o_ints G (enc σ) (.ref 39) = some (48, σ.1 38) := rfl
theorem es_38 (σ : oT) (f : Nat → Int32) : (enc σ).set 38 (.inl (0, 48, .inl f)) = enc (sI σ 38 f) := rfl
theorem og_39 (σ : oT) : o_get (enc σ) (.ref 40) = some (.inl (0, 48, .inl (σ.1 39))) := rfl
theorem oi_39 : o_ix (.ref 40) = 39 := rfl
theorem oq_39 (G : oG) (σ : oT) : o_ints G (enc σ) (.ref 40) = some (48, σ.1 39) := rfl
theorem es_39 (σ : oT) (f : Nat → Int32) : (enc σ).set 39 (.inl (0, 48, .inl f)) = enc (sI σ 39 f) := rfl
theorem og_40 (σ : oT) : o_get (enc σ) (.ref 41) = some (.inl (0, 9, .inl (σ.1 40))) := rfl
theorem oi_40 : o_ix (.ref 41) = 40 := rfl
theorem oq_40 (G : oG) (σ : oT) : o_ints G (enc σ) (.ref 41) = some (9, σ.1 40) := rfl
theorem es_40 (σ : oT) (f : Nat → Int32) : (enc σ).set 40 (.inl (0, 9, .inl f)) = enc (sI σ 40 f) := rfl
theorem og_41 (σ : oT) : o_get (enc σ) (.ref 42) = some (.inl (2, 6, .inl (σ.1 41))) := rfl
theorem oi_41 : o_ix (.ref 42) = 41 := rfl
theorem es_41 (σ : oT) (f : Nat → Int32) : (enc σ).set 41 (.inl (2, 6, .inl f)) = enc (sI σ 41 f) := rfl
theorem og_42 (σ : oT) : o_get (enc σ) (.ref 43) = some (.inl (0, 6, .inl (σ.1 42))) := rfl
theorem oi_42 : o_ix (.ref 43) = 42 := rfl
theorem oq_42 (G : oG) (σ : oT) : o_ints G (enc σ) (.ref 43) = some (6, σ.1 42) := rfl
theorem es_42 (σ : oT) (f : Nat → Int32) : (enc σ).set 42 (.inl (0, 6, .inl f)) = enc (sI σ 42 f) := rfl
theorem og_43 (σ : oT) : o_get (enc σ) (.ref 44) = some (.inl (0, 144, .inl (σ.1 43))) := rfl
theorem oi_43 : o_ix (.ref 44) = 43 := rfl
theorem oq_43 (G : oG) (σ : oT) : o_ints G (enc σ) (.ref 44) = some (144, σ.1 43) := rfl
theorem es_43 (σ : oT) (f : Nat → Int32) : (enc σ).set 43 (.inl (0, 144, .inl f)) = enc (sI σ 43 f) := rfl
theorem og_44 (σ : oT) : o_get (enc σ) (.ref 45) = some (.inl (0, 8, .inl (σ.1 44))) := rfl
theorem oi_44 : o_ix (.ref 45) = 44 := rfl
theorem oq_44 (G : oG) (σ : oT) : o_ints G (enc σ) (.ref 45) = some (8, σ.1 44) := rfl
theorem es_44 (σ : oT) (f : Nat → Int32) : (enc σ).set 44 (.inl (0, 8, .inl f)) = enc (sI σ 44 f) := rfl
theorem og_45 (σ : oT) : o_get (enc σ) (.ref 46) = some (.inl (0, 64, .inl (σ.1 45))) := rfl
theorem oi_45 : o_ix (.ref 46) = 45 := rfl
theorem oq_45 (G : oG) (σ : oT) : o_ints G (enc σ) (.ref 46) = some (64, σ.1 45) := rfl
theorem es_45 (σ : oT) (f : Nat → Int32) : (enc σ).set 45 (.inl (0, 64, .inl f)) = enc (sI σ 45 f) := rfl
theorem og_46 (σ : oT) : o_get (enc σ) (.ref 47) = some (.inl (0, 8, .inl (σ.1 46))) := rfl
theorem oi_46 : o_ix (.ref 47) = 46 := rfl
theorem oq_46 (G : oG) (σ : oT) : o_ints G (enc σ) (.ref 47) = some (8, σ.1 46) := rfl
theorem es_46 (σ : oT) (f : Nat → Int32) : (enc σ).set 46 (.inl (0, 8, .inl f)) = enc (sI σ 46 f) := rfl
theorem og_47 (σ : oT) : o_get (enc σ) (.ref 48) = some (.inl (0, 8, .inl (σ.1 47))) := rfl
theorem oi_47 : o_ix (.ref 48) = 47 := rfl
theorem oq_47 (G : oG) (σ : oT) : o_ints G (enc σ) (.ref 48) = some (8, σ.1 47) := rfl
theorem es_47 (σ : oT) (f : Nat → Int32) : (enc σ).set 47 (.inl (0, 8, .inl f)) = enc (sI σ 47 f) := rfl
theorem og_48 (σ : oT) : o_get (enc σ) (.ref 49) = some (.inl (0, 8, .inl (σ.1 48))) := rfl
theorem oi_48 : o_ix (.ref 49) = 48 := rfl
theorem oq_48 (G : oG) (σ : oT) : o_ints G (enc σ) (.ref 49) = some (8, σ.1 48) := rfl
theorem es_48 (σ : oT) (f : Nat → Int32) : (enc σ).set 48 (.inl (0, 8, .inl f)) = enc (sI σ 48 f) := rfl
theorem og_49 (σ : oT) : o_get (enc σ) (.ref 50) = some (.inl (0, 8, .inl (σ.1 49))) := rfl
theorem oi_49 : o_ix (.ref 50) = 49 := rfl
theorem oq_49 (G : oG) (σ : oT) : o_ints G (enc σ) (.ref 50) = some (8, σ.1 49) := rfl
theorem es_49 (σ : oT) (f : Nat → Int32) : (enc σ).set 49 (.inl (0, 8, .inl f)) = enc (sI σ 49 f) := rfl
theorem og_50 (σ : oT) : o_get (enc σ) (.ref 51) = some (.inl (0, 8, .inl (σ.1 50))) := rfl
theorem oi_50 : o_ix (.ref 51) = 50 := rfl
theorem oq_50 (G : oG) (σ : oT) : o_ints G (enc σ) (.ref 51) = some (8, σ.1 50) := rfl
theorem es_50 (σ : oT) (f : Nat → Int32) : (enc σ).set 50 (.inl (0, 8, .inl f)) = enc (sI σ 50 f) := rfl
theorem og_51 (σ : oT) : o_get (enc σ) (.ref 52) = some (.inl (2, 2, .inl (σ.1 51))) := rfl
theorem oi_51 : o_ix (.ref 52) = 51 := rfl
theorem es_51 (σ : oT) (f : Nat → Int32) : (enc σ).set 51 (.inl (2, 2, .inl f)) = enc (sI σ 51 f) := rfl
theorem og_52 (σ : oT) : o_get (enc σ) (.ref 53) = some (.inl (0, 2, .inl (σ.1 52))) := rfl
theorem oi_52 : o_ix (.ref 53) = 52 := rfl
theorem oq_52 (G : oG) (σ : oT) : o_ints G (enc σ) (.ref 53) = some (2, σ.1 52) := rfl
theorem es_52 (σ : oT) (f : Nat → Int32) : (enc σ).set 52 (.inl (0, 2, .inl f)) = enc (sI σ 52 f) := rfl
theorem og_53 (σ : oT) : o_get (enc σ) (.ref 54) = some (.inl (0, 16, .inl (σ.1 53))) := rfl
theorem oi_53 : o_ix (.ref 54) = 53 := rfl
theorem oq_53 (G : oG) (σ : oT) : o_ints G (enc σ) (.ref 54) = some (16, σ.1 53) := rfl
theorem es_53 (σ : oT) (f : Nat → Int32) : (enc σ).set 53 (.inl (0, 16, .inl f)) = enc (sI σ 53 f) := rfl
theorem og_54 (σ : oT) : o_get (enc σ) (.ref 55) = some (.inl (0, 15, .inl (σ.1 54))) := rfl
theorem oi_54 : o_ix (.ref 55) = 54 := rfl
theorem oq_54 (G : oG) (σ : oT) : o_ints G (enc σ) (.ref 55) = some (15, σ.1 54) := rfl
theorem es_54 (σ : oT) (f : Nat → Int32) : (enc σ).set 54 (.inl (0, 15, .inl f)) = enc (sI σ 54 f) := rfl
theorem og_55 (σ : oT) : o_get (enc σ) (.ref 56) = some (.inl (0, 1024, .inl (σ.1 55))) := rfl
theorem oi_55 : o_ix (.ref 56) = 55 := rfl
theorem oq_55 (G : oG) (σ : oT) : o_ints G (enc σ) (.ref 56) = some (1024, σ.1 55) := rfl
theorem es_55 (σ : oT) (f : Nat → Int32) : (enc σ).set 55 (.inl (0, 1024, .inl f)) = enc (sI σ 55 f) := rfl
theorem og_56 (σ : oT) : o_get (enc σ) (.ref 57) = some (.inl (0, 1024, .inl (σ.1 56))) := rfl
theorem oi_56 : o_ix (.ref 57) = 56 := rfl
theorem oq_56 (G : oG) (σ : oT) : o_ints G (enc σ) (.ref 57) = some (1024, σ.1 56) := rfl
theorem es_56 (σ : oT) (f : Nat → Int32) : (enc σ).set 56 (.inl (0, 1024, .inl f)) = enc (sI σ 56 f) := rfl
theorem og_57 (σ : oT) : o_get (enc σ) (.ref 58) = some (.inl (0, 16, .inl (σ.1 57))) := rfl
theorem oi_57 : o_ix (.ref 58) = 57 := rfl
theorem oq_57 (G : oG) (σ : oT) : o_ints G (enc σ) (.ref 58) = some (16, σ.1 57) := rfl
theorem es_57 (σ : oT) (f : Nat → Int32) : (enc σ).set 57 (.inl (0, 16, .inl f)) = enc (sI σ 57 f) := rfl
theorem og_58 (σ : oT) : o_get (enc σ) (.ref 59) = some (.inl (0, 2, .inl (σ.1 58))) := rfl
theorem oi_58 : o_ix (.ref 59) = 58 := rfl
theorem oq_58 (G : oG) (σ : oT) : o_ints G (enc σ) (.ref 59) = some (2, σ.1 58) := rfl
theorem es_58 (σ : oT) (f : Nat → Int32) : (enc σ).set 58 (.inl (0, 2, .inl f)) = enc (sI σ 58 f) := rfl
theorem oq_s (G : oG) (h : oH) : o_ints G h (.ref 0) = some (gn G, gx G) := rfl
