theorem fa_lt' (a b : Int32) : a < b ↔ a.toInt < b.toInt := Int32.lt_iff_toInt_lt
theorem fa_le' (a b : Int32) : a ≤ b ↔ a.toInt ≤ b.toInt := Int32.le_iff_toInt_le
theorem fa_eq' (a b : Int32) : a = b ↔ a.toInt = b.toInt := Int32.toInt_inj.symm
theorem zisB_u {n : Nat} {x : Int32} (h : zisB n x = true) (hn : n < 2 ^ 31) : ∃ j, j < n ∧ x = nI j := by
  unfold zisB at h
  rw [Bool.and_eq_true, decide_eq_true_eq, decide_eq_true_eq] at h
  obtain ⟨j, hj, rfl⟩ := nI_of h.1
  refine ⟨j, ?_, rfl⟩
  rcases Nat.lt_or_ge j n with h5 | h5
  · exact h5
  · exact absurd (nI_le h5 (by omega)) h.2
theorem zisB_v {n j : Nat} (h : j < n) (hn : n < 2 ^ 31) : zisB n (nI j) = true := zisB_i (nI_pos (by omega)) (nI_ge h (by omega))
theorem zisB_le {k : Nat} {x : Int32} (h0 : ¬ x < 0) (h : x ≤ nI k) (hk : k < 2 ^ 30) : zisB (k + 1) x = true := by
  obtain ⟨j, hj, rfl⟩ := nI_of h0
  exact zisB_v (by have := (nI_leI hj (by omega)).mp h; omega) (by omega)
theorem zisB_nle {k : Nat} {x : Int32} (h : ¬ x ≤ nI k) (hk : k < 2 ^ 30) : ¬ zisB (k + 1) x = true := by
  intro h2
  obtain ⟨j, hj, rfl⟩ := zisB_u h2 (by omega)
  exact h (nI_le (by omega) (by omega))
abbrev zRes : Type := Int32 × zA
def zcl (x : Int32) : Nat := x.toNatClampNeg
theorem zcl_i {j : Nat} (h : j < 2 ^ 31) : zcl (nI j) = j := nI_clamp h
def zpush (C : zCar) (c : Nat → Nat) : zCar := (c, zpushN C.2.1, zpushP C.2.1 C.2.2 C.1)
def zpop (M : Nat) : Nat := zsum (fun q => if M.testBit q then 1 else 0) 6
def op_type (x : Int32) : zA → zRes := fun (T, D, C, I, S, tr) => if zisB 256 x = true then (if T.1 < 120 then (nI (T.1 + 1), ((T.1 + 1, zup T.2 T.1 (zcl x)), D, C, I, S, tr)) else (-3, (T, D, C, I, S, tr))) else (-1, (T, D, C, I, S, tr))
def op_clear : zA → zRes := fun (T, D, C, I, S, tr) => (nI T.1, ((0, T.2), D, C, I, S, tr))
def op_rider (x w : Int32) : zA → zRes := fun (T, D, C, I, S, tr) => ((if zisB D.1 x = true then (let r := zcl x; if w = 0 then nI (C.1 (4 + r)) else if w = 1 then nI (D.2.1 r) else if w = 2 then nI (D.2.2.1 r) else if w = 3 then (if (C.1 1).testBit r then 1 else 0) else if w = 4 then zdn (C.1 (10 + r)) else if w = 5 then zrv (zwhom D.1 D.2.1 C.1 r (D.2.2.1 r)) else if w = 6 then (if (C.1 1).testBit r then zrv (zring D.1 C.1 (C.1 1) r) else -9) else if w = 7 then (if (C.1 1).testBit r then zrv (ztwo D.1 C.1 r) else -9) else -1) else -1), (T, D, C, I, S, tr))
def op_latest (x y : Int32) : zA → zRes := fun (T, D, C, I, S, tr) => ((if zisP D.1 x y = true then nI (C.1 (16 + 6 * zcl x + zcl y)) else -1), (T, D, C, I, S, tr))
def op_rides : zA → zRes := fun (T, D, C, I, S, tr) => if C.1 0 < 99 then (nI (C.1 0 + 1), (T, D, zpush C (zride D.1 D.2.1 D.2.2.1 C.1), I, S, tr)) else (-2, (T, D, C, I, S, tr))
def op_thinks (x y : Int32) : zA → zRes := fun (T, D, C, I, S, tr) => if zisP D.1 x y = true then (if (C.1 1).testBit (zcl x) = true ∧ (C.1 1).testBit (zcl y) = true then (nI (C.1 2 + 1), (T, D, zpush C (zthink C.1 (zcl x) (zcl y)), I, S, tr)) else (-2, (T, D, C, I, S, tr))) else (-1, (T, D, C, I, S, tr))
def op_rings (x : Int32) : zA → zRes := fun (T, D, C, I, S, tr) => if zisB D.1 x = true then (if (C.1 1).testBit (zcl x) = true then (zrv (zring D.1 C.1 (C.1 1) (zcl x)), (T, D, zpush C (zdown C.1 (zring D.1 C.1 (C.1 1) (zcl x))), I, S, tr)) else (-2, (T, D, C, I, S, tr))) else (-1, (T, D, C, I, S, tr))
def op_twice (x : Int32) : zA → zRes := fun (T, D, C, I, S, tr) => if zisB D.1 x = true then (if (C.1 1).testBit (zcl x) = true then (zrv (ztwo D.1 C.1 (zcl x)), (T, D, zpush C (zdown C.1 (ztwo D.1 C.1 (zcl x))), I, S, tr)) else (-2, (T, D, C, I, S, tr))) else (-1, (T, D, C, I, S, tr))
def op_seats (x s : Int32) : zA → zRes := fun (T, D, C, I, S, tr) => if zisB D.1 x = true ∧ zisB 10 s = true then (if (C.1 1).testBit (zcl x) = true ∧ C.1 (4 + zcl x) ≠ zcl s then (nI (C.1 (4 + zcl x)), (T, D, zpush C (zup C.1 (4 + zcl x) (zcl s)), I, S, tr)) else (-2, (T, D, C, I, S, tr))) else (-1, (T, D, C, I, S, tr))
def zboard (c : Nat → Nat) (r : Nat) : Nat → Nat := zup (zup c 1 (zset (c 1) r)) (10 + r) 0
def op_boards (x : Int32) : zA → zRes := fun (T, D, C, I, S, tr) => if zisB D.1 x = true then (if (C.1 1).testBit (zcl x) = true then (-2, (T, D, C, I, S, tr)) else (nI (zpop (zset (C.1 1) (zcl x))), (T, D, zpush C (zboard C.1 (zcl x)), I, S, tr))) else (-1, (T, D, C, I, S, tr))
def op_undo : zA → zRes := fun (T, D, C, I, S, tr) => if C.2.1 = 0 then (-2, (T, D, C, I, S, tr)) else (nI (C.2.1 - 1), (T, D, (C.2.2 (C.2.1 - 1), C.2.1 - 1, C.2.2), I, S, tr))
def op_now (w : Int32) : zA → zRes := fun (T, D, C, I, S, tr) => ((if w = 0 then nI (C.1 0) else if w = 1 then nI (C.1 1) else if w = 2 then nI (C.1 2) else if w = 3 then nI (C.1 3) else if w = 4 then (if D.2.2.2 ≤ C.1 0 then 1 else 0) else -1), (T, D, C, I, S, tr))
/-- whether x is a set of those of M -/
def zsub (M : Nat) (x : Int32) : Bool := decide (x &&& (nI M ^^^ (-1)) = 0)
def op_row (x i : Int32) : zA → zRes := fun (T, D, C, I, S, tr) => ((if zsub (C.1 1) x = true ∧ (i = -1 ∨ zisB 6 i = true) then (if i = -1 then nI (zrows D.1 C.1 (zcl x) 6 (C.1 1) 0) else zrv (zrat D.1 C.1 (zcl x) 6 (C.1 1) 0 (zcl i))) else -1), (T, D, C, I, S, tr))
def op_soon (x : Int32) : zA → zRes := fun (T, D, C, I, S, tr) => ((if zsub (C.1 1) x = true then (if 0 < zrows D.1 C.1 (zcl x) 6 (C.1 1) 0 then 0 else if 0 < zrows D.1 (zride D.1 D.2.1 D.2.2.1 C.1) (zcl x) 6 (C.1 1) 0 then 1 else -9) else -1), (T, D, C, I, S, tr))
def zodds (n : Nat) (c : Nat → Nat) (r q x : Nat) (w : Int32) : Int32 := nI ((if w = 0 then zoup n c r q x else zolo n c r q) / zgcd 64 (zolo n c r q) (zoup n c r q x))
def op_odds (x y p w : Int32) : zA → zRes := fun (T, D, C, I, S, tr) => ((if zisA D.1 C.1 x y = true ∧ zisB 11 p = true ∧ zisB 2 w = true then zodds D.1 C.1 (zcl x) (zcl y) (zcl p) w else -1), (T, D, C, I, S, tr))
def op_circle (x w : Int32) : zA → zRes := fun (T, D, C, I, S, tr) => ((if (zisB D.1 x = true ∧ (C.1 1).testBit (zcl x) = true) ∧ zisB 2 w = true then (let m := zcm D.1 D.2.1 D.2.2.1 C.1 (zcl x) D.1; if m = 0 then -9 else if w = 0 then nI (zpop m) else zrv (zfind (fun q => m.testBit q) 0 6)) else -1), (T, D, C, I, S, tr))
def op_chair (x y : Int32) : zA → zRes := fun (T, D, C, I, S, tr) => ((if zisA D.1 C.1 x y = true then zrv (zfind (fun s => decide (zwho D.1 D.2.1 C.1 (zcl x) s 0 = some (zcl y))) 0 10) else -1), (T, D, C, I, S, tr))
def op_saw (x y : Int32) : zA → zRes := fun (T, D, C, I, S, tr) => if zisA D.1 C.1 x y = true then (if S.1 < 6 then (nI (S.1 + 1), (T, D, C, I, (S.1 + 1, zup S.2.1 S.1 (zcl x), zup S.2.2 S.1 (zcl y)), tr)) else (-3, (T, D, C, I, S, tr))) else (-1, (T, D, C, I, S, tr))
def op_forget : zA → zRes := fun (T, D, C, I, S, tr) => (nI S.1, (T, D, C, I, (0, S.2), tr))
def zlaws (D : zD) (C : zCar) (S : zSe) (r : Nat) : Nat := zlw D.1 D.2.1 C.1 S.1 S.2.1 S.2.2 r 3
def op_laws (x : Int32) : zA → zRes := fun (T, D, C, I, S, tr) => ((if zisB D.1 x = true then nI (zlaws D C S (zcl x)) else -1), (T, D, C, I, S, tr))
def zprod (g : Nat → Nat) : Nat → Nat
  | 0 => 1
  | k + 1 => zprod g k * g k
def op_likely : zA → zRes := fun (T, D, C, I, S, tr) => (nI (zprod (fun r => if (C.1 1).testBit r then zpop (zlaws D C S r) else 1) D.1), (T, D, C, I, S, tr))
def op_mark (w x : Int32) : zA → zRes := fun (T, D, C, I, S, tr) => if zisB D.1 x = true then (let r := zcl x; let s := nI (C.1 (4 + r)); if w = 0 then (s, (T, D, C, I, S, tr + 1)) else if w = 1 then (s + nI (D.2.1 r), (T, D, C, I, S, tr + 10 + 1)) else if w = 2 then (s - nI (zthk D.1 C.1 r), (T, D, C, I, S, tr + 100 + 1)) else if w = 3 then ((s + nI (D.2.1 r)) * 2, (T, D, C, I, S, tr + 1000 + 10 + 1)) else if w = 4 then (s - nI (zthk D.1 C.1 r) + nI r, (T, D, C, I, S, tr + 10000 + 100 + 1)) else if w = 5 then (s + nI (C.1 0), (T, D, C, I, S, tr + 100000 + 1)) else (-1000000, (T, D, C, I, S, tr))) else (-1000000, (T, D, C, I, S, tr))
def op_keep (x : Int32) : zA → zRes := fun (T, D, C, I, S, tr) => if zisB 2 x = true then (nI (C.1 0), (T, D, C, (fun k => if k = zcl x then some C else I k), S, tr)) else (-1, (T, D, C, I, S, tr))
def op_back (x : Int32) : zA → zRes := fun (T, D, C, I, S, tr) => if zisB 2 x = true then (match I (zcl x) with | none => (-2, (T, D, C, I, S, tr)) | some C' => (nI (C'.1 0), (T, D, C', I, S, tr))) else (-1, (T, D, C, I, S, tr))
def op_count (w : Int32) : zA → zRes := fun (T, D, C, I, S, tr) => ((if w = 0 then nI D.1 else if w = 1 then nI D.2.2.2 else if w = 2 then nI S.1 else if w = 3 then nI C.2.1 else if w = 4 then nI T.1 else -1), (T, D, C, I, S, tr))
/-- a public method of the class: 'op' -/
def zPX (op : zA → zRes) (args : List Value) : zSp := fun b cy as N E P => ∃ (K : Nat) (a : zA), as = .ref b :: args ∧ zBC b cy E a ∧ zOk K a ∧ K + 10 < 900000 ∧ 159 ≤ N ∧ (∀ E', zBC b cy E' (op a).2 → (∀ j, 159 ≤ j → E' j = E j) → P (some (.int (op a).1)) E')

