/-! what a car is: text (length, bytes); told (riders, looks, laws, line); now and what may be undone; images; seen; trace -/
abbrev zCar : Type := (Nat → Nat) × Nat × (Nat → Nat → Nat)
abbrev zT : Type := Nat × (Nat → Nat)
abbrev zD : Type := Nat × (Nat → Nat) × (Nat → Nat) × Nat
abbrev zSe : Type := Nat × (Nat → Nat) × (Nat → Nat)
abbrev zIg : Type := Nat → Option zCar
abbrev zA : Type := zT × zD × zCar × zIg × zSe × Int64
def zkm (I : zIg) : Nat := (if (I 0).isSome then 1 else 0) + (if (I 1).isSome then 2 else 0)
/-- BellCars$Text at place 1 -/
def zTx (b : Nat) (cy : zY) (E : zE) (T : zT) : Prop := T.1 ≤ 120 ∧ ∃ (s2 s3 s4 s5 s6 : Int32) (f : Nat → Int32), E 1 = .inr (3, [.int (nI T.1), .ref (b + 2), .int s2, .int s3, .int s4, .int s5, .int s6]) ∧ E 2 = .inl (cy 1, 120, .inl f) ∧ (∀ j, j < T.1 → T.2 j < 256 ∧ f j = nI (T.2 j))
def zImO (b : Nat) (cy : zY) (E : zE) (i n : Nat) : Option zCar → Prop
  | none => zImS b cy E i
  | some C => zIm b cy E i n C.1 C.2.1 C.2.2
/-- the class's cells hold a -/
def zBC (b : Nat) (cy : zY) (E : zE) : zA → Prop := fun (T, D, C, I, S, tr) =>
  E 0 = zB0 b (nI (zkm I)) (nI S.1) tr ∧ zTx b cy E T ∧ (∃ (seat : Nat → Nat) (items : Int32), zTo b cy E 3 D.1 D.2.1 D.2.2.1 seat D.2.2.2 items) ∧ zToS b cy E 7 ∧ zIm b cy E 11 D.1 C.1 C.2.1 C.2.2
  ∧ (∃ f : Nat → Option Nat, E 58 = .inl (cy 3, 2, .inr (.inr (.inr (.inr f)))) ∧ f 0 = some (b + 65) ∧ f 1 = some (b + 112)) ∧ zSh b cy E 59 ∧ zSn b cy E S.1 S.2.1 S.2.2 ∧ zImO b cy E 65 D.1 (I 0) ∧ zImO b cy E 112 D.1 (I 1)
/-- a car that can be, with K thoughts at most -/
def zCok (n K : Nat) (C : zCar) : Prop := zMok n C.1 ∧ C.1 0 ≤ 99 ∧ C.1 2 ≤ K ∧ C.2.1 ≤ 10 ∧ ∀ t, t < C.2.1 → zMok n (C.2.2 t) ∧ C.2.2 t 0 ≤ 99 ∧ C.2.2 t 2 ≤ K
def zOk (K : Nat) : zA → Prop := fun (T, D, C, I, S, _) => D.1 ≤ 6 ∧ (∀ j, j < D.1 → D.2.1 j ≤ 9 ∧ D.2.2.1 j ≤ 2) ∧ D.2.2.2 ≤ 20 ∧ T.1 ≤ 120 ∧ (∀ j, j < T.1 → T.2 j < 256) ∧ zCok D.1 K C ∧ (∀ k, k < 2 → ∀ C', I k = some C' → zCok D.1 K C') ∧ S.1 ≤ 6 ∧ (∀ k, k < S.1 → S.2.1 k < D.1 ∧ S.2.2 k < D.1)
theorem zTx.congr {b : Nat} {cy : zY} {E E' : zE} {T : zT} (h : zTx b cy E T) (hE : ∀ j, 1 ≤ j → j ≤ 2 → E' j = E j) : zTx b cy E' T := by
  obtain ⟨h0, s2, s3, s4, s5, s6, f, h1, h2, h3⟩ := h
  exact ⟨h0, s2, s3, s4, s5, s6, f, by rw [hE _ (by omega) (by omega)]; exact h1, by rw [hE _ (by omega) (by omega)]; exact h2, h3⟩
theorem zImO.congr {b : Nat} {cy : zY} {E E' : zE} {i n : Nat} {o : Option zCar} (h : zImO b cy E i n o) (hE : ∀ j, i ≤ j → j ≤ i + 46 → E' j = E j) : zImO b cy E' i n o := by
  cases o with
  | none => exact zImS.congr h hE
  | some C => exact zIm.congr h hE
theorem zImO.sh {b : Nat} {cy : zY} {E : zE} {i n : Nat} {o : Option zCar} (h : zImO b cy E i n o) : zImS b cy E i := by
  cases o with
  | none => exact h
  | some C => exact zIm.sh h
theorem zSn.congr {b : Nat} {cy : zY} {E E' : zE} {cnt : Nat} {sT sW : Nat → Nat} (h : zSn b cy E cnt sT sW) (h0 : E' 0 = E 0) (h1 : E' 63 = E 63) (h2 : E' 64 = E 64) : zSn b cy E' cnt sT sW := by
  obtain ⟨g0, g1, f, g, g2, g3, g4⟩ := h
  exact ⟨g0, by rw [h0]; exact g1, f, g, by rw [h1]; exact g2, by rw [h2]; exact g3, g4⟩
/-- only the present has changed -/
theorem zBC.cur {b : Nat} {cy : zY} {E E' : zE} {T : zT} {D : zD} {C C' : zCar} {I : zIg} {S : zSe} {tr : Int64} (h : zBC b cy E (T, D, C, I, S, tr)) (hC : zIm b cy E' 11 D.1 C'.1 C'.2.1 C'.2.2) (hE : ∀ j, j < 11 ∨ 57 < j → E' j = E j) : zBC b cy E' (T, D, C', I, S, tr) := by
  obtain ⟨h0, h1, ⟨seat, items, h2⟩, h3, h4, ⟨f, h5, h6, h7⟩, h8, h9, h10, h11⟩ := h
  exact ⟨by rw [hE _ (by omega)]; exact h0, h1.congr (fun j _ _ => hE j (by omega)), ⟨seat, items, h2.congr (fun j _ _ => hE j (by omega))⟩, h3.congr (fun j _ _ => hE j (by omega)), hC, ⟨f, by rw [hE _ (by omega)]; exact h5, h6, h7⟩, h8.congr (fun j _ _ => hE j (by omega)), h9.congr (hE _ (by omega)) (hE _ (by omega)) (hE _ (by omega)), h10.congr (fun j _ _ => hE j (by omega)), h11.congr (fun j _ _ => hE j (by omega))⟩
/-- only E 0 has changed: the trace -/
theorem zBC.trc {b : Nat} {cy : zY} {E : zE} {T : zT} {D : zD} {C : zCar} {I : zIg} {S : zSe} {tr tr' : Int64} (h : zBC b cy E (T, D, C, I, S, tr)) : zBC b cy (va_up E 0 (zB0 b (nI (zkm I)) (nI S.1) tr')) (T, D, C, I, S, tr') := by
  have hE : ∀ j, 0 < j → va_up E 0 (zB0 b (nI (zkm I)) (nI S.1) tr') j = E j := fun j hj => by simp only [e_up]; rw [if_neg (by omega)]
  obtain ⟨h0, h1, ⟨seat, items, h2⟩, h3, h4, ⟨f, h5, h6, h7⟩, h8, ⟨g0, g1, g2, g3, g4⟩, h10, h11⟩ := h
  refine ⟨by simp [va_up], h1.congr (fun j _ _ => hE j (by omega)), ⟨seat, items, h2.congr (fun j _ _ => hE j (by omega))⟩, h3.congr (fun j _ _ => hE j (by omega)), h4.congr (fun j _ _ => hE j (by omega)), ⟨f, by rw [hE _ (by omega)]; exact h5, h6, h7⟩, h8.congr (fun j _ _ => hE j (by omega)), ⟨g0, ⟨_, _, by simp [va_up]; rfl⟩, g2, g3, ?_⟩, h10.congr (fun j _ _ => hE j (by omega)), h11.congr (fun j _ _ => hE j (by omega))⟩
  rw [hE _ (by omega), hE _ (by omega)]; exact g4
theorem zBC.p2 {b : Nat} {cy : zY} {E : zE} {N K : Nat} {T : zT} {D : zD} {C : zCar} {I : zIg} {S : zSe} {tr : Int64} (h : zBC b cy E (T, D, C, I, S, tr)) (ho : zOk K (T, D, C, I, S, tr)) (hN : 159 ≤ N) : zP2 b cy N E D.1 D.2.1 D.2.2.1 C.1 := by
  obtain ⟨h0, h1, ⟨seat, items, h2⟩, h3, ⟨h4, h5, h6⟩, _⟩ := h
  obtain ⟨o1, o2, o3, o4, o5, o6, _⟩ := ho
  exact ⟨⟨⟨⟨_, _, _, h0⟩, ⟨seat, _, items, h2⟩, o2⟩, h5, o6.1, by omega, hN⟩, h4⟩
theorem zCok.mono {n K K' : Nat} {C : zCar} (h : zCok n K C) (hK : K ≤ K') : zCok n K' C := by
  obtain ⟨h1, h2, h3, h4, h5⟩ := h
  exact ⟨h1, h2, by omega, h4, fun t ht => ⟨(h5 t ht).1, (h5 t ht).2.1, by have := (h5 t ht).2.2; omega⟩⟩
theorem zOk.mono {K K' : Nat} {a : zA} (h : zOk K a) (hK : K ≤ K') : zOk K' a := by
  obtain ⟨T, D, C, I, S, tr⟩ := a
  obtain ⟨h1, h2, h3, h4, h5, h6, h7, h8, h9⟩ := h
  exact ⟨h1, h2, h3, h4, h5, h6.mono hK, fun k hk C' hC => (h7 k hk C' hC).mono hK, h8, h9⟩
theorem zOk.cur {K K' : Nat} {T : zT} {D : zD} {C C' : zCar} {I : zIg} {S : zSe} {tr : Int64} (h : zOk K (T, D, C, I, S, tr)) (hK : K ≤ K') (hC : zCok D.1 K' C') : zOk K' (T, D, C', I, S, tr) := by
  obtain ⟨h1, h2, h3, h4, h5, h6, h7, h8, h9⟩ := h.mono hK
  exact ⟨h1, h2, h3, h4, h5, hC, h7, h8, h9⟩
theorem zCok.push {n K K' : Nat} {C : zCar} {c' : Nat → Nat} (h : zCok n K C) (hK : K ≤ K') (h1 : zMok n c') (h2 : c' 0 ≤ 99) (h3 : c' 2 ≤ K') : zCok n K' (c', zpushN C.2.1, zpushP C.2.1 C.2.2 C.1) := by
  obtain ⟨g1, g2, g3, g4, g5⟩ := h.mono hK
  refine ⟨h1, h2, h3, by show zpushN C.2.1 ≤ 10; unfold zpushN; split <;> omega, fun t ht => ?_⟩
  show zMok n (zpushP C.2.1 C.2.2 C.1 t) ∧ zpushP C.2.1 C.2.2 C.1 t 0 ≤ 99 ∧ zpushP C.2.1 C.2.2 C.1 t 2 ≤ K'
  replace ht : t < zpushN C.2.1 := ht
  unfold zpushN at ht
  unfold zpushP
  by_cases e : C.2.1 < 10
  · rw [if_pos e] at ht
    simp only [e, if_true]
    by_cases e2 : t = C.2.1
    · simp only [e2, if_true]; exact ⟨g1, g2, g3⟩
    · simp only [e2, if_false]; exact g5 t (by omega)
  · rw [if_neg e] at ht
    simp only [e, if_false]
    by_cases e2 : t = 9
    · simp only [e2, if_true]; exact ⟨g1, g2, g3⟩
    · simp only [e2, if_false]; exact g5 (t + 1) (by omega)

