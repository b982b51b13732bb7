/-! what a call leaves can be -/
theorem zset3_all : ∀ n : Fin 7, ∀ M : Fin 64, ∀ r : Fin 6, M.val < 2 ^ n.val → r.val < n.val → zset M.val r.val < 2 ^ n.val := by decide +kernel
theorem zset3 {n M r : Nat} (hn : n ≤ 6) (hM : M < 2 ^ n) (hr : r < n) : zset M r < 2 ^ n := by
  have h1 : 2 ^ n ≤ 2 ^ 6 := Nat.pow_le_pow_right (by omega) hn
  have h2 : (2 : Nat) ^ 6 = 64 := rfl
  exact zset3_all ⟨n, by omega⟩ ⟨M, by omega⟩ ⟨r, by omega⟩ hM hr
theorem zMok.lo {n : Nat} {c c' : Nat → Nat} (h : zMok n c) (h1 : c' 1 < 2 ^ n) (h0 : c' 0 = c 0) (h2 : c' 2 = c 2) (h4 : ∀ j, j < 6 → c' (4 + j) = c (4 + j)) (h16 : ∀ j, j < 36 → c' (16 + j) = c (16 + j)) : zMok n c' := by
  obtain ⟨g1, g2, g3, g4, g5, g6, g7⟩ := h
  refine ⟨g1, h1, by rw [h0]; exact g3, by rw [h2]; exact g4, fun j hj => by rw [h4 j (by omega)]; exact g5 j hj, fun j hj => by rw [h16 j hj, h2]; exact g6 j hj, fun j hj => ?_⟩
  have := h16 (7 * j) (by omega)
  rw [this]; exact g7 j hj
theorem zMok.down {n : Nat} {c : Nat → Nat} {o : Option Nat} (h : zMok n c) (ho : ∀ q, o = some q → q < 6) : zMok n (zdown c o) ∧ (zdown c o) 0 = c 0 ∧ (zdown c o) 2 = c 2 := by
  cases o with
  | none =>
    have e : ∀ k, k ≠ 3 → zdown c none k = c k := fun k hk => by simp only [zdown, zup]; rw [if_neg hk]
    exact ⟨h.lo (by rw [e 1 (by omega)]; exact h.2.1) (e 0 (by omega)) (e 2 (by omega)) (fun j _ => e _ (by omega)) (fun j _ => e _ (by omega)), e 0 (by omega), e 2 (by omega)⟩
  | some q =>
    have hq := ho q rfl
    have e : ∀ k, k ≠ 1 → k ≠ 10 + q → zdown c (some q) k = c k := fun k h1 h2 => by simp only [zdown, zup]; rw [if_neg h2, if_neg h1]
    have e1 : zdown c (some q) 1 = zclr (c 1) q := by simp only [zdown, zup]; rw [if_neg (by omega)]; simp
    exact ⟨h.lo (by rw [e1]; exact Nat.lt_of_le_of_lt zclr_le h.2.1) (e 0 (by omega) (by omega)) (e 2 (by omega) (by omega)) (fun j _ => e _ (by omega) (by omega)) (fun j _ => e _ (by omega) (by omega)), e 0 (by omega) (by omega), e 2 (by omega) (by omega)⟩
theorem zMok.board {n r : Nat} {c : Nat → Nat} (h : zMok n c) (hr : r < n) : zMok n (zboard c r) ∧ (zboard c r) 0 = c 0 ∧ (zboard c r) 2 = c 2 := by
  have hn := h.1
  have e : ∀ k, k ≠ 1 → k ≠ 10 + r → zboard c r k = c k := fun k h1 h2 => by simp only [zboard, zup]; rw [if_neg h2, if_neg h1]
  exact ⟨h.lo (by rw [zboard_v.2.1]; exact zset3 hn h.2.1 hr) (e 0 (by omega) (by omega)) (e 2 (by omega) (by omega)) (fun j _ => e _ (by omega) (by omega)) (fun j _ => e _ (by omega) (by omega)), e 0 (by omega) (by omega), e 2 (by omega) (by omega)⟩
theorem zMok.fresh {n : Nat} {seat : Nat → Nat} (hn : n ≤ 6) (hs : ∀ j, j < n → seat j ≤ 9) : zMok n (zfresh n seat) := by
  have h1 : 0 < 2 ^ n := Nat.two_pow_pos n
  refine ⟨hn, ?_, ?_, ?_, fun j hj => ?_, fun j hj => ?_, fun j hj => ?_⟩
  · show 2 ^ n - 1 < 2 ^ n
    omega
  · show (0 : Nat) < 1000
    omega
  · show (0 : Nat) < 1000000
    omega
  · unfold zfresh
    rw [if_neg (by omega), if_pos (by omega), show 4 + j - 4 = j by omega]; exact hs j hj
  · unfold zfresh
    rw [if_neg (by omega), if_neg (by omega)]; exact Nat.zero_le _
  · unfold zfresh
    rw [if_neg (by omega), if_neg (by omega)]
theorem ok_type {K : Nat} {a : zA} (x : Int32) (h : zOk K a) : zOk K (op_type x a).2 := by
  obtain ⟨T, D, C, I, S, tr⟩ := a
  obtain ⟨h1, h2, h3, h4, h5, h6, h7, h8, h9⟩ := id h
  simp only [op_type]
  by_cases q : zisB 256 x = true
  · rw [if_pos q]
    by_cases q2 : T.1 < 120
    · rw [if_pos q2]
      obtain ⟨v, hv, rfl⟩ := zisB_u q (by omega)
      rw [zcl_i (show v < 2 ^ 31 by omega)]
      exact ⟨h1, h2, h3, (show T.1 + 1 ≤ 120 by omega), fun j hj => zup_all (p := fun v => v < 256) h5 hv hj, h6, h7, h8, h9⟩
    · rw [if_neg q2]; exact h
  · rw [if_neg q]; exact h
theorem ok_clear {K : Nat} {a : zA} (h : zOk K a) : zOk K (op_clear a).2 := by
  obtain ⟨T, D, C, I, S, tr⟩ := a
  obtain ⟨h1, h2, h3, h4, h5, h6, h7, h8, h9⟩ := id h
  exact ⟨h1, h2, h3, Nat.zero_le _, fun j hj => absurd hj (Nat.not_lt_zero _), h6, h7, h8, h9⟩
theorem ok_car {K : Nat} {a : zA} (h : zOk K a) : zOk K (op_car a).2 := by
  obtain ⟨T, D, C, I, S, tr⟩ := a
  obtain ⟨h1, h2, h3, h4, h5, h6, h7, h8, h9⟩ := id h
  have hb := zparse_b (len := T.1) (tx := T.2) h5
  simp only [op_car]
  cases hz : zparse T.1 T.2 with
  | inl s => exact h
  | inr d =>
    rw [hz] at hb
    obtain ⟨d1, d2, d3⟩ := hb
    refine ⟨d1, fun j hj => ⟨(d2 j hj).2.1, (d2 j hj).2.2⟩, d3, Nat.zero_le _, fun j hj => absurd hj (Nat.not_lt_zero _), ⟨zMok.fresh d1 (fun j hj => (d2 j hj).1), Nat.zero_le _, Nat.zero_le _, Nat.zero_le _, fun t ht => absurd ht (Nat.not_lt_zero _)⟩, fun k hk C' hC => (by cases hC), Nat.zero_le _, fun k hk => absurd hk (Nat.not_lt_zero _)⟩
theorem ok_rides {K : Nat} {a : zA} (h : zOk K a) (hK : K + 10 < 900000) : zOk (K + 6) (op_rides a).2 := by
  obtain ⟨T, D, C, I, S, tr⟩ := a
  have h6 := h.2.2.2.2.2.1
  simp only [op_rides]
  by_cases q : C.1 0 < 99
  · rw [if_pos q]
    have h3 : C.1 2 ≤ K := h6.2.2.1
    obtain ⟨r1, r2⟩ := h6.1.ride (lo := D.2.1) (la := D.2.2.1) (by omega) (by omega)
    exact h.cur (by omega) (h6.push (by omega) r1 (by rw [zride_lo.1]; omega) (by omega))
  · rw [if_neg q]; exact h.mono (by omega)
theorem ok_thinks {K : Nat} {a : zA} (x y : Int32) (h : zOk K a) (hK : K + 10 < 900000) : zOk (K + 6) (op_thinks x y a).2 := by
  obtain ⟨T, D, C, I, S, tr⟩ := a
  have h6 := h.2.2.2.2.2.1
  have h3 : C.1 2 ≤ K := h6.2.2.1
  simp only [op_thinks]
  by_cases q : zisP D.1 x y = true
  · rw [if_pos q]
    obtain ⟨r, s, hr, hs, hne, rfl, rfl⟩ := zisP_t q h.1
    have hn : D.1 ≤ 6 := h.1
    rw [zcl_i (show r < 2 ^ 31 by omega), zcl_i (show s < 2 ^ 31 by omega)]
    by_cases q2 : (C.1 1).testBit r = true ∧ (C.1 1).testBit s = true
    · rw [if_pos q2]
      exact h.cur (by omega) (h6.push (by omega) (h6.1.think (by omega) (by omega) hne (by omega)) (by rw [zthink_lo (by omega) (by omega)]; exact h6.2.1) (by rw [zthink_2]; omega))
    · rw [if_neg q2]; exact h.mono (by omega)
  · rw [if_neg q]; exact h.mono (by omega)
theorem ok_rings {K : Nat} {a : zA} (x : Int32) (h : zOk K a) : zOk K (op_rings x a).2 := by
  obtain ⟨T, D, C, I, S, tr⟩ := a
  have h6 := h.2.2.2.2.2.1
  have hn : D.1 ≤ 6 := h.1
  simp only [op_rings]
  by_cases q : zisB D.1 x = true
  · rw [if_pos q]
    by_cases q2 : (C.1 1).testBit (zcl x) = true
    · rw [if_pos q2]
      obtain ⟨d1, d2, d3⟩ := h6.1.down (o := zring D.1 C.1 (C.1 1) (zcl x)) (zfo_lt6 hn)
      exact h.cur (Nat.le_refl _) (h6.push (Nat.le_refl _) d1 (by rw [d2]; exact h6.2.1) (by rw [d3]; exact h6.2.2.1))
    · rw [if_neg q2]; exact h
  · rw [if_neg q]; exact h
theorem ok_twice {K : Nat} {a : zA} (x : Int32) (h : zOk K a) : zOk K (op_twice x a).2 := by
  obtain ⟨T, D, C, I, S, tr⟩ := a
  have h6 := h.2.2.2.2.2.1
  have hn : D.1 ≤ 6 := h.1
  simp only [op_twice]
  by_cases q : zisB D.1 x = true
  · rw [if_pos q]
    by_cases q2 : (C.1 1).testBit (zcl x) = true
    · rw [if_pos q2]
      obtain ⟨d1, d2, d3⟩ := h6.1.down (o := ztwo D.1 C.1 (zcl x)) (zfo_lt6 hn)
      exact h.cur (Nat.le_refl _) (h6.push (Nat.le_refl _) d1 (by rw [d2]; exact h6.2.1) (by rw [d3]; exact h6.2.2.1))
    · rw [if_neg q2]; exact h
  · rw [if_neg q]; exact h
theorem ok_seats {K : Nat} {a : zA} (x s : Int32) (h : zOk K a) : zOk K (op_seats x s a).2 := by
  obtain ⟨T, D, C, I, S, tr⟩ := a
  have h6 := h.2.2.2.2.2.1
  have hn : D.1 ≤ 6 := h.1
  simp only [op_seats]
  by_cases q : zisB D.1 x = true ∧ zisB 10 s = true
  · rw [if_pos q]
    obtain ⟨r, hr, rfl⟩ := zisB_t q.1 hn
    obtain ⟨v, hv, rfl⟩ := zisB_u q.2 (by omega)
    rw [zcl_i (show r < 2 ^ 31 by omega), zcl_i (show v < 2 ^ 31 by omega)]
    by_cases q2 : (C.1 1).testBit r = true ∧ C.1 (4 + r) ≠ v
    · rw [if_pos q2]
      have e : ∀ k, k ≠ 4 + r → zup C.1 (4 + r) v k = C.1 k := fun k hk => by unfold zup; rw [if_neg hk]
      exact h.cur (Nat.le_refl _) (h6.push (Nat.le_refl _) (h6.1.seat (by omega) (by omega)) (by rw [e 0 (by omega)]; exact h6.2.1) (by rw [e 2 (by omega)]; exact h6.2.2.1))
    · rw [if_neg q2]; exact h
  · rw [if_neg q]; exact h
theorem ok_boards {K : Nat} {a : zA} (x : Int32) (h : zOk K a) : zOk K (op_boards x a).2 := by
  obtain ⟨T, D, C, I, S, tr⟩ := a
  have h6 := h.2.2.2.2.2.1
  have hn : D.1 ≤ 6 := h.1
  simp only [op_boards]
  by_cases q : zisB D.1 x = true
  · rw [if_pos q]
    by_cases q2 : (C.1 1).testBit (zcl x) = true
    · rw [if_pos q2]; exact h
    · rw [if_neg q2]
      obtain ⟨r, hr, rfl⟩ := zisB_t q hn
      rw [zcl_i (show r < 2 ^ 31 by omega)]
      obtain ⟨d1, d2, d3⟩ := h6.1.board hr
      exact h.cur (Nat.le_refl _) (h6.push (Nat.le_refl _) d1 (by rw [d2]; exact h6.2.1) (by rw [d3]; exact h6.2.2.1))
  · rw [if_neg q]; exact h
theorem ok_undo {K : Nat} {a : zA} (h : zOk K a) : zOk K (op_undo a).2 := by
  obtain ⟨T, D, C, I, S, tr⟩ := a
  have h6 := h.2.2.2.2.2.1
  simp only [op_undo]
  by_cases q : C.2.1 = 0
  · rw [if_pos q]; exact h
  · rw [if_neg q]
    have hp := h6.2.2.2.2
    have h10 : C.2.1 ≤ 10 := h6.2.2.2.1
    obtain ⟨p1, p2, p3⟩ := hp (C.2.1 - 1) (by omega)
    exact h.cur (Nat.le_refl _) ⟨p1, p2, p3, (show C.2.1 - 1 ≤ 10 by omega), fun t ht => hp t (by have : t < C.2.1 - 1 := ht; omega)⟩
theorem ok_saw {K : Nat} {a : zA} (x y : Int32) (h : zOk K a) : zOk K (op_saw x y a).2 := by
  obtain ⟨T, D, C, I, S, tr⟩ := a
  obtain ⟨h1, h2, h3, h4, h5, h6, h7, h8, h9⟩ := id h
  have hn : D.1 ≤ 6 := h1
  simp only [op_saw]
  by_cases q : zisA D.1 C.1 x y = true
  · rw [if_pos q]
    obtain ⟨r, s, hr, hs, _, rfl, rfl, _, _⟩ := zisA_t q hn
    rw [zcl_i (show r < 2 ^ 31 by omega), zcl_i (show s < 2 ^ 31 by omega)]
    by_cases q2 : S.1 < 6
    · rw [if_pos q2]
      exact ⟨h1, h2, h3, h4, h5, h6, h7, (show S.1 + 1 ≤ 6 by omega), fun k hk => ⟨zup_all (p := fun v => v < D.1) (fun j hj => (h9 j hj).1) hr hk, zup_all (p := fun v => v < D.1) (fun j hj => (h9 j hj).2) hs hk⟩⟩
    · rw [if_neg q2]; exact h
  · rw [if_neg q]; exact h
theorem ok_forget {K : Nat} {a : zA} (h : zOk K a) : zOk K (op_forget a).2 := by
  obtain ⟨T, D, C, I, S, tr⟩ := a
  obtain ⟨h1, h2, h3, h4, h5, h6, h7, h8, h9⟩ := id h
  exact ⟨h1, h2, h3, h4, h5, h6, h7, Nat.zero_le _, fun k hk => absurd hk (Nat.not_lt_zero _)⟩
theorem zOk.tr {K : Nat} {T : zT} {D : zD} {C : zCar} {I : zIg} {S : zSe} {tr tr' : Int64} (h : zOk K (T, D, C, I, S, tr)) : zOk K (T, D, C, I, S, tr') := by
  obtain ⟨h1, h2, h3, h4, h5, h6, h7, h8, h9⟩ := h
  exact ⟨h1, h2, h3, h4, h5, h6, h7, h8, h9⟩
theorem ok_mark {K : Nat} {a : zA} (w x : Int32) (h : zOk K a) : zOk K (op_mark w x a).2 := by
  obtain ⟨T, D, C, I, S, tr⟩ := a
  simp only [op_mark]
  by_cases q : zisB D.1 x = true
  · rw [if_pos q]
    split
    · exact h.tr
    · split
      · exact h.tr
      · split
        · exact h.tr
        · split
          · exact h.tr
          · split
            · exact h.tr
            · split
              · exact h.tr
              · exact h.tr
  · rw [if_neg q]; exact h.tr
theorem ok_keep {K : Nat} {a : zA} (x : Int32) (h : zOk K a) : zOk K (op_keep x a).2 := by
  obtain ⟨T, D, C, I, S, tr⟩ := a
  obtain ⟨h1, h2, h3, h4, h5, h6, h7, h8, h9⟩ := id h
  simp only [op_keep]
  by_cases q : zisB 2 x = true
  · rw [if_pos q]
    refine ⟨h1, h2, h3, h4, h5, h6, fun k hk C' hC => ?_, h8, h9⟩
    replace hC : (if k = zcl x then some C else I k) = some C' := hC
    by_cases e : k = zcl x
    · rw [if_pos e] at hC; cases hC; exact h6
    · rw [if_neg e] at hC; exact h7 k hk C' hC
  · rw [if_neg q]; exact h
theorem ok_back {K : Nat} {a : zA} (x : Int32) (h : zOk K a) : zOk K (op_back x a).2 := by
  obtain ⟨T, D, C, I, S, tr⟩ := a
  obtain ⟨h1, h2, h3, h4, h5, h6, h7, h8, h9⟩ := id h
  simp only [op_back]
  by_cases q : zisB 2 x = true
  · rw [if_pos q]
    obtain ⟨k, hk, rfl⟩ := zisB_u q (by omega)
    rw [zcl_i (show k < 2 ^ 31 by omega)]
    cases hI : I k with
    | none => exact h
    | some C' => exact ⟨h1, h2, h3, h4, h5, h7 k hk C' hI, h7, h8, h9⟩
  · rw [if_neg q]; exact h
theorem ok_0 : zOk 0 za0 := ⟨Nat.zero_le _, fun j hj => absurd hj (Nat.not_lt_zero _), (by decide : 9 ≤ 20), Nat.zero_le _, fun j hj => absurd hj (Nat.not_lt_zero _), ⟨(zMok.fresh (n := 0) (seat := fun _ => 0) (by omega) (fun j hj => absurd hj (Nat.not_lt_zero _)) : zMok 0 (zfresh 0 (fun _ => 0))), Nat.zero_le _, Nat.zero_le _, Nat.zero_le _, fun t ht => absurd ht (Nat.not_lt_zero _)⟩, fun k hk C' hC => (by cases hC), Nat.zero_le _, fun k hk => absurd hk (Nat.not_lt_zero _)⟩
/-- only cells of the other one have changed, or of the class -/
theorem zBC.far {b : Nat} {cy : zY} {E E' : zE} {a : zA} (h : zBC b cy E a) (hE : ∀ j, j < 159 → E' j = E j) : zBC b cy E' a := by
  obtain ⟨T, D, C, I, S, tr⟩ := a
  obtain ⟨h0, h1, ⟨seat, items, h2⟩, h3, h4, ⟨f, h5, h6, h7⟩, h8, h9, h10, h11⟩ := h
  exact ⟨by rw [hE _ (by omega)]; exact h0, h1.congr (fun j _ _ => hE j (by omega)), ⟨seat, items, h2.congr (fun j _ _ => hE j (by omega))⟩, h3.congr (fun j _ _ => hE j (by omega)), h4.congr (fun j _ _ => hE j (by omega)), ⟨f, by rw [hE _ (by omega)]; exact h5, h6, h7⟩, h8.congr (fun j _ _ => hE j (by omega)), h9.congr (hE _ (by omega)) (hE _ (by omega)) (hE _ (by omega)), h10.congr (fun j _ _ => hE j (by omega)), h11.congr (fun j _ _ => hE j (by omega))⟩
theorem zMD.far {b : Nat} {cy : zY} {E E' : zE} {a : zA} (h : zMD b cy E a) (hE : ∀ j, 159 ≤ j → E' j = E j) : zMD b cy E' a := by
  obtain ⟨T, D, C, I, S, tr⟩ := a
  unfold zMD at h ⊢
  simp only at h ⊢
  rw [hE 159 (by omega), hE 160 (by omega), hE 161 (by omega), hE 162 (by omega), hE 163 (by omega), hE 164 (by omega), hE 165 (by omega), hE 166 (by omega), hE 167 (by omega), hE 168 (by omega), hE 169 (by omega), hE 170 (by omega), hE 171 (by omega)]
  exact h

