/-! car, and a new object -/
def zTdk (d : zTd) : Prop := d.1 ≤ 6 ∧ (∀ j, j < d.1 → d.2.1 j ≤ 9 ∧ d.2.2.1 j ≤ 9 ∧ d.2.2.2.1 j ≤ 2) ∧ d.2.2.2.2.1 ≤ 20
theorem zup_all {p : Nat → Prop} {f : Nat → Nat} {n v j : Nat} (h : ∀ j, j < n → p (f j)) (hv : p v) (hj : j < n + 1) : p (zup f n v j) := by
  unfold zup
  by_cases e : j = n
  · rw [if_pos e]; exact hv
  · rw [if_neg e]; exact h j (by omega)
theorem znum_b {lo hi : Nat} {k : zTk} (h : znum lo hi k = true) : k.2.1 = 2 ∧ lo ≤ k.2.2.2 ∧ k.2.2.2 ≤ hi := by
  simp only [znum, zokr, Bool.and_eq_true, decide_eq_true_eq] at h
  exact h
theorem zend_b {len : Nat} {tx : Nat → Nat} {k : zTk} {d : zTd} (ht : ∀ j, j < len → tx j < 256) (hk : k.1 ≤ len) (hd : zTdk d) : match zend len tx k d with
  | .inl s => s ≤ len
  | .inr (k', d') => k'.1 ≤ len ∧ k'.2.2.1 ≤ len ∧ zTdk d' ∧ k.1 < k'.1 ∧ (k'.2.1 ≠ 0 → k.1 + 1 < k'.1) := by
  unfold zend
  obtain ⟨a1, a2, a3, a4, a5, a6⟩ := ztk_b hk ht
  simp only
  by_cases c : (ztk len tx k.1).2.1 = 3
  · obtain ⟨b1, b2, b3, b4, b5, b6⟩ := ztk_b a2 ht
    rw [if_pos c]
    exact ⟨b2, b4, hd, by omega, fun h => by have := b6 h; omega⟩
  · rw [if_neg c]
    exact a4
theorem zitem_b {len : Nat} {tx : Nat → Nat} {k : zTk} {d : zTd} (ht : ∀ j, j < len → tx j < 256) (hk : k.1 ≤ len) (hs : k.2.2.1 ≤ len) (hd : zTdk d) : match zitem len tx k d with
  | .inl s => s ≤ len
  | .inr (k', d') => k'.1 ≤ len ∧ k'.2.2.1 ≤ len ∧ zTdk d' ∧ k.1 < k'.1 ∧ (k'.2.1 ≠ 0 → k.1 + 1 < k'.1) := by
  obtain ⟨n, seat, lo, la, line, t, items⟩ := d
  obtain ⟨d1, d2, d3⟩ := hd
  replace d1 : n ≤ 6 := d1
  replace d2 : ∀ j, j < n → seat j ≤ 9 ∧ lo j ≤ 9 ∧ la j ≤ 2 := d2
  replace d3 : line ≤ 20 := d3
  simp only [zitem]
  obtain ⟨a1, a2, a3, a4, a5, a6⟩ := ztk_b hk ht
  by_cases c1 : k.2.1 = 1 ∧ k.2.2.2 = 114 ∧ n < 6
  · rw [if_pos c1]
    simp only [zrid]
    obtain ⟨b1, b2, b3, b4, b5, b6⟩ := ztk_b a2 ht
    obtain ⟨c1', c2, c3, c4, c5, c6⟩ := ztk_b b2 ht
    by_cases q1 : znum 0 9 (ztk len tx k.1) = true
    · by_cases q2 : znum 0 9 (ztk len tx (ztk len tx k.1).1) = true
      · by_cases q3 : znum 0 2 (ztk len tx (ztk len tx (ztk len tx k.1).1).1) = true
        · simp only [q1, q2, q3, if_true]
          have r1 := znum_b q1
          have r2 := znum_b q2
          have r3 := znum_b q3
          have := zend_b (d := (n + 1, zup seat n (ztk len tx k.1).2.2.2, zup lo n (ztk len tx (ztk len tx k.1).1).2.2.2, zup la n (ztk len tx (ztk len tx (ztk len tx k.1).1).1).2.2.2, line, t, items + 1)) ht c2 ⟨by show n + 1 ≤ 6; omega, fun j hj => ⟨zup_all (p := fun v => v ≤ 9) (fun j hj => (d2 j hj).1) r1.2.2 hj, zup_all (p := fun v => v ≤ 9) (fun j hj => (d2 j hj).2.1) r2.2.2 hj, zup_all (p := fun v => v ≤ 2) (fun j hj => (d2 j hj).2.2) r3.2.2 hj⟩, d3⟩
          split at this
          · exact this
          · exact ⟨this.1, this.2.1, this.2.2.1, by omega, fun h => by have := this.2.2.2.2 h; omega⟩
        · simp only [q1, q2, q3, if_true]
          exact c4
      · simp only [q1, q2, if_true]
        exact b4
    · simp only [q1]
      exact a4
  · rw [if_neg c1]
    by_cases c2 : k.2.1 = 1 ∧ k.2.2.2 = 108 ∧ t = false
    · rw [if_pos c2]
      by_cases q1 : znum 1 20 (ztk len tx k.1) = true
      · simp only [q1, if_true]
        have r1 := znum_b q1
        have := zend_b (d := (n, seat, lo, la, (ztk len tx k.1).2.2.2, true, items + 1)) ht a2 ⟨d1, d2, r1.2.2⟩
        split at this
        · exact this
        · exact ⟨this.1, this.2.1, this.2.2.1, by omega, fun h => by have := this.2.2.2.2 h; omega⟩
      · simp only [q1]
        exact a4
    · rw [if_neg c2]; exact hs
theorem zread_b {len : Nat} {tx : Nat → Nat} (ht : ∀ j, j < len → tx j < 256) : ∀ (f : Nat) (k : zTk) (d : zTd), k.1 ≤ len → k.2.2.1 ≤ len → zTdk d → match zread len tx f k d with
  | .inl s => s ≤ len
  | .inr d' => zTdk d' := by
  intro f
  induction f with
  | zero => intro k d _ _ hd; exact hd
  | succ f ih =>
    intro k d hk hs hd
    have h1 := zitem_b ht hk hs hd
    simp only [zread]
    by_cases c : k.2.1 = 0
    · rw [if_pos c]; exact hd
    · rw [if_neg c]
      cases hz : zitem len tx k d with
      | inl s => rw [hz] at h1; exact h1
      | inr z =>
        obtain ⟨k', d'⟩ := z
        rw [hz] at h1
        exact ih k' d' h1.1 h1.2.1 h1.2.2.1
theorem zparse_b {len : Nat} {tx : Nat → Nat} (ht : ∀ j, j < len → tx j < 256) : match zparse len tx with
  | .inl s => s ≤ len
  | .inr d' => zTdk d' := by
  obtain ⟨_, a2, _, a4, _⟩ := ztk_b (len := len) (q := 0) (tx := tx) (by omega) ht
  exact zread_b ht 120 _ _ a2 a4 ⟨Nat.zero_le _, fun j hj => absurd hj (Nat.not_lt_zero _), (by decide : 9 ≤ 20)⟩
def zcarA (d : zTd) : zA → zA := fun (T, _, C, _, S, tr) => ((0, T.2), (d.1, d.2.2.1, d.2.2.2.1, d.2.2.2.2.1), (zfresh d.1 d.2.1, 0, C.2.2), zI0, (0, S.2), tr)
def op_car : zA → zRes := fun (T, D, C, I, S, tr) => match zparse T.1 T.2 with
  | .inl s => (-10 - nI s, (T, D, C, I, S, tr))
  | .inr d => (nI d.2.2.2.2.2.2, zcarA d (T, D, C, I, S, tr))
def sp_X5_car : zSp := fun b cy as N E P => zPX op_car [] b cy as N E P
abbrev rm_X5_car : Room := { frames := 7, cells := 0, slots := 0, locals := 171 }
def B_X5_car_0 (b n0 : Nat) (cy : zY) (P : zPo) (A : Nat → zC) : zC :=
  z_aload 0 (z_get b n0 5 0 (z_aload 0 (z_get b n0 5 2 (z_callV b n0 0 0 cy 3 1 0 0 sp_X3_readInto (z_istore 1 (z_iload 1 (z_const (-1) (z_icmp (fun x y => x = y) (z_aload 0 (z_get b n0 5 1 (z_aload 0 (z_get b n0 5 2 (z_callV b n0 0 0 cy 4 1 0 0 sp_X4_copyFrom (z_aload 0 (z_get b n0 5 0 (z_const (0) (z_put b n0 3 0 0 (z_aload 0 (z_callV b n0 0 0 cy 5 0 0 0 sp_X5_startAnew (z_aload 0 (z_get b n0 5 1 (z_get b n0 4 1 (z_iret 0 0 P))))))))))))))) (z_const (-10) (z_iload 1 (z_bin (fun x y => x - y) (z_iret 0 0 P))))))))))))
def zVC_X5_car (sp : zSp) : Prop := ∀ (b : Nat) (cy : zY) (n : Nat) (as : List Value) (E : zE) (P : zPo) (A : Nat → zC), sp b cy as n E P → zgood as 2 ∧ B_X5_car_0 b n cy P A (lv_args 0 as) [] 0 0 E

set_option maxRecDepth 100000 in
set_option maxHeartbeats 4000000 in
theorem vc_X5_car : zVC_X5_car sp_X5_car := by
  intro b cy N as E P A hsp
  obtain ⟨K, ⟨T, D, C, I, S, tr⟩, rfl, hbc, hok, hK, hN, hP⟩ := hsp
  refine ⟨⟨Nat.le_of_ble_eq_true rfl, zg1 rfl (zg0)⟩, ?_⟩
  obtain ⟨e0, hTx, ⟨seat, items, hTo⟩, hDr, hIm, hIs, hAh, hSn, hI0, hI1⟩ := id hbc
  have hp2 := hbc.p2 hok hN
  obtain ⟨hp1, e11⟩ := id hp2
  obtain ⟨hR, hmo, hmk, hi12, _⟩ := id hp1
  obtain ⟨hn1, mf, mg, mh, m0, m1, m2, m3, hmf, hmg, hmh⟩ := id hmo
  obtain ⟨_, tf, tg, th, t0, t1, t2, t3, htf, htg, hth⟩ := id hTo
  replace m1 : E 13 = _ := m1
  replace m2 : E 14 = _ := m2
  replace m3 : E 15 = _ := m3
  replace t1 : E 4 = _ := t1
  replace t2 : E 5 = _ := t2
  replace t3 : E 6 = _ := t3
  have hpa : zPa b cy E 16 D.1 C.2.1 C.2.2 := hIm.2.2
  have hlo := hok.2.1
  have N0 : 0 < N := by omega
  have N1 : 1 < N := by omega
  have N2 : 2 < N := by omega
  have N3 : 3 < N := by omega
  have N4 : 4 < N := by omega
  have N5 : 5 < N := by omega
  have N6 : 6 < N := by omega
  have N7 : 7 < N := by omega
  have N11 : 11 < N := by omega
  have N12 : 12 < N := by omega
  have N13 : 13 < N := by omega
  have N14 : 14 < N := by omega
  have N15 : 15 < N := by omega
  have N16 : 16 < N := by omega
  have N58 : 58 < N := by omega
  have N59 : 59 < N := by omega
  have N63 : 63 < N := by omega
  have N64 : 64 < N := by omega
  have N65 : 65 < N := by omega
  have N112 : 112 < N := by omega
  obtain ⟨hT0, s2, s3, s4, s5, s6, xf, x1, x2, x3⟩ := id hTx
  have hb := zparse_b (fun j hj => (x3 j hj).1)
  simp only [op_car] at hP
  simp only [B_X5_car_0, e_cut, e_iload, e_aload, e_istore, e_astore, e_iinc, e_const, e_lconst, e_bin, e_bin0, e_un, e_ladd, e_dupi, e_dupr, e_dup2, e_pop, e_if, e_icmp, e_sw, e_sw0, e_sw1, e_get, e_put, e_ald, e_ast, e_aald, e_aast, e_copy, e_new, e_newa, e_anewa, e_min, e_abs, e_oinit, e_callI, e_callV, e_callS, e_iret, e_zret, e_lret, e_vret, e_tl1, e_tl0, e_tl2, e_tl3, z10, Bool.false_eq_true, e_argi, e_argr, e_argn, zld_c, zst_n, zst_c, zpick_n, zpick_c, List.drop_succ_cons, List.drop_zero, List.take_succ_cons, List.take_zero, List.length_cons, List.length_nil, List.reverse_cons, List.reverse_nil, List.nil_append, List.cons_append, List.append_nil, List.getElem?_cons_zero, List.getElem?_cons_succ, List.set_cons_zero, List.set_cons_succ, Nat.add_sub_cancel_left, Nat.sub_self, Nat.add_zero, Nat.zero_add, Nat.le_add_right, Nat.le_refl, true_and, and_true, va_rf, zok, Nat.add_left_cancel_iff, Nat.add_eq_left, Nat.left_eq_add, eq_self, if_true, if_false, not_false_eq_true, not_true_eq_false, false_implies, true_implies, Nat.reduceEqDiff, Nat.reduceAdd, Nat.reduceLT, Nat.reduceLeDiff, reduceIte, zB0, e0, N0, N1, N2, N3, N4, N5, N6, N7, N11, N12, N13, N14, N15, N16, N58, N59, N63, N64, N65, N112, x1]
  refine ⟨T, rfl, hTx, hDr, by omega, ?_⟩
  obtain ⟨jf, j58, jf0, jf1⟩ := hIs
  cases hz : zparse T.1 T.2 with
  | inl s =>
    rw [hz] at hP hb
    simp only at hb
    intro E1 g1 gS gk
    simp only [e_cut, e_iload, e_aload, e_istore, e_astore, e_iinc, e_const, e_lconst, e_bin, e_bin0, e_un, e_ladd, e_dupi, e_dupr, e_dup2, e_pop, e_if, e_icmp, e_sw, e_sw0, e_sw1, e_get, e_put, e_ald, e_ast, e_aald, e_aast, e_copy, e_new, e_newa, e_anewa, e_min, e_abs, e_oinit, e_callI, e_callV, e_callS, e_iret, e_zret, e_lret, e_vret, e_tl1, e_tl0, e_tl2, e_tl3, z10, Bool.false_eq_true, e_argi, e_argr, e_argn, zld_c, zst_n, zst_c, zpick_n, zpick_c, List.drop_succ_cons, List.drop_zero, List.take_succ_cons, List.take_zero, List.length_cons, List.length_nil, List.reverse_cons, List.reverse_nil, List.nil_append, List.cons_append, List.append_nil, List.getElem?_cons_zero, List.getElem?_cons_succ, List.set_cons_zero, List.set_cons_succ, Nat.add_sub_cancel_left, Nat.sub_self, Nat.add_zero, Nat.zero_add, Nat.le_add_right, Nat.le_refl, true_and, and_true, va_rf, zok, Nat.add_left_cancel_iff, Nat.add_eq_left, Nat.left_eq_add, eq_self, if_true, if_false, not_false_eq_true, not_true_eq_false, false_implies, true_implies, Nat.reduceEqDiff, Nat.reduceAdd, Nat.reduceLT, Nat.reduceLeDiff, reduceIte]
    have hne : ¬ nI s = -1 := fun h => by
      have h1 := (fa_eq' _ _).mp h
      rw [nI_toInt (by omega)] at h1
      have : ((-1 : Int32)).toInt = -1 := by decide
      omega
    refine ⟨fun c1 => absurd c1 hne, fun _ => ?_⟩
    refine hP E1 ⟨(gk 0 (by omega) (by omega)).trans e0, g1, ⟨seat, items, hTo.congr (fun j _ _ => gk j (by omega) (by omega))⟩, gS, hIm.congr (fun j _ _ => gk j (by omega) (by omega)), ⟨jf, (gk 58 (by omega) (by omega)).trans j58, jf0, jf1⟩, hAh.congr (fun j _ _ => gk j (by omega) (by omega)), hSn.congr (gk 0 (by omega) (by omega)) (gk 63 (by omega) (by omega)) (gk 64 (by omega) (by omega)), hI0.congr (fun j _ _ => gk j (by omega) (by omega)), hI1.congr (fun j _ _ => gk j (by omega) (by omega))⟩ (fun j hj => gk j (by omega) (by omega))
  | inr d =>
    rw [hz] at hP
    obtain ⟨n', seat', lo', la', line', t', items'⟩ := d
    intro E1 g1 gDr gk
    replace gDr : zTo b cy E1 7 n' lo' la' seat' line' (nI items') := gDr
    obtain ⟨q0, q2, q3, q4, q5, q6, yf, y1, y2, y3⟩ := id g1
    have f0 := (gk 0 (by omega) (by omega)).trans e0
    have gTo1 : zTo b cy E1 3 D.1 D.2.1 D.2.2.1 seat D.2.2.2 items := hTo.congr (fun j _ _ => gk j (by omega) (by omega))
    obtain ⟨_, _, _, _, t03, _⟩ := id gTo1
    obtain ⟨_, _, _, _, t07, _⟩ := id gDr
    have m1 : ((-1 : Int32) = -1) = True := eq_true rfl
    simp only [zB0] at f0
    simp only [e_cut, e_iload, e_aload, e_istore, e_astore, e_iinc, e_const, e_lconst, e_bin, e_bin0, e_un, e_ladd, e_dupi, e_dupr, e_dup2, e_pop, e_if, e_icmp, e_sw, e_sw0, e_sw1, e_get, e_put, e_ald, e_ast, e_aald, e_aast, e_copy, e_new, e_newa, e_anewa, e_min, e_abs, e_oinit, e_callI, e_callV, e_callS, e_iret, e_zret, e_lret, e_vret, e_tl1, e_tl0, e_tl2, e_tl3, z10, Bool.false_eq_true, e_argi, e_argr, e_argn, zld_c, zst_n, zst_c, zpick_n, zpick_c, List.drop_succ_cons, List.drop_zero, List.take_succ_cons, List.take_zero, List.length_cons, List.length_nil, List.reverse_cons, List.reverse_nil, List.nil_append, List.cons_append, List.append_nil, List.getElem?_cons_zero, List.getElem?_cons_succ, List.set_cons_zero, List.set_cons_succ, Nat.add_sub_cancel_left, Nat.sub_self, Nat.add_zero, Nat.zero_add, Nat.le_add_right, Nat.le_refl, true_and, and_true, va_rf, zok, Nat.add_left_cancel_iff, Nat.add_eq_left, Nat.left_eq_add, eq_self, if_true, if_false, not_false_eq_true, not_true_eq_false, false_implies, true_implies, Nat.reduceEqDiff, Nat.reduceAdd, Nat.reduceLT, Nat.reduceLeDiff, reduceIte, m1, f0, N0, N1, N2, N3, N4, N5, N6, N7, N11, N12, N13, N14, N15, N16, N58, N59, N63, N64, N65, N112, t03]
    refine ⟨3, 7, n', lo', la', seat', line', nI items', rfl, gTo1.sh, gDr, by omega, by omega, by omega, fun E2 gTo2 gk2 => ?_⟩
    have k2 : ∀ j, j ≠ 1 → (j < 3 ∨ 10 < j) → E2 j = E j := fun j a c => (gk2 j (by omega)).trans (gk j a (by omega))
    have y1' := (gk2 1 (by omega)).trans y1
    have f0' := (k2 0 (by omega) (by omega)).trans e0
    simp only [zB0] at f0'
    simp only [e_cut, e_iload, e_aload, e_istore, e_astore, e_iinc, e_const, e_lconst, e_bin, e_bin0, e_un, e_ladd, e_dupi, e_dupr, e_dup2, e_pop, e_if, e_icmp, e_sw, e_sw0, e_sw1, e_get, e_put, e_ald, e_ast, e_aald, e_aast, e_copy, e_new, e_newa, e_anewa, e_min, e_abs, e_oinit, e_callI, e_callV, e_callS, e_iret, e_zret, e_lret, e_vret, e_tl1, e_tl0, e_tl2, e_tl3, z10, Bool.false_eq_true, e_argi, e_argr, e_argn, zld_c, zst_n, zst_c, zpick_n, zpick_c, List.drop_succ_cons, List.drop_zero, List.take_succ_cons, List.take_zero, List.length_cons, List.length_nil, List.reverse_cons, List.reverse_nil, List.nil_append, List.cons_append, List.append_nil, List.getElem?_cons_zero, List.getElem?_cons_succ, List.set_cons_zero, List.set_cons_succ, Nat.add_sub_cancel_left, Nat.sub_self, Nat.add_zero, Nat.zero_add, Nat.le_add_right, Nat.le_refl, true_and, and_true, va_rf, zok, Nat.add_left_cancel_iff, Nat.add_eq_left, Nat.left_eq_add, eq_self, if_true, if_false, not_false_eq_true, not_true_eq_false, false_implies, true_implies, Nat.reduceEqDiff, Nat.reduceAdd, Nat.reduceLT, Nat.reduceLeDiff, reduceIte, f0', y1', N0, N1, N2, N3, N4, N5, N6, N7, N11, N12, N13, N14, N15, N16, N58, N59, N63, N64, N65, N112, e_up]
    have k3 : ∀ w, ∀ j, j ≠ 1 → va_up E2 1 w j = E2 j := fun w j hj => u_ne hj
    refine ⟨n', lo', la', seat', line', nI items', nI (zkm I), nI S.1, tr, D.1, C.2.1, C.2.2, rfl, hN, (k3 _ 0 (by omega)).trans ((k2 0 (by omega) (by omega)).trans e0), gTo2.congr (fun j _ _ => k3 _ j (by omega)), (k3 _ 11 (by omega)).trans ((k2 11 (by omega) (by omega)).trans e11), hmo.sh.congr (fun j _ _ => (k3 _ j (by omega)).trans (k2 j (by omega) (by omega))), hpa.congr (fun j _ _ => (k3 _ j (by omega)).trans (k2 j (by omega) (by omega))), fun E3 p0 pMo pPa pk => ?_⟩
    have k4 : ∀ j, j ≠ 0 → j ≠ 1 → (j < 3 ∨ 10 < j) → (j < 12 ∨ 15 < j) → j ≠ 16 → E3 j = E j := fun j a0 a1 a2 a3 a4 => (pk j a0 a3 a4).trans ((k3 _ j a1).trans (k2 j a1 a2))
    have gTo3 : zTo b cy E3 3 n' lo' la' seat' line' (nI items') := gTo2.congr (fun j _ _ => (pk j (by omega) (by omega) (by omega)).trans (k3 _ j (by omega)))
    obtain ⟨_, _, _, _, t3, _⟩ := id gTo3
    have p0' := p0
    simp only [zB0] at p0
    simp only [e_cut, e_iload, e_aload, e_istore, e_astore, e_iinc, e_const, e_lconst, e_bin, e_bin0, e_un, e_ladd, e_dupi, e_dupr, e_dup2, e_pop, e_if, e_icmp, e_sw, e_sw0, e_sw1, e_get, e_put, e_ald, e_ast, e_aald, e_aast, e_copy, e_new, e_newa, e_anewa, e_min, e_abs, e_oinit, e_callI, e_callV, e_callS, e_iret, e_zret, e_lret, e_vret, e_tl1, e_tl0, e_tl2, e_tl3, z10, Bool.false_eq_true, e_argi, e_argr, e_argn, zld_c, zst_n, zst_c, zpick_n, zpick_c, List.drop_succ_cons, List.drop_zero, List.take_succ_cons, List.take_zero, List.length_cons, List.length_nil, List.reverse_cons, List.reverse_nil, List.nil_append, List.cons_append, List.append_nil, List.getElem?_cons_zero, List.getElem?_cons_succ, List.set_cons_zero, List.set_cons_succ, Nat.add_sub_cancel_left, Nat.sub_self, Nat.add_zero, Nat.zero_add, Nat.le_add_right, Nat.le_refl, true_and, and_true, va_rf, zok, Nat.add_left_cancel_iff, Nat.add_eq_left, Nat.left_eq_add, eq_self, if_true, if_false, not_false_eq_true, not_true_eq_false, false_implies, true_implies, Nat.reduceEqDiff, Nat.reduceAdd, Nat.reduceLT, Nat.reduceLeDiff, reduceIte, p0, N0, N1, N2, N3, N4, N5, N6, N7, N11, N12, N13, N14, N15, N16, N58, N59, N63, N64, N65, N112, t3]
    refine hP E3 ⟨p0', ⟨Nat.zero_le _, _, _, _, _, _, yf, (pk 1 (by omega) (by omega) (by omega)).trans u_eq, (pk 2 (by omega) (by omega) (by omega)).trans ((k3 _ 2 (by omega)).trans ((gk2 2 (by omega)).trans y2)), fun j hj => absurd hj (Nat.not_lt_zero _)⟩, ⟨seat', nI items', gTo3⟩, gDr.sh.congr (fun j _ _ => (pk j (by omega) (by omega) (by omega)).trans ((k3 _ j (by omega)).trans (gk2 j (by omega)))), ⟨(k4 11 (by omega) (by omega) (by omega) (by omega) (by omega)).trans e11, pMo, pPa _ _⟩, ⟨jf, (k4 58 (by omega) (by omega) (by omega) (by omega) (by omega)).trans j58, jf0, jf1⟩, hAh.congr (fun j _ _ => k4 j (by omega) (by omega) (by omega) (by omega) (by omega)), ?_, hI0.sh.congr (fun j _ _ => k4 j (by omega) (by omega) (by omega) (by omega) (by omega)), hI1.sh.congr (fun j _ _ => k4 j (by omega) (by omega) (by omega) (by omega) (by omega))⟩ (fun j hj => k4 j (by omega) (by omega) (by omega) (by omega) (by omega))
    obtain ⟨_, _, sf, sg, sn1, sn2, _⟩ := hSn
    exact ⟨Nat.zero_le _, ⟨_, _, p0'⟩, sf, sg, (k4 63 (by omega) (by omega) (by omega) (by omega) (by omega)).trans sn1, (k4 64 (by omega) (by omega) (by omega) (by omega) (by omega)).trans sn2, fun k hk => absurd hk (Nat.not_lt_zero _)⟩
set_option maxRecDepth 20000 in
theorem f_X5_car_12 : Cond.fieldLink RX5 12 (TX5 0).1 (TX5 0).2.1 (TX5 0).2.2.1 ∈ wsX5_car := by decide +kernel
set_option maxRecDepth 20000 in
theorem k_X5_car_5 : ∀ w ∈ u_ws RX5 TX5 11, w ∈ wsX5_car := fun _ h => List.mem_cons_of_mem _ (List.mem_append_left _ (List.mem_append_left _ (List.mem_append_left _ (List.mem_append_left _ (List.mem_append_left _ (List.mem_append_right _ h))))))
set_option maxRecDepth 20000 in
theorem f_X5_car_23 : Cond.fieldLink RX5 23 (TX5 2).1 (TX5 2).2.1 (TX5 2).2.2.1 ∈ wsX5_car := by decide +kernel
set_option maxRecDepth 20000 in
theorem f_X5_car_19 : Cond.fieldLink RX5 19 (TX5 1).1 (TX5 1).2.1 (TX5 1).2.2.1 ∈ wsX5_car := by decide +kernel
set_option maxRecDepth 20000 in
theorem f_X5_car_58 : Cond.fieldLink RX5 58 (TX3 0).1 (TX3 0).2.1 (TX3 0).2.2.1 ∈ wsX5_car := by decide +kernel
set_option maxRecDepth 20000 in
theorem k_X5_car_3 : ∀ w ∈ u_ws RX3 TX3 7, w ∈ wsX5_car := fun _ h => List.mem_cons_of_mem _ (List.mem_append_left _ (List.mem_append_left _ (List.mem_append_left _ (List.mem_append_left _ (List.mem_append_right _ h)))))
set_option maxRecDepth 20000 in
theorem f_X5_car_70 : Cond.fieldLink RX5 70 (TX4 1).1 (TX4 1).2.1 (TX4 1).2.2.1 ∈ wsX5_car := by decide +kernel
set_option maxRecDepth 20000 in
theorem k_X5_car_4 : ∀ w ∈ u_ws RX4 TX4 6, w ∈ wsX5_car := fun _ h => List.mem_cons_of_mem _ (List.mem_append_left _ (List.mem_append_left _ (List.mem_append_left _ (List.mem_append_right _ h))))
set_option maxRecDepth 100000 in
set_option maxHeartbeats 4000000 in
theorem S_X5_car_0 {p : Program} {e : Env} {s : State} {m : MethodId} {args : Array Value} {below : List Frame} {meth : Method} {c : Code} {D : va_G} {cy : zY} {b n0 : Nat} {P : zPo} (la : Launch) (X : zX p la e (rm_X5_car) s m args below meth c 2 D cy b n0 cX5_car wsX5_car RX5) (hr : meth.sig.returnType = (some .int)) (h_X3_readInto : zMet la yX3_readInto wsX3_readInto rm_X3_readInto 0 0 sp_X3_readInto) (h_X4_copyFrom : zMet la yX4_copyFrom wsX4_copyFrom rm_X4_copyFrom 0 0 sp_X4_copyFrom) (h_X5_startAnew : zMet la yX5_startAnew wsX5_startAnew rm_X5_startAnew 0 0 sp_X5_startAnew) : zS p la e (rm_X5_car) s m args below meth c (MQ below (zQ D b (n0 + 0) P) args s 0 0 (fun q => b ≤ q)) 2 D b n0 0 (B_X5_car_0 b n0 cy P (zAt p la e (rm_X5_car) s m args below meth c (MQ below (zQ D b (n0 + 0) P) args s 0 0 (fun q => b ≤ q)) 2 D b n0)) := by
  unfold B_X5_car_0
  exact (s_aload_n X dX5_car_0 rfl (s_get X dX5_car_1 rfl k_X5_car_5 (by decide) f_X5_car_12 (s_aload_n X dX5_car_4 rfl (s_get X dX5_car_5 rfl k_X5_car_5 (by decide) f_X5_car_23 (s_callV X h_X3_readInto dX5_car_8 rfl gX5_car_X3_readInto rfl rfl rfl (by decide +kernel) ⟨by decide, by decide⟩ (s_istore_n X dX5_car_11 rfl (by decide) (s_iload_n X dX5_car_12 rfl (s_iconst X dX5_car_13 (by decide) (s_icmp_eq X dX5_car_14 (by decide) (s_aload_n X dX5_car_22 rfl (s_get X dX5_car_23 rfl k_X5_car_5 (by decide) f_X5_car_19 (s_aload_n X dX5_car_26 rfl (s_get X dX5_car_27 rfl k_X5_car_5 (by decide) f_X5_car_23 (s_callV X h_X4_copyFrom dX5_car_30 rfl gX5_car_X4_copyFrom rfl rfl rfl (by decide +kernel) ⟨by decide, by decide⟩ (s_aload_n X dX5_car_33 rfl (s_get X dX5_car_34 rfl k_X5_car_5 (by decide) f_X5_car_12 (s_iconst X dX5_car_37 (by decide) (s_put X dX5_car_38 rfl k_X5_car_3 tyX3_ok nmX3 (by decide) f_X5_car_58 rfl (tyX3_ok 0 (by decide)) zok_int (s_aload_n X dX5_car_41 rfl (s_callV X h_X5_startAnew dX5_car_42 rfl gX5_car_X5_startAnew rfl rfl rfl (by decide +kernel) ⟨by decide, by decide⟩ (s_aload_n X dX5_car_45 rfl (s_get X dX5_car_46 rfl k_X5_car_5 (by decide) f_X5_car_19 (s_get X dX5_car_49 rfl k_X5_car_4 (by decide) f_X5_car_70 (s_iret X dX5_car_52 hr))))))))))))))) (s_bipush X dX5_car_17 (by decide) (s_iload_n X dX5_car_19 rfl (s_isub X dX5_car_20 (s_iret X dX5_car_21 hr)))))))))))))
theorem w_X5_car (la : Launch) (h_X3_readInto : zMet la yX3_readInto wsX3_readInto rm_X3_readInto 0 0 sp_X3_readInto) (h_X4_copyFrom : zMet la yX4_copyFrom wsX4_copyFrom rm_X4_copyFrom 0 0 sp_X4_copyFrom) (h_X5_startAnew : zMet la yX5_startAnew wsX5_startAnew rm_X5_startAnew 0 0 sp_X5_startAnew) (sp : zSp) (vc : zVC_X5_car sp) : zMet la yX5_car wsX5_car (rm_X5_car) 0 0 sp :=
  z_of (cc := cX5_car) (maxL := 2) (ret := (some .int)) (by decide +kernel) rfl (fun p e s m args below meth c D cy b n as E P hsp X hr hin => by
    obtain ⟨h1, h2⟩ := vc b cy n as E P (zAt p la e (rm_X5_car) s m args below meth c (MQ below (zQ D b (n + 0) P) args s 0 0 (fun q => b ≤ q)) 2 D b n) hsp
    exact ⟨h1, S_X5_car_0 la X hr h_X3_readInto h_X4_copyFrom h_X5_startAnew _ _ _ _ _ h2⟩)

theorem m_X5_car (la : Launch) : zMet la yX5_car wsX5_car rm_X5_car 0 0 sp_X5_car := w_X5_car la (m_X3_readInto la) (m_X4_copyFrom la) (m_X5_startAnew la) _ vc_X5_car

