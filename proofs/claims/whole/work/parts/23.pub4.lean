theorem zgcd_pos : ∀ f a c : Nat, 0 < a → 0 < zgcd f a c := by
  intro f
  induction f with
  | zero => intro a c h; exact h
  | succ f ih =>
    intro a c h
    rw [zgcd]
    split
    · exact h
    · exact ih _ _ (by omega)
theorem zgcd_lt {B : Nat} : ∀ f a c : Nat, a < B → c < B → zgcd f a c < B := by
  intro f
  induction f with
  | zero => intro a c h _; exact h
  | succ f ih =>
    intro a c h h2
    rw [zgcd]
    split
    · exact h
    · exact ih _ _ h2 (Nat.lt_trans (Nat.mod_lt _ (by omega)) h2)
theorem zolo_le {n : Nat} {c : Nat → Nat} {r q : Nat} (hn : n ≤ 6) : zolo n c r q ≤ 10000000 ∧ 0 < zolo n c r q := by
  have h1 : zahead n c r q ≤ 6 := Nat.le_trans zahead_le hn
  have h2 : 10 ^ zahead n c r q ≤ 10 ^ 6 := Nat.pow_le_pow_right (by omega) h1
  have h3 : 0 < 10 ^ zahead n c r q := Nat.pow_pos (by omega)
  have h4 : (10 : Nat) ^ 6 = 1000000 := rfl
  unfold zolo
  omega
theorem zoup_le {n : Nat} {c : Nat → Nat} {r q x : Nat} (hn : n ≤ 6) (hx : x ≤ 10) : zoup n c r q x ≤ 10000000 := by
  have h1 : zahead n c r q ≤ 6 := Nat.le_trans zahead_le hn
  have h0 : x ^ zahead n c r q ≤ 10 ^ zahead n c r q := Nat.pow_le_pow_left hx _
  have h2 : 10 ^ zahead n c r q ≤ 10 ^ 6 := Nat.pow_le_pow_right (by omega) h1
  have h4 : (10 : Nat) ^ 6 = 1000000 := rfl
  unfold zoup
  split
  · omega
  · have h5 : (10 - x) * x ^ zahead n c r q ≤ 10 * 1000000 := Nat.mul_le_mul (by omega) (by omega)
    omega
def sp_X5_odds : zSp := fun b cy as N E P => ∃ x y p w : Int32, zPX (op_odds x y p w) [.int x, .int y, .int p, .int w] b cy as N E P
abbrev rm_X5_odds : Room := { frames := 4, cells := 0, slots := 0, locals := 111 }
def B_X5_odds_78 (b n0 : Nat) (cy : zY) (P : zPo) (A : Nat → zC) : zC :=
  z_iload 7 (z_bin0 (fun x y => x / y) (z_iret 0 0 P))
def B_X5_odds_30 (b n0 : Nat) (cy : zY) (P : zPo) (A : Nat → zC) : zC :=
  z_const (-1) (z_iret 0 0 P)
def B_X5_odds_0 (b n0 : Nat) (cy : zY) (P : zPo) (A : Nat → zC) : zC :=
  z_aload 0 (z_iload 1 (z_iload 2 (z_callV b n0 0 0 cy 5 2 0 0 sp_X5_isPairAboard (z_if (fun x => x = 0) (B_X5_odds_30 b n0 cy P A) (z_iload 3 (z_if (fun x => x < 0) (B_X5_odds_30 b n0 cy P A) (z_iload 3 (z_const (10) (z_icmp (fun x y => y < x) (B_X5_odds_30 b n0 cy P A) (z_iload 4 (z_if (fun x => x < 0) (B_X5_odds_30 b n0 cy P A) (z_iload 4 (z_const (1) (z_icmp (fun x y => x ≤ y) (z_aload 0 (z_iload 1 (z_iload 2 (z_iload 3 (z_callV b n0 0 0 cy 5 3 0 0 sp_X5_oddsUpper (z_istore 5 (z_aload 0 (z_iload 1 (z_iload 2 (z_callV b n0 0 0 cy 5 2 0 0 sp_X5_oddsLower (z_istore 6 (z_iload 6 (z_iload 5 (z_callS b n0 0 0 cy 2 0 0 sp_X5_commonDivisor (z_istore 7 (z_iload 7 (z_const (1) (z_icmp (fun x y => y ≤ x) (z_iload 4 (z_if (fun x => x = 0) (z_iload 5 (B_X5_odds_78 b n0 cy P A)) (z_iload 6 (B_X5_odds_78 b n0 cy P A)))) (z_const (-1) (z_iret 0 0 P)))))))))))))))))))) (B_X5_odds_30 b n0 cy P A)))))))))))))))
def zVC_X5_odds (sp : zSp) : Prop := ∀ (b : Nat) (cy : zY) (n : Nat) (as : List Value) (E : zE) (P : zPo) (A : Nat → zC), sp b cy as n E P → zgood as 8 ∧ B_X5_odds_0 b n cy P A (lv_args 0 as) [] 0 0 E

set_option maxRecDepth 100000 in
set_option maxHeartbeats 4000000 in
theorem vc_X5_odds : zVC_X5_odds sp_X5_odds := by
  intro b cy N as E P A hsp
  obtain ⟨x, y, p, w, K, ⟨T, D, C, I, S, tr⟩, rfl, hbc, hok, hK, hN, hP⟩ := hsp
  refine ⟨⟨Nat.le_of_ble_eq_true rfl, zg1 rfl (zg1 rfl (zg1 rfl (zg1 rfl (zg1 rfl (zg0)))))⟩, ?_⟩
  obtain ⟨e0, hTx, ⟨seat, items, hTo⟩, hDr, hIm, hIs, hAh, hSn, hI0, hI1⟩ := id hbc
  have hp2 := hbc.p2 hok hN
  obtain ⟨hp1, e11⟩ := id hp2
  obtain ⟨hR, hmo, hmk, hi12, _⟩ := id hp1
  obtain ⟨hn1, mf, mg, mh, m0, m1, m2, m3, hmf, hmg, hmh⟩ := id hmo
  obtain ⟨_, tf, tg, th, t0, t1, t2, t3, htf, htg, hth⟩ := id hTo
  replace m1 : E 13 = _ := m1
  replace m2 : E 14 = _ := m2
  replace m3 : E 15 = _ := m3
  replace t1 : E 4 = _ := t1
  replace t2 : E 5 = _ := t2
  replace t3 : E 6 = _ := t3
  have hpa : zPa b cy E 16 D.1 C.2.1 C.2.2 := hIm.2.2
  have hlo := hok.2.1
  have N0 : 0 < N := by omega
  have N1 : 1 < N := by omega
  have N2 : 2 < N := by omega
  have N3 : 3 < N := by omega
  have N4 : 4 < N := by omega
  have N5 : 5 < N := by omega
  have N6 : 6 < N := by omega
  have N7 : 7 < N := by omega
  have N11 : 11 < N := by omega
  have N12 : 12 < N := by omega
  have N13 : 13 < N := by omega
  have N14 : 14 < N := by omega
  have N15 : 15 < N := by omega
  have N16 : 16 < N := by omega
  have N58 : 58 < N := by omega
  have N59 : 59 < N := by omega
  have N63 : 63 < N := by omega
  have N64 : 64 < N := by omega
  have N65 : 65 < N := by omega
  have N112 : 112 < N := by omega
  replace hP := hP E hbc (fun _ _ => rfl)
  simp only [op_odds] at hP
  have k10 : (10 : Int32) = nI 10 := rfl
  have k1 : (1 : Int32) = nI 1 := rfl
  simp only [B_X5_odds_0, B_X5_odds_30, B_X5_odds_78, e_cut, e_iload, e_aload, e_istore, e_astore, e_iinc, e_const, e_lconst, e_bin, e_bin0, e_un, e_ladd, e_dupi, e_dupr, e_dup2, e_pop, e_if, e_icmp, e_sw, e_sw0, e_sw1, e_get, e_put, e_ald, e_ast, e_aald, e_aast, e_copy, e_new, e_newa, e_anewa, e_min, e_abs, e_oinit, e_callI, e_callV, e_callS, e_iret, e_zret, e_lret, e_vret, e_tl1, e_tl0, e_tl2, e_tl3, z10, Bool.false_eq_true, e_argi, e_argr, e_argn, zld_c, zst_n, zst_c, zpick_n, zpick_c, List.drop_succ_cons, List.drop_zero, List.take_succ_cons, List.take_zero, List.length_cons, List.length_nil, List.reverse_cons, List.reverse_nil, List.nil_append, List.cons_append, List.append_nil, List.getElem?_cons_zero, List.getElem?_cons_succ, List.set_cons_zero, List.set_cons_succ, Nat.add_sub_cancel_left, Nat.sub_self, Nat.add_zero, Nat.zero_add, Nat.le_add_right, Nat.le_refl, true_and, and_true, va_rf, zok, Nat.add_left_cancel_iff, Nat.add_eq_left, Nat.left_eq_add, eq_self, if_true, if_false, not_false_eq_true, not_true_eq_false, false_implies, true_implies, Nat.reduceEqDiff, Nat.reduceAdd, Nat.reduceLT, Nat.reduceLeDiff, reduceIte, zB0, e0, N0, N1, N2, N3, N4, N5, N6, N7, N11, N12, N13, N14, N15, N16, N58, N59, N63, N64, N65, N112]
  refine ⟨_, _, _, _, x, y, rfl, hp2, ?_⟩
  by_cases q1 : zisA D.1 C.1 x y = true
  · obtain ⟨r, q, hr, hq, hne, rfl, rfl, hrb, hqb⟩ := zisA_t q1 hn1
    simp only [q1, true_and, zcl_i (show r < 2 ^ 31 by omega), zcl_i (show q < 2 ^ 31 by omega)] at hP
    simp only [e_cut, e_iload, e_aload, e_istore, e_astore, e_iinc, e_const, e_lconst, e_bin, e_bin0, e_un, e_ladd, e_dupi, e_dupr, e_dup2, e_pop, e_if, e_icmp, e_sw, e_sw0, e_sw1, e_get, e_put, e_ald, e_ast, e_aald, e_aast, e_copy, e_new, e_newa, e_anewa, e_min, e_abs, e_oinit, e_callI, e_callV, e_callS, e_iret, e_zret, e_lret, e_vret, e_tl1, e_tl0, e_tl2, e_tl3, z10, Bool.false_eq_true, e_argi, e_argr, e_argn, zld_c, zst_n, zst_c, zpick_n, zpick_c, List.drop_succ_cons, List.drop_zero, List.take_succ_cons, List.take_zero, List.length_cons, List.length_nil, List.reverse_cons, List.reverse_nil, List.nil_append, List.cons_append, List.append_nil, List.getElem?_cons_zero, List.getElem?_cons_succ, List.set_cons_zero, List.set_cons_succ, Nat.add_sub_cancel_left, Nat.sub_self, Nat.add_zero, Nat.zero_add, Nat.le_add_right, Nat.le_refl, true_and, and_true, va_rf, zok, Nat.add_left_cancel_iff, Nat.add_eq_left, Nat.left_eq_add, eq_self, if_true, if_false, not_false_eq_true, not_true_eq_false, false_implies, true_implies, Nat.reduceEqDiff, Nat.reduceAdd, Nat.reduceLT, Nat.reduceLeDiff, reduceIte, q1, k10]
    refine ⟨fun c1 => ?_, fun c1 => ⟨fun c2 => ?_, fun c2 => ⟨fun c3 => ?_, fun c3 => ?_⟩⟩⟩
    · rw [if_neg (fun h => zisB_f1 c1 h.1)] at hP; exact hP
    · have : ¬ zisB 11 p = true := zisB_nle (k := 10) (by rw [fa_lt'] at c2; rw [fa_le']; omega) (by omega)
      rw [if_neg (fun h => this h.1)] at hP; exact hP
    · rw [if_neg (fun h => zisB_f1 c3 h.2)] at hP; exact hP
    · have q2 : zisB 11 p = true := zisB_le (k := 10) c1 (by rw [fa_lt'] at c2; rw [fa_le']; omega) (by omega)
      obtain ⟨z, hz, rfl⟩ := zisB_u q2 (by omega)
      rw [k1]
      refine ⟨fun c4 => ?_, fun c4 => ?_⟩
      · have q3 := zisB_le c3 c4 (by omega)
        rw [if_pos ⟨q2, q3⟩, zcl_i (show z < 2 ^ 31 by omega)] at hP
        simp only [zodds] at hP
        simp only [e_cut, e_iload, e_aload, e_istore, e_astore, e_iinc, e_const, e_lconst, e_bin, e_bin0, e_un, e_ladd, e_dupi, e_dupr, e_dup2, e_pop, e_if, e_icmp, e_sw, e_sw0, e_sw1, e_get, e_put, e_ald, e_ast, e_aald, e_aast, e_copy, e_new, e_newa, e_anewa, e_min, e_abs, e_oinit, e_callI, e_callV, e_callS, e_iret, e_zret, e_lret, e_vret, e_tl1, e_tl0, e_tl2, e_tl3, z10, Bool.false_eq_true, e_argi, e_argr, e_argn, zld_c, zst_n, zst_c, zpick_n, zpick_c, List.drop_succ_cons, List.drop_zero, List.take_succ_cons, List.take_zero, List.length_cons, List.length_nil, List.reverse_cons, List.reverse_nil, List.nil_append, List.cons_append, List.append_nil, List.getElem?_cons_zero, List.getElem?_cons_succ, List.set_cons_zero, List.set_cons_succ, Nat.add_sub_cancel_left, Nat.sub_self, Nat.add_zero, Nat.zero_add, Nat.le_add_right, Nat.le_refl, true_and, and_true, va_rf, zok, Nat.add_left_cancel_iff, Nat.add_eq_left, Nat.left_eq_add, eq_self, if_true, if_false, not_false_eq_true, not_true_eq_false, false_implies, true_implies, Nat.reduceEqDiff, Nat.reduceAdd, Nat.reduceLT, Nat.reduceLeDiff, reduceIte, zB0, e0, N0, N1, N2, N3, N4, N5, N6, N7, N11, N12, N13, N14, N15, N16, N58, N59, N63, N64, N65, N112]
        refine ⟨_, _, _, _, r, q, z, rfl, hp2, by omega, by omega, by omega, ?_⟩
        simp only [e_cut, e_iload, e_aload, e_istore, e_astore, e_iinc, e_const, e_lconst, e_bin, e_bin0, e_un, e_ladd, e_dupi, e_dupr, e_dup2, e_pop, e_if, e_icmp, e_sw, e_sw0, e_sw1, e_get, e_put, e_ald, e_ast, e_aald, e_aast, e_copy, e_new, e_newa, e_anewa, e_min, e_abs, e_oinit, e_callI, e_callV, e_callS, e_iret, e_zret, e_lret, e_vret, e_tl1, e_tl0, e_tl2, e_tl3, z10, Bool.false_eq_true, e_argi, e_argr, e_argn, zld_c, zst_n, zst_c, zpick_n, zpick_c, List.drop_succ_cons, List.drop_zero, List.take_succ_cons, List.take_zero, List.length_cons, List.length_nil, List.reverse_cons, List.reverse_nil, List.nil_append, List.cons_append, List.append_nil, List.getElem?_cons_zero, List.getElem?_cons_succ, List.set_cons_zero, List.set_cons_succ, Nat.add_sub_cancel_left, Nat.sub_self, Nat.add_zero, Nat.zero_add, Nat.le_add_right, Nat.le_refl, true_and, and_true, va_rf, zok, Nat.add_left_cancel_iff, Nat.add_eq_left, Nat.left_eq_add, eq_self, if_true, if_false, not_false_eq_true, not_true_eq_false, false_implies, true_implies, Nat.reduceEqDiff, Nat.reduceAdd, Nat.reduceLT, Nat.reduceLeDiff, reduceIte, zB0, e0, N0, N1, N2, N3, N4, N5, N6, N7, N11, N12, N13, N14, N15, N16, N58, N59, N63, N64, N65, N112]
        refine ⟨_, _, _, _, r, q, rfl, hp2, by omega, by omega, ?_⟩
        have l1 := zolo_le (c := C.1) (r := r) (q := q) hn1
        have l2 := zoup_le (c := C.1) (r := r) (q := q) (x := z) hn1 (by omega)
        have g1 := zgcd_pos 64 (zolo D.1 C.1 r q) (zoup D.1 C.1 r q z) l1.2
        have g2 := zgcd_lt (B := 2 ^ 31) 64 (zolo D.1 C.1 r q) (zoup D.1 C.1 r q z) (by omega) (by omega)
        simp only [e_cut, e_iload, e_aload, e_istore, e_astore, e_iinc, e_const, e_lconst, e_bin, e_bin0, e_un, e_ladd, e_dupi, e_dupr, e_dup2, e_pop, e_if, e_icmp, e_sw, e_sw0, e_sw1, e_get, e_put, e_ald, e_ast, e_aald, e_aast, e_copy, e_new, e_newa, e_anewa, e_min, e_abs, e_oinit, e_callI, e_callV, e_callS, e_iret, e_zret, e_lret, e_vret, e_tl1, e_tl0, e_tl2, e_tl3, z10, Bool.false_eq_true, e_argi, e_argr, e_argn, zld_c, zst_n, zst_c, zpick_n, zpick_c, List.drop_succ_cons, List.drop_zero, List.take_succ_cons, List.take_zero, List.length_cons, List.length_nil, List.reverse_cons, List.reverse_nil, List.nil_append, List.cons_append, List.append_nil, List.getElem?_cons_zero, List.getElem?_cons_succ, List.set_cons_zero, List.set_cons_succ, Nat.add_sub_cancel_left, Nat.sub_self, Nat.add_zero, Nat.zero_add, Nat.le_add_right, Nat.le_refl, true_and, and_true, va_rf, zok, Nat.add_left_cancel_iff, Nat.add_eq_left, Nat.left_eq_add, eq_self, if_true, if_false, not_false_eq_true, not_true_eq_false, false_implies, true_implies, Nat.reduceEqDiff, Nat.reduceAdd, Nat.reduceLT, Nat.reduceLeDiff, reduceIte]
        refine ⟨_, _, rfl, by omega, by omega, ?_⟩
        have cle : nI 1 ≤ nI (zgcd 64 (zolo D.1 C.1 r q) (zoup D.1 C.1 r q z)) := nI_le g1 g2
        have gne : ¬ nI (zgcd 64 (zolo D.1 C.1 r q) (zoup D.1 C.1 r q z)) = 0 := nI_ne0 g1 g2
        simp only [e_cut, e_iload, e_aload, e_istore, e_astore, e_iinc, e_const, e_lconst, e_bin, e_bin0, e_un, e_ladd, e_dupi, e_dupr, e_dup2, e_pop, e_if, e_icmp, e_sw, e_sw0, e_sw1, e_get, e_put, e_ald, e_ast, e_aald, e_aast, e_copy, e_new, e_newa, e_anewa, e_min, e_abs, e_oinit, e_callI, e_callV, e_callS, e_iret, e_zret, e_lret, e_vret, e_tl1, e_tl0, e_tl2, e_tl3, z10, Bool.false_eq_true, e_argi, e_argr, e_argn, zld_c, zst_n, zst_c, zpick_n, zpick_c, List.drop_succ_cons, List.drop_zero, List.take_succ_cons, List.take_zero, List.length_cons, List.length_nil, List.reverse_cons, List.reverse_nil, List.nil_append, List.cons_append, List.append_nil, List.getElem?_cons_zero, List.getElem?_cons_succ, List.set_cons_zero, List.set_cons_succ, Nat.add_sub_cancel_left, Nat.sub_self, Nat.add_zero, Nat.zero_add, Nat.le_add_right, Nat.le_refl, true_and, and_true, va_rf, zok, Nat.add_left_cancel_iff, Nat.add_eq_left, Nat.left_eq_add, eq_self, if_true, if_false, not_false_eq_true, not_true_eq_false, false_implies, true_implies, Nat.reduceEqDiff, Nat.reduceAdd, Nat.reduceLT, Nat.reduceLeDiff, reduceIte, k1, cle, B_X5_odds_0, B_X5_odds_30, B_X5_odds_78, gne, pk_div (show zoup D.1 C.1 r q z < 2 ^ 31 by omega) g1 g2, pk_div (show zolo D.1 C.1 r q < 2 ^ 31 by omega) g1 g2]
        refine ⟨fun c5 => ?_, fun c5 => ?_⟩
        · rw [if_pos c5] at hP; exact hP
        · rw [if_neg c5] at hP; exact hP
      · rw [if_neg (fun h => zisB_nle c4 (by omega) h.2)] at hP; exact hP
  · rw [if_neg (fun h => q1 h.1)] at hP
    simp only [e_cut, e_iload, e_aload, e_istore, e_astore, e_iinc, e_const, e_lconst, e_bin, e_bin0, e_un, e_ladd, e_dupi, e_dupr, e_dup2, e_pop, e_if, e_icmp, e_sw, e_sw0, e_sw1, e_get, e_put, e_ald, e_ast, e_aald, e_aast, e_copy, e_new, e_newa, e_anewa, e_min, e_abs, e_oinit, e_callI, e_callV, e_callS, e_iret, e_zret, e_lret, e_vret, e_tl1, e_tl0, e_tl2, e_tl3, z10, Bool.false_eq_true, e_argi, e_argr, e_argn, zld_c, zst_n, zst_c, zpick_n, zpick_c, List.drop_succ_cons, List.drop_zero, List.take_succ_cons, List.take_zero, List.length_cons, List.length_nil, List.reverse_cons, List.reverse_nil, List.nil_append, List.cons_append, List.append_nil, List.getElem?_cons_zero, List.getElem?_cons_succ, List.set_cons_zero, List.set_cons_succ, Nat.add_sub_cancel_left, Nat.sub_self, Nat.add_zero, Nat.zero_add, Nat.le_add_right, Nat.le_refl, true_and, and_true, va_rf, zok, Nat.add_left_cancel_iff, Nat.add_eq_left, Nat.left_eq_add, eq_self, if_true, if_false, not_false_eq_true, not_true_eq_false, false_implies, true_implies, Nat.reduceEqDiff, Nat.reduceAdd, Nat.reduceLT, Nat.reduceLeDiff, reduceIte, q1, B_X5_odds_0, B_X5_odds_30, B_X5_odds_78]
    exact hP
set_option maxRecDepth 100000 in
set_option maxHeartbeats 4000000 in
theorem S_X5_odds_78 {p : Program} {e : Env} {s : State} {m : MethodId} {args : Array Value} {below : List Frame} {meth : Method} {c : Code} {D : va_G} {cy : zY} {b n0 : Nat} {P : zPo} (la : Launch) (X : zX p la e (rm_X5_odds) s m args below meth c 8 D cy b n0 cX5_odds wsX5_odds RX5) (hr : meth.sig.returnType = (some .int)) (h_X5_commonDivisor : zMet la yX5_commonDivisor wsX5_commonDivisor rm_X5_commonDivisor 0 0 sp_X5_commonDivisor) (h_X5_isPairAboard : zMet la yX5_isPairAboard wsX5_isPairAboard rm_X5_isPairAboard 0 0 sp_X5_isPairAboard) (h_X5_oddsLower : zMet la yX5_oddsLower wsX5_oddsLower rm_X5_oddsLower 0 0 sp_X5_oddsLower) (h_X5_oddsUpper : zMet la yX5_oddsUpper wsX5_oddsUpper rm_X5_oddsUpper 0 0 sp_X5_oddsUpper) : zS p la e (rm_X5_odds) s m args below meth c (MQ below (zQ D b (n0 + 0) P) args s 0 0 (fun q => b ≤ q)) 8 D b n0 78 (B_X5_odds_78 b n0 cy P (zAt p la e (rm_X5_odds) s m args below meth c (MQ below (zQ D b (n0 + 0) P) args s 0 0 (fun q => b ≤ q)) 8 D b n0)) := by
  unfold B_X5_odds_78
  exact (s_iload X dX5_odds_78 (s_idiv X dX5_odds_80 (s_iret X dX5_odds_81 hr)))
set_option maxRecDepth 100000 in
set_option maxHeartbeats 4000000 in
theorem S_X5_odds_30 {p : Program} {e : Env} {s : State} {m : MethodId} {args : Array Value} {below : List Frame} {meth : Method} {c : Code} {D : va_G} {cy : zY} {b n0 : Nat} {P : zPo} (la : Launch) (X : zX p la e (rm_X5_odds) s m args below meth c 8 D cy b n0 cX5_odds wsX5_odds RX5) (hr : meth.sig.returnType = (some .int)) (h_X5_commonDivisor : zMet la yX5_commonDivisor wsX5_commonDivisor rm_X5_commonDivisor 0 0 sp_X5_commonDivisor) (h_X5_isPairAboard : zMet la yX5_isPairAboard wsX5_isPairAboard rm_X5_isPairAboard 0 0 sp_X5_isPairAboard) (h_X5_oddsLower : zMet la yX5_oddsLower wsX5_oddsLower rm_X5_oddsLower 0 0 sp_X5_oddsLower) (h_X5_oddsUpper : zMet la yX5_oddsUpper wsX5_oddsUpper rm_X5_oddsUpper 0 0 sp_X5_oddsUpper) : zS p la e (rm_X5_odds) s m args below meth c (MQ below (zQ D b (n0 + 0) P) args s 0 0 (fun q => b ≤ q)) 8 D b n0 30 (B_X5_odds_30 b n0 cy P (zAt p la e (rm_X5_odds) s m args below meth c (MQ below (zQ D b (n0 + 0) P) args s 0 0 (fun q => b ≤ q)) 8 D b n0)) := by
  unfold B_X5_odds_30
  exact (s_iconst X dX5_odds_30 (by decide) (s_iret X dX5_odds_31 hr))
set_option maxRecDepth 100000 in
set_option maxHeartbeats 4000000 in
theorem S_X5_odds_0 {p : Program} {e : Env} {s : State} {m : MethodId} {args : Array Value} {below : List Frame} {meth : Method} {c : Code} {D : va_G} {cy : zY} {b n0 : Nat} {P : zPo} (la : Launch) (X : zX p la e (rm_X5_odds) s m args below meth c 8 D cy b n0 cX5_odds wsX5_odds RX5) (hr : meth.sig.returnType = (some .int)) (h_X5_commonDivisor : zMet la yX5_commonDivisor wsX5_commonDivisor rm_X5_commonDivisor 0 0 sp_X5_commonDivisor) (h_X5_isPairAboard : zMet la yX5_isPairAboard wsX5_isPairAboard rm_X5_isPairAboard 0 0 sp_X5_isPairAboard) (h_X5_oddsLower : zMet la yX5_oddsLower wsX5_oddsLower rm_X5_oddsLower 0 0 sp_X5_oddsLower) (h_X5_oddsUpper : zMet la yX5_oddsUpper wsX5_oddsUpper rm_X5_oddsUpper 0 0 sp_X5_oddsUpper) : zS p la e (rm_X5_odds) s m args below meth c (MQ below (zQ D b (n0 + 0) P) args s 0 0 (fun q => b ≤ q)) 8 D b n0 0 (B_X5_odds_0 b n0 cy P (zAt p la e (rm_X5_odds) s m args below meth c (MQ below (zQ D b (n0 + 0) P) args s 0 0 (fun q => b ≤ q)) 8 D b n0)) := by
  unfold B_X5_odds_0
  exact (s_aload_n X dX5_odds_0 rfl (s_iload_n X dX5_odds_1 rfl (s_iload_n X dX5_odds_2 rfl (s_callV X h_X5_isPairAboard dX5_odds_3 rfl gX5_odds_X5_isPairAboard rfl rfl rfl (by decide +kernel) ⟨by decide, by decide⟩ (s_if_eq X dX5_odds_6 (by decide) (S_X5_odds_30 la X hr h_X5_commonDivisor h_X5_isPairAboard h_X5_oddsLower h_X5_oddsUpper) (s_iload_n X dX5_odds_9 rfl (s_if_lt X dX5_odds_10 (by decide) (S_X5_odds_30 la X hr h_X5_commonDivisor h_X5_isPairAboard h_X5_oddsLower h_X5_oddsUpper) (s_iload_n X dX5_odds_13 rfl (s_bipush X dX5_odds_14 (by decide) (s_icmp_gt X dX5_odds_16 (by decide) (S_X5_odds_30 la X hr h_X5_commonDivisor h_X5_isPairAboard h_X5_oddsLower h_X5_oddsUpper) (s_iload X dX5_odds_19 (s_if_lt X dX5_odds_21 (by decide) (S_X5_odds_30 la X hr h_X5_commonDivisor h_X5_isPairAboard h_X5_oddsLower h_X5_oddsUpper) (s_iload X dX5_odds_24 (s_iconst X dX5_odds_26 (by decide) (s_icmp_le X dX5_odds_27 (by decide) (s_aload_n X dX5_odds_32 rfl (s_iload_n X dX5_odds_33 rfl (s_iload_n X dX5_odds_34 rfl (s_iload_n X dX5_odds_35 rfl (s_callV X h_X5_oddsUpper dX5_odds_36 rfl gX5_odds_X5_oddsUpper rfl rfl rfl (by decide +kernel) ⟨by decide, by decide⟩ (s_istore X dX5_odds_39 (by decide) (s_aload_n X dX5_odds_41 rfl (s_iload_n X dX5_odds_42 rfl (s_iload_n X dX5_odds_43 rfl (s_callV X h_X5_oddsLower dX5_odds_44 rfl gX5_odds_X5_oddsLower rfl rfl rfl (by decide +kernel) ⟨by decide, by decide⟩ (s_istore X dX5_odds_47 (by decide) (s_iload X dX5_odds_49 (s_iload X dX5_odds_51 (s_callS X h_X5_commonDivisor dX5_odds_53 gX5_odds_X5_commonDivisor rfl rfl rfl (by decide +kernel) ⟨by decide, by decide⟩ (s_istore X dX5_odds_56 (by decide) (s_iload X dX5_odds_58 (s_iconst X dX5_odds_60 (by decide) (s_icmp_ge X dX5_odds_61 (by decide) (s_iload X dX5_odds_66 (s_if_ne X dX5_odds_68 (by decide) (s_iload X dX5_odds_76 (S_X5_odds_78 la X hr h_X5_commonDivisor h_X5_isPairAboard h_X5_oddsLower h_X5_oddsUpper)) (s_iload X dX5_odds_71 (s_goto X dX5_odds_73 (by decide) (S_X5_odds_78 la X hr h_X5_commonDivisor h_X5_isPairAboard h_X5_oddsLower h_X5_oddsUpper))))) (s_iconst X dX5_odds_64 (by decide) (s_iret X dX5_odds_65 hr)))))))))))))))))))) (S_X5_odds_30 la X hr h_X5_commonDivisor h_X5_isPairAboard h_X5_oddsLower h_X5_oddsUpper))))))))))))))))
theorem w_X5_odds (la : Launch) (h_X5_commonDivisor : zMet la yX5_commonDivisor wsX5_commonDivisor rm_X5_commonDivisor 0 0 sp_X5_commonDivisor) (h_X5_isPairAboard : zMet la yX5_isPairAboard wsX5_isPairAboard rm_X5_isPairAboard 0 0 sp_X5_isPairAboard) (h_X5_oddsLower : zMet la yX5_oddsLower wsX5_oddsLower rm_X5_oddsLower 0 0 sp_X5_oddsLower) (h_X5_oddsUpper : zMet la yX5_oddsUpper wsX5_oddsUpper rm_X5_oddsUpper 0 0 sp_X5_oddsUpper) (sp : zSp) (vc : zVC_X5_odds sp) : zMet la yX5_odds wsX5_odds (rm_X5_odds) 0 0 sp :=
  z_of (cc := cX5_odds) (maxL := 8) (ret := (some .int)) (by decide +kernel) rfl (fun p e s m args below meth c D cy b n as E P hsp X hr hin => by
    obtain ⟨h1, h2⟩ := vc b cy n as E P (zAt p la e (rm_X5_odds) s m args below meth c (MQ below (zQ D b (n + 0) P) args s 0 0 (fun q => b ≤ q)) 8 D b n) hsp
    exact ⟨h1, S_X5_odds_0 la X hr h_X5_commonDivisor h_X5_isPairAboard h_X5_oddsLower h_X5_oddsUpper _ _ _ _ _ h2⟩)

theorem m_X5_odds (la : Launch) : zMet la yX5_odds wsX5_odds rm_X5_odds 0 0 sp_X5_odds := w_X5_odds la (m_X5_commonDivisor la) (m_X5_isPairAboard la) (m_X5_oddsLower la) (m_X5_oddsUpper la) _ vc_X5_odds
def sp_X5_circle : zSp := fun b cy as N E P => ∃ x w : Int32, zPX (op_circle x w) [.int x, .int w] b cy as N E P
abbrev rm_X5_circle : Room := { frames := 5, cells := 0, slots := 0, locals := 136 }
def B_X5_circle_68 (b n0 : Nat) (cy : zY) (P : zPo) (A : Nat → zC) : zC :=
  z_iret 0 0 P
def B_X5_circle_33 (b n0 : Nat) (cy : zY) (P : zPo) (A : Nat → zC) : zC :=
  z_const (-1) (z_iret 0 0 P)
def B_X5_circle_0 (b n0 : Nat) (cy : zY) (P : zPo) (A : Nat → zC) : zC :=
  z_aload 0 (z_get b n0 5 3 (z_get b n0 0 0 (z_astore 3 (z_aload 0 (z_iload 1 (z_callV b n0 0 0 cy 5 1 0 0 sp_X5_isRider (z_if (fun x => x = 0) (B_X5_circle_33 b n0 cy P A) (z_aload 3 (z_iload 1 (z_callV b n0 0 0 cy 1 1 0 0 sp_X1_isAboard (z_if (fun x => x = 0) (B_X5_circle_33 b n0 cy P A) (z_iload 2 (z_if (fun x => x < 0) (B_X5_circle_33 b n0 cy P A) (z_iload 2 (z_const (1) (z_icmp (fun x y => x ≤ y) (z_aload 0 (z_aload 3 (z_iload 1 (z_callV b n0 0 0 cy 5 2 0 0 sp_X5_circleOf (z_istore 4 (z_iload 4 (z_if (fun x => x = 0) (z_const (-9) (z_iret 0 0 P)) (z_iload 2 (z_if (fun x => x = 0) (z_iload 4 (z_callS b n0 0 0 cy 1 0 0 sp_J6_bitCount_0f7a4 (B_X5_circle_68 b n0 cy P A))) (z_iload 4 (z_callS b n0 0 0 cy 1 0 0 sp_X5_lowestOf (B_X5_circle_68 b n0 cy P A)))))))))))) (B_X5_circle_33 b n0 cy P A)))))))))))))))))
def zVC_X5_circle (sp : zSp) : Prop := ∀ (b : Nat) (cy : zY) (n : Nat) (as : List Value) (E : zE) (P : zPo) (A : Nat → zC), sp b cy as n E P → zgood as 5 ∧ B_X5_circle_0 b n cy P A (lv_args 0 as) [] 0 0 E

set_option maxRecDepth 100000 in
set_option maxHeartbeats 4000000 in
theorem vc_X5_circle : zVC_X5_circle sp_X5_circle := by
  intro b cy N as E P A hsp
  obtain ⟨x, w, K, ⟨T, D, C, I, S, tr⟩, rfl, hbc, hok, hK, hN, hP⟩ := hsp
  refine ⟨⟨Nat.le_of_ble_eq_true rfl, zg1 rfl (zg1 rfl (zg1 rfl (zg0)))⟩, ?_⟩
  obtain ⟨e0, hTx, ⟨seat, items, hTo⟩, hDr, hIm, hIs, hAh, hSn, hI0, hI1⟩ := id hbc
  have hp2 := hbc.p2 hok hN
  obtain ⟨hp1, e11⟩ := id hp2
  obtain ⟨hR, hmo, hmk, hi12, _⟩ := id hp1
  obtain ⟨hn1, mf, mg, mh, m0, m1, m2, m3, hmf, hmg, hmh⟩ := id hmo
  obtain ⟨_, tf, tg, th, t0, t1, t2, t3, htf, htg, hth⟩ := id hTo
  replace m1 : E 13 = _ := m1
  replace m2 : E 14 = _ := m2
  replace m3 : E 15 = _ := m3
  replace t1 : E 4 = _ := t1
  replace t2 : E 5 = _ := t2
  replace t3 : E 6 = _ := t3
  have hpa : zPa b cy E 16 D.1 C.2.1 C.2.2 := hIm.2.2
  have hlo := hok.2.1
  have N0 : 0 < N := by omega
  have N1 : 1 < N := by omega
  have N2 : 2 < N := by omega
  have N3 : 3 < N := by omega
  have N4 : 4 < N := by omega
  have N5 : 5 < N := by omega
  have N6 : 6 < N := by omega
  have N7 : 7 < N := by omega
  have N11 : 11 < N := by omega
  have N12 : 12 < N := by omega
  have N13 : 13 < N := by omega
  have N14 : 14 < N := by omega
  have N15 : 15 < N := by omega
  have N16 : 16 < N := by omega
  have N58 : 58 < N := by omega
  have N59 : 59 < N := by omega
  have N63 : 63 < N := by omega
  have N64 : 64 < N := by omega
  have N65 : 65 < N := by omega
  have N112 : 112 < N := by omega
  replace hP := hP E hbc (fun _ _ => rfl)
  simp only [op_circle] at hP
  have k1 : (1 : Int32) = nI 1 := rfl
  simp only [B_X5_circle_0, B_X5_circle_33, B_X5_circle_68, e_cut, e_iload, e_aload, e_istore, e_astore, e_iinc, e_const, e_lconst, e_bin, e_bin0, e_un, e_ladd, e_dupi, e_dupr, e_dup2, e_pop, e_if, e_icmp, e_sw, e_sw0, e_sw1, e_get, e_put, e_ald, e_ast, e_aald, e_aast, e_copy, e_new, e_newa, e_anewa, e_min, e_abs, e_oinit, e_callI, e_callV, e_callS, e_iret, e_zret, e_lret, e_vret, e_tl1, e_tl0, e_tl2, e_tl3, z10, Bool.false_eq_true, e_argi, e_argr, e_argn, zld_c, zst_n, zst_c, zpick_n, zpick_c, List.drop_succ_cons, List.drop_zero, List.take_succ_cons, List.take_zero, List.length_cons, List.length_nil, List.reverse_cons, List.reverse_nil, List.nil_append, List.cons_append, List.append_nil, List.getElem?_cons_zero, List.getElem?_cons_succ, List.set_cons_zero, List.set_cons_succ, Nat.add_sub_cancel_left, Nat.sub_self, Nat.add_zero, Nat.zero_add, Nat.le_add_right, Nat.le_refl, true_and, and_true, va_rf, zok, Nat.add_left_cancel_iff, Nat.add_eq_left, Nat.left_eq_add, eq_self, if_true, if_false, not_false_eq_true, not_true_eq_false, false_implies, true_implies, Nat.reduceEqDiff, Nat.reduceAdd, Nat.reduceLT, Nat.reduceLeDiff, reduceIte, zB0, e0, N0, N1, N2, N3, N4, N5, N6, N7, N11, N12, N13, N14, N15, N16, N58, N59, N63, N64, N65, N112, e11]
  refine ⟨_, _, _, x, rfl, hR, hN, ?_⟩
  by_cases q1 : zisB D.1 x = true
  · obtain ⟨r, hr, rfl⟩ := zisB_t q1 hn1
    simp only [q1, true_and, zcl_i (show r < 2 ^ 31 by omega)] at hP
    simp only [e_cut, e_iload, e_aload, e_istore, e_astore, e_iinc, e_const, e_lconst, e_bin, e_bin0, e_un, e_ladd, e_dupi, e_dupr, e_dup2, e_pop, e_if, e_icmp, e_sw, e_sw0, e_sw1, e_get, e_put, e_ald, e_ast, e_aald, e_aast, e_copy, e_new, e_newa, e_anewa, e_min, e_abs, e_oinit, e_callI, e_callV, e_callS, e_iret, e_zret, e_lret, e_vret, e_tl1, e_tl0, e_tl2, e_tl3, z10, Bool.false_eq_true, e_argi, e_argr, e_argn, zld_c, zst_n, zst_c, zpick_n, zpick_c, List.drop_succ_cons, List.drop_zero, List.take_succ_cons, List.take_zero, List.length_cons, List.length_nil, List.reverse_cons, List.reverse_nil, List.nil_append, List.cons_append, List.append_nil, List.getElem?_cons_zero, List.getElem?_cons_succ, List.set_cons_zero, List.set_cons_succ, Nat.add_sub_cancel_left, Nat.sub_self, Nat.add_zero, Nat.zero_add, Nat.le_add_right, Nat.le_refl, true_and, and_true, va_rf, zok, Nat.add_left_cancel_iff, Nat.add_eq_left, Nat.left_eq_add, eq_self, if_true, if_false, not_false_eq_true, not_true_eq_false, false_implies, true_implies, Nat.reduceEqDiff, Nat.reduceAdd, Nat.reduceLT, Nat.reduceLeDiff, reduceIte, q1, m0, N0, N1, N2, N3, N4, N5, N6, N7, N11, N12, N13, N14, N15, N16, N58, N59, N63, N64, N65, N112]
    refine ⟨12, r, _, _, rfl, hmo, hi12, by omega, hmk.l64, ?_⟩
    by_cases q2 : (C.1 1).testBit r = true
    · simp only [q2, true_and] at hP
      simp only [e_cut, e_iload, e_aload, e_istore, e_astore, e_iinc, e_const, e_lconst, e_bin, e_bin0, e_un, e_ladd, e_dupi, e_dupr, e_dup2, e_pop, e_if, e_icmp, e_sw, e_sw0, e_sw1, e_get, e_put, e_ald, e_ast, e_aald, e_aast, e_copy, e_new, e_newa, e_anewa, e_min, e_abs, e_oinit, e_callI, e_callV, e_callS, e_iret, e_zret, e_lret, e_vret, e_tl1, e_tl0, e_tl2, e_tl3, z10, Bool.false_eq_true, e_argi, e_argr, e_argn, zld_c, zst_n, zst_c, zpick_n, zpick_c, List.drop_succ_cons, List.drop_zero, List.take_succ_cons, List.take_zero, List.length_cons, List.length_nil, List.reverse_cons, List.reverse_nil, List.nil_append, List.cons_append, List.append_nil, List.getElem?_cons_zero, List.getElem?_cons_succ, List.set_cons_zero, List.set_cons_succ, Nat.add_sub_cancel_left, Nat.sub_self, Nat.add_zero, Nat.zero_add, Nat.le_add_right, Nat.le_refl, true_and, and_true, va_rf, zok, Nat.add_left_cancel_iff, Nat.add_eq_left, Nat.left_eq_add, eq_self, if_true, if_false, not_false_eq_true, not_true_eq_false, false_implies, true_implies, Nat.reduceEqDiff, Nat.reduceAdd, Nat.reduceLT, Nat.reduceLeDiff, reduceIte, q2]
      refine ⟨fun c1 => ?_, fun c1 => ⟨fun c2 => ?_, fun c2 => ?_⟩⟩
      · rw [if_neg (zisB_f1 c1)] at hP; exact hP
      · rw [if_pos (zisB_le (k := 1) c1 c2 (by omega))] at hP
        simp only [zB0, e0, e_cut, e_iload, e_aload, e_istore, e_astore, e_iinc, e_const, e_lconst, e_bin, e_bin0, e_un, e_ladd, e_dupi, e_dupr, e_dup2, e_pop, e_if, e_icmp, e_sw, e_sw0, e_sw1, e_get, e_put, e_ald, e_ast, e_aald, e_aast, e_copy, e_new, e_newa, e_anewa, e_min, e_abs, e_oinit, e_callI, e_callV, e_callS, e_iret, e_zret, e_lret, e_vret, e_tl1, e_tl0, e_tl2, e_tl3, z10, Bool.false_eq_true, e_argi, e_argr, e_argn, zld_c, zst_n, zst_c, zpick_n, zpick_c, List.drop_succ_cons, List.drop_zero, List.take_succ_cons, List.take_zero, List.length_cons, List.length_nil, List.reverse_cons, List.reverse_nil, List.nil_append, List.cons_append, List.append_nil, List.getElem?_cons_zero, List.getElem?_cons_succ, List.set_cons_zero, List.set_cons_succ, Nat.add_sub_cancel_left, Nat.sub_self, Nat.add_zero, Nat.zero_add, Nat.le_add_right, Nat.le_refl, true_and, and_true, va_rf, zok, Nat.add_left_cancel_iff, Nat.add_eq_left, Nat.left_eq_add, eq_self, if_true, if_false, not_false_eq_true, not_true_eq_false, false_implies, true_implies, Nat.reduceEqDiff, Nat.reduceAdd, Nat.reduceLT, Nat.reduceLeDiff, reduceIte, N0, N1, N2, N3, N4, N5, N6, N7, N11, N12, N13, N14, N15, N16, N58, N59, N63, N64, N65, N112]
        refine ⟨_, _, _, 12, _, r, rfl, hp1, hr, ?_⟩
        have hl := zcm_lt (lo := D.2.1) (la := D.2.2.1) (c := C.1) hn1 hr D.1
        by_cases q3 : zcm D.1 D.2.1 D.2.2.1 C.1 r D.1 = 0
        · simp only [q3, if_true] at hP
          simp only [e_cut, e_iload, e_aload, e_istore, e_astore, e_iinc, e_const, e_lconst, e_bin, e_bin0, e_un, e_ladd, e_dupi, e_dupr, e_dup2, e_pop, e_if, e_icmp, e_sw, e_sw0, e_sw1, e_get, e_put, e_ald, e_ast, e_aald, e_aast, e_copy, e_new, e_newa, e_anewa, e_min, e_abs, e_oinit, e_callI, e_callV, e_callS, e_iret, e_zret, e_lret, e_vret, e_tl1, e_tl0, e_tl2, e_tl3, z10, Bool.false_eq_true, e_argi, e_argr, e_argn, zld_c, zst_n, zst_c, zpick_n, zpick_c, List.drop_succ_cons, List.drop_zero, List.take_succ_cons, List.take_zero, List.length_cons, List.length_nil, List.reverse_cons, List.reverse_nil, List.nil_append, List.cons_append, List.append_nil, List.getElem?_cons_zero, List.getElem?_cons_succ, List.set_cons_zero, List.set_cons_succ, Nat.add_sub_cancel_left, Nat.sub_self, Nat.add_zero, Nat.zero_add, Nat.le_add_right, Nat.le_refl, true_and, and_true, va_rf, zok, Nat.add_left_cancel_iff, Nat.add_eq_left, Nat.left_eq_add, eq_self, if_true, if_false, not_false_eq_true, not_true_eq_false, false_implies, true_implies, Nat.reduceEqDiff, Nat.reduceAdd, Nat.reduceLT, Nat.reduceLeDiff, reduceIte, q3, nI_0]
          exact hP
        · simp only [q3, if_false] at hP
          have q4 : ¬ nI (zcm D.1 D.2.1 D.2.2.1 C.1 r D.1) = 0 := nI_ne0 (by omega) (by omega)
          simp only [e_cut, e_iload, e_aload, e_istore, e_astore, e_iinc, e_const, e_lconst, e_bin, e_bin0, e_un, e_ladd, e_dupi, e_dupr, e_dup2, e_pop, e_if, e_icmp, e_sw, e_sw0, e_sw1, e_get, e_put, e_ald, e_ast, e_aald, e_aast, e_copy, e_new, e_newa, e_anewa, e_min, e_abs, e_oinit, e_callI, e_callV, e_callS, e_iret, e_zret, e_lret, e_vret, e_tl1, e_tl0, e_tl2, e_tl3, z10, Bool.false_eq_true, e_argi, e_argr, e_argn, zld_c, zst_n, zst_c, zpick_n, zpick_c, List.drop_succ_cons, List.drop_zero, List.take_succ_cons, List.take_zero, List.length_cons, List.length_nil, List.reverse_cons, List.reverse_nil, List.nil_append, List.cons_append, List.append_nil, List.getElem?_cons_zero, List.getElem?_cons_succ, List.set_cons_zero, List.set_cons_succ, Nat.add_sub_cancel_left, Nat.sub_self, Nat.add_zero, Nat.zero_add, Nat.le_add_right, Nat.le_refl, true_and, and_true, va_rf, zok, Nat.add_left_cancel_iff, Nat.add_eq_left, Nat.left_eq_add, eq_self, if_true, if_false, not_false_eq_true, not_true_eq_false, false_implies, true_implies, Nat.reduceEqDiff, Nat.reduceAdd, Nat.reduceLT, Nat.reduceLeDiff, reduceIte, q4]
          refine ⟨fun c3 => ?_, fun c3 => ?_⟩
          · rw [if_pos c3] at hP
            refine ⟨_, rfl, hl, ?_⟩
            simp only [e_cut, e_iload, e_aload, e_istore, e_astore, e_iinc, e_const, e_lconst, e_bin, e_bin0, e_un, e_ladd, e_dupi, e_dupr, e_dup2, e_pop, e_if, e_icmp, e_sw, e_sw0, e_sw1, e_get, e_put, e_ald, e_ast, e_aald, e_aast, e_copy, e_new, e_newa, e_anewa, e_min, e_abs, e_oinit, e_callI, e_callV, e_callS, e_iret, e_zret, e_lret, e_vret, e_tl1, e_tl0, e_tl2, e_tl3, z10, Bool.false_eq_true, e_argi, e_argr, e_argn, zld_c, zst_n, zst_c, zpick_n, zpick_c, List.drop_succ_cons, List.drop_zero, List.take_succ_cons, List.take_zero, List.length_cons, List.length_nil, List.reverse_cons, List.reverse_nil, List.nil_append, List.cons_append, List.append_nil, List.getElem?_cons_zero, List.getElem?_cons_succ, List.set_cons_zero, List.set_cons_succ, Nat.add_sub_cancel_left, Nat.sub_self, Nat.add_zero, Nat.zero_add, Nat.le_add_right, Nat.le_refl, true_and, and_true, va_rf, zok, Nat.add_left_cancel_iff, Nat.add_eq_left, Nat.left_eq_add, eq_self, if_true, if_false, not_false_eq_true, not_true_eq_false, false_implies, true_implies, Nat.reduceEqDiff, Nat.reduceAdd, Nat.reduceLT, Nat.reduceLeDiff, reduceIte, B_X5_circle_0, B_X5_circle_33, B_X5_circle_68]
            exact hP
          · rw [if_neg c3] at hP
            refine ⟨_, rfl, hl, ?_⟩
            simp only [e_cut, e_iload, e_aload, e_istore, e_astore, e_iinc, e_const, e_lconst, e_bin, e_bin0, e_un, e_ladd, e_dupi, e_dupr, e_dup2, e_pop, e_if, e_icmp, e_sw, e_sw0, e_sw1, e_get, e_put, e_ald, e_ast, e_aald, e_aast, e_copy, e_new, e_newa, e_anewa, e_min, e_abs, e_oinit, e_callI, e_callV, e_callS, e_iret, e_zret, e_lret, e_vret, e_tl1, e_tl0, e_tl2, e_tl3, z10, Bool.false_eq_true, e_argi, e_argr, e_argn, zld_c, zst_n, zst_c, zpick_n, zpick_c, List.drop_succ_cons, List.drop_zero, List.take_succ_cons, List.take_zero, List.length_cons, List.length_nil, List.reverse_cons, List.reverse_nil, List.nil_append, List.cons_append, List.append_nil, List.getElem?_cons_zero, List.getElem?_cons_succ, List.set_cons_zero, List.set_cons_succ, Nat.add_sub_cancel_left, Nat.sub_self, Nat.add_zero, Nat.zero_add, Nat.le_add_right, Nat.le_refl, true_and, and_true, va_rf, zok, Nat.add_left_cancel_iff, Nat.add_eq_left, Nat.left_eq_add, eq_self, if_true, if_false, not_false_eq_true, not_true_eq_false, false_implies, true_implies, Nat.reduceEqDiff, Nat.reduceAdd, Nat.reduceLT, Nat.reduceLeDiff, reduceIte, B_X5_circle_0, B_X5_circle_33, B_X5_circle_68]
            exact hP
      · rw [if_neg (zisB_nle (k := 1) c2 (by omega))] at hP; exact hP
    · rw [if_neg (fun h => q2 h.1)] at hP
      simp only [e_cut, e_iload, e_aload, e_istore, e_astore, e_iinc, e_const, e_lconst, e_bin, e_bin0, e_un, e_ladd, e_dupi, e_dupr, e_dup2, e_pop, e_if, e_icmp, e_sw, e_sw0, e_sw1, e_get, e_put, e_ald, e_ast, e_aald, e_aast, e_copy, e_new, e_newa, e_anewa, e_min, e_abs, e_oinit, e_callI, e_callV, e_callS, e_iret, e_zret, e_lret, e_vret, e_tl1, e_tl0, e_tl2, e_tl3, z10, Bool.false_eq_true, e_argi, e_argr, e_argn, zld_c, zst_n, zst_c, zpick_n, zpick_c, List.drop_succ_cons, List.drop_zero, List.take_succ_cons, List.take_zero, List.length_cons, List.length_nil, List.reverse_cons, List.reverse_nil, List.nil_append, List.cons_append, List.append_nil, List.getElem?_cons_zero, List.getElem?_cons_succ, List.set_cons_zero, List.set_cons_succ, Nat.add_sub_cancel_left, Nat.sub_self, Nat.add_zero, Nat.zero_add, Nat.le_add_right, Nat.le_refl, true_and, and_true, va_rf, zok, Nat.add_left_cancel_iff, Nat.add_eq_left, Nat.left_eq_add, eq_self, if_true, if_false, not_false_eq_true, not_true_eq_false, false_implies, true_implies, Nat.reduceEqDiff, Nat.reduceAdd, Nat.reduceLT, Nat.reduceLeDiff, reduceIte, q2, B_X5_circle_0, B_X5_circle_33, B_X5_circle_68]
      exact hP
  · rw [if_neg (fun h => q1 h.1.1)] at hP
    simp only [e_cut, e_iload, e_aload, e_istore, e_astore, e_iinc, e_const, e_lconst, e_bin, e_bin0, e_un, e_ladd, e_dupi, e_dupr, e_dup2, e_pop, e_if, e_icmp, e_sw, e_sw0, e_sw1, e_get, e_put, e_ald, e_ast, e_aald, e_aast, e_copy, e_new, e_newa, e_anewa, e_min, e_abs, e_oinit, e_callI, e_callV, e_callS, e_iret, e_zret, e_lret, e_vret, e_tl1, e_tl0, e_tl2, e_tl3, z10, Bool.false_eq_true, e_argi, e_argr, e_argn, zld_c, zst_n, zst_c, zpick_n, zpick_c, List.drop_succ_cons, List.drop_zero, List.take_succ_cons, List.take_zero, List.length_cons, List.length_nil, List.reverse_cons, List.reverse_nil, List.nil_append, List.cons_append, List.append_nil, List.getElem?_cons_zero, List.getElem?_cons_succ, List.set_cons_zero, List.set_cons_succ, Nat.add_sub_cancel_left, Nat.sub_self, Nat.add_zero, Nat.zero_add, Nat.le_add_right, Nat.le_refl, true_and, and_true, va_rf, zok, Nat.add_left_cancel_iff, Nat.add_eq_left, Nat.left_eq_add, eq_self, if_true, if_false, not_false_eq_true, not_true_eq_false, false_implies, true_implies, Nat.reduceEqDiff, Nat.reduceAdd, Nat.reduceLT, Nat.reduceLeDiff, reduceIte, q1, B_X5_circle_0, B_X5_circle_33, B_X5_circle_68]
    exact hP
set_option maxRecDepth 20000 in
theorem f_X5_circle_29 : Cond.fieldLink RX5 29 (TX5 3).1 (TX5 3).2.1 (TX5 3).2.2.1 ∈ wsX5_circle := by decide +kernel
set_option maxRecDepth 20000 in
theorem k_X5_circle_5 : ∀ w ∈ u_ws RX5 TX5 11, w ∈ wsX5_circle := fun _ h => List.mem_cons_of_mem _ (List.mem_append_left _ (List.mem_append_left _ (List.mem_append_left _ (List.mem_append_right _ h))))
set_option maxRecDepth 20000 in
theorem f_X5_circle_76 : Cond.fieldLink RX5 76 (TX0 0).1 (TX0 0).2.1 (TX0 0).2.2.1 ∈ wsX5_circle := by decide +kernel
set_option maxRecDepth 20000 in
theorem k_X5_circle_0 : ∀ w ∈ u_ws RX0 TX0 2, w ∈ wsX5_circle := fun _ h => List.mem_cons_of_mem _ (List.mem_append_left _ (List.mem_append_left _ (List.mem_append_right _ h)))
set_option maxRecDepth 100000 in
set_option maxHeartbeats 4000000 in
theorem S_X5_circle_68 {p : Program} {e : Env} {s : State} {m : MethodId} {args : Array Value} {below : List Frame} {meth : Method} {c : Code} {D : va_G} {cy : zY} {b n0 : Nat} {P : zPo} (la : Launch) (X : zX p la e (rm_X5_circle) s m args below meth c 5 D cy b n0 cX5_circle wsX5_circle RX5) (hr : meth.sig.returnType = (some .int)) (h_J6_bitCount_0f7a4 : zMet la yJ6_bitCount_0f7a4 wsJ6_bitCount_0f7a4 rm_J6_bitCount_0f7a4 0 0 sp_J6_bitCount_0f7a4) (h_X1_isAboard : zMet la yX1_isAboard wsX1_isAboard rm_X1_isAboard 0 0 sp_X1_isAboard) (h_X5_circleOf : zMet la yX5_circleOf wsX5_circleOf rm_X5_circleOf 0 0 sp_X5_circleOf) (h_X5_isRider : zMet la yX5_isRider wsX5_isRider rm_X5_isRider 0 0 sp_X5_isRider) (h_X5_lowestOf : zMet la yX5_lowestOf wsX5_lowestOf rm_X5_lowestOf 0 0 sp_X5_lowestOf) : zS p la e (rm_X5_circle) s m args below meth c (MQ below (zQ D b (n0 + 0) P) args s 0 0 (fun q => b ≤ q)) 5 D b n0 68 (B_X5_circle_68 b n0 cy P (zAt p la e (rm_X5_circle) s m args below meth c (MQ below (zQ D b (n0 + 0) P) args s 0 0 (fun q => b ≤ q)) 5 D b n0)) := by
  unfold B_X5_circle_68
  exact (s_iret X dX5_circle_68 hr)
set_option maxRecDepth 100000 in
set_option maxHeartbeats 4000000 in
theorem S_X5_circle_33 {p : Program} {e : Env} {s : State} {m : MethodId} {args : Array Value} {below : List Frame} {meth : Method} {c : Code} {D : va_G} {cy : zY} {b n0 : Nat} {P : zPo} (la : Launch) (X : zX p la e (rm_X5_circle) s m args below meth c 5 D cy b n0 cX5_circle wsX5_circle RX5) (hr : meth.sig.returnType = (some .int)) (h_J6_bitCount_0f7a4 : zMet la yJ6_bitCount_0f7a4 wsJ6_bitCount_0f7a4 rm_J6_bitCount_0f7a4 0 0 sp_J6_bitCount_0f7a4) (h_X1_isAboard : zMet la yX1_isAboard wsX1_isAboard rm_X1_isAboard 0 0 sp_X1_isAboard) (h_X5_circleOf : zMet la yX5_circleOf wsX5_circleOf rm_X5_circleOf 0 0 sp_X5_circleOf) (h_X5_isRider : zMet la yX5_isRider wsX5_isRider rm_X5_isRider 0 0 sp_X5_isRider) (h_X5_lowestOf : zMet la yX5_lowestOf wsX5_lowestOf rm_X5_lowestOf 0 0 sp_X5_lowestOf) : zS p la e (rm_X5_circle) s m args below meth c (MQ below (zQ D b (n0 + 0) P) args s 0 0 (fun q => b ≤ q)) 5 D b n0 33 (B_X5_circle_33 b n0 cy P (zAt p la e (rm_X5_circle) s m args below meth c (MQ below (zQ D b (n0 + 0) P) args s 0 0 (fun q => b ≤ q)) 5 D b n0)) := by
  unfold B_X5_circle_33
  exact (s_iconst X dX5_circle_33 (by decide) (s_iret X dX5_circle_34 hr))
set_option maxRecDepth 100000 in
set_option maxHeartbeats 4000000 in
theorem S_X5_circle_0 {p : Program} {e : Env} {s : State} {m : MethodId} {args : Array Value} {below : List Frame} {meth : Method} {c : Code} {D : va_G} {cy : zY} {b n0 : Nat} {P : zPo} (la : Launch) (X : zX p la e (rm_X5_circle) s m args below meth c 5 D cy b n0 cX5_circle wsX5_circle RX5) (hr : meth.sig.returnType = (some .int)) (h_J6_bitCount_0f7a4 : zMet la yJ6_bitCount_0f7a4 wsJ6_bitCount_0f7a4 rm_J6_bitCount_0f7a4 0 0 sp_J6_bitCount_0f7a4) (h_X1_isAboard : zMet la yX1_isAboard wsX1_isAboard rm_X1_isAboard 0 0 sp_X1_isAboard) (h_X5_circleOf : zMet la yX5_circleOf wsX5_circleOf rm_X5_circleOf 0 0 sp_X5_circleOf) (h_X5_isRider : zMet la yX5_isRider wsX5_isRider rm_X5_isRider 0 0 sp_X5_isRider) (h_X5_lowestOf : zMet la yX5_lowestOf wsX5_lowestOf rm_X5_lowestOf 0 0 sp_X5_lowestOf) : zS p la e (rm_X5_circle) s m args below meth c (MQ below (zQ D b (n0 + 0) P) args s 0 0 (fun q => b ≤ q)) 5 D b n0 0 (B_X5_circle_0 b n0 cy P (zAt p la e (rm_X5_circle) s m args below meth c (MQ below (zQ D b (n0 + 0) P) args s 0 0 (fun q => b ≤ q)) 5 D b n0)) := by
  unfold B_X5_circle_0
  exact (s_aload_n X dX5_circle_0 rfl (s_get X dX5_circle_1 rfl k_X5_circle_5 (by decide) f_X5_circle_29 (s_get X dX5_circle_4 rfl k_X5_circle_0 (by decide) f_X5_circle_76 (s_astore_n X dX5_circle_7 rfl (by decide) (s_aload_n X dX5_circle_8 rfl (s_iload_n X dX5_circle_9 rfl (s_callV X h_X5_isRider dX5_circle_10 rfl gX5_circle_X5_isRider rfl rfl rfl (by decide +kernel) ⟨by decide, by decide⟩ (s_if_eq X dX5_circle_13 (by decide) (S_X5_circle_33 la X hr h_J6_bitCount_0f7a4 h_X1_isAboard h_X5_circleOf h_X5_isRider h_X5_lowestOf) (s_aload_n X dX5_circle_16 rfl (s_iload_n X dX5_circle_17 rfl (s_callV X h_X1_isAboard dX5_circle_18 rfl gX5_circle_X1_isAboard rfl rfl rfl (by decide +kernel) ⟨by decide, by decide⟩ (s_if_eq X dX5_circle_21 (by decide) (S_X5_circle_33 la X hr h_J6_bitCount_0f7a4 h_X1_isAboard h_X5_circleOf h_X5_isRider h_X5_lowestOf) (s_iload_n X dX5_circle_24 rfl (s_if_lt X dX5_circle_25 (by decide) (S_X5_circle_33 la X hr h_J6_bitCount_0f7a4 h_X1_isAboard h_X5_circleOf h_X5_isRider h_X5_lowestOf) (s_iload_n X dX5_circle_28 rfl (s_iconst X dX5_circle_29 (by decide) (s_icmp_le X dX5_circle_30 (by decide) (s_aload_n X dX5_circle_35 rfl (s_aload_n X dX5_circle_36 rfl (s_iload_n X dX5_circle_37 rfl (s_callV X h_X5_circleOf dX5_circle_38 rfl gX5_circle_X5_circleOf rfl rfl rfl (by decide +kernel) ⟨by decide, by decide⟩ (s_istore X dX5_circle_41 (by decide) (s_iload X dX5_circle_43 (s_if_ne X dX5_circle_45 (by decide) (s_iload_n X dX5_circle_51 rfl (s_if_ne X dX5_circle_52 (by decide) (s_iload X dX5_circle_63 (s_callS X h_X5_lowestOf dX5_circle_65 gX5_circle_X5_lowestOf rfl rfl rfl (by decide +kernel) ⟨by decide, by decide⟩ (S_X5_circle_68 la X hr h_J6_bitCount_0f7a4 h_X1_isAboard h_X5_circleOf h_X5_isRider h_X5_lowestOf))) (s_iload X dX5_circle_55 (s_callS X h_J6_bitCount_0f7a4 dX5_circle_57 gX5_circle_J6_bitCount_0f7a4 rfl rfl rfl (by decide +kernel) ⟨by decide, by decide⟩ (s_goto X dX5_circle_60 (by decide) (S_X5_circle_68 la X hr h_J6_bitCount_0f7a4 h_X1_isAboard h_X5_circleOf h_X5_isRider h_X5_lowestOf)))))) (s_bipush X dX5_circle_48 (by decide) (s_iret X dX5_circle_50 hr))))))))) (S_X5_circle_33 la X hr h_J6_bitCount_0f7a4 h_X1_isAboard h_X5_circleOf h_X5_isRider h_X5_lowestOf))))))))))))))))))
theorem w_X5_circle (la : Launch) (h_J6_bitCount_0f7a4 : zMet la yJ6_bitCount_0f7a4 wsJ6_bitCount_0f7a4 rm_J6_bitCount_0f7a4 0 0 sp_J6_bitCount_0f7a4) (h_X1_isAboard : zMet la yX1_isAboard wsX1_isAboard rm_X1_isAboard 0 0 sp_X1_isAboard) (h_X5_circleOf : zMet la yX5_circleOf wsX5_circleOf rm_X5_circleOf 0 0 sp_X5_circleOf) (h_X5_isRider : zMet la yX5_isRider wsX5_isRider rm_X5_isRider 0 0 sp_X5_isRider) (h_X5_lowestOf : zMet la yX5_lowestOf wsX5_lowestOf rm_X5_lowestOf 0 0 sp_X5_lowestOf) (sp : zSp) (vc : zVC_X5_circle sp) : zMet la yX5_circle wsX5_circle (rm_X5_circle) 0 0 sp :=
  z_of (cc := cX5_circle) (maxL := 5) (ret := (some .int)) (by decide +kernel) rfl (fun p e s m args below meth c D cy b n as E P hsp X hr hin => by
    obtain ⟨h1, h2⟩ := vc b cy n as E P (zAt p la e (rm_X5_circle) s m args below meth c (MQ below (zQ D b (n + 0) P) args s 0 0 (fun q => b ≤ q)) 5 D b n) hsp
    exact ⟨h1, S_X5_circle_0 la X hr h_J6_bitCount_0f7a4 h_X1_isAboard h_X5_circleOf h_X5_isRider h_X5_lowestOf _ _ _ _ _ h2⟩)

theorem m_X5_circle (la : Launch) : zMet la yX5_circle wsX5_circle rm_X5_circle 0 0 sp_X5_circle := w_X5_circle la (m_J6_bitCount_0f7a4 la) (m_X1_isAboard la) (m_X5_circleOf la) (m_X5_isRider la) (m_X5_lowestOf la) _ vc_X5_circle
def sp_X5_chair : zSp := fun b cy as N E P => ∃ x y : Int32, zPX (op_chair x y) [.int x, .int y] b cy as N E P
abbrev rm_X5_chair : Room := { frames := 4, cells := 0, slots := 0, locals := 105 }
def B_X5_chair_13 (b n0 : Nat) (cy : zY) (P : zPo) (A : Nat → zC) : zC :=
  z_iload 3 (z_const (9) (z_icmp (fun x y => y < x) (z_const (-9) (z_iret 0 0 P)) (z_aload 0 (z_aload 0 (z_get b n0 5 3 (z_get b n0 0 0 (z_iload 1 (z_iload 3 (z_callV b n0 0 0 cy 5 3 0 0 sp_X5_nearest (z_iload 2 (z_icmp (fun x y => x = y) (z_iload 3 (z_iret 0 0 P)) (z_iinc 3 (1) (z_cut [0, 1, 2, 3] (A 13))))))))))))))
def B_X5_chair_0 (b n0 : Nat) (cy : zY) (P : zPo) (A : Nat → zC) : zC :=
  z_aload 0 (z_iload 1 (z_iload 2 (z_callV b n0 0 0 cy 5 2 0 0 sp_X5_isPairAboard (z_if (fun x => x = 0) (z_const (-1) (z_iret 0 0 P)) (z_const (0) (z_istore 3 (z_cut [0, 1, 2, 3] (A 13))))))))
def zVC_X5_chair (sp : zSp) : Prop := ∀ (b : Nat) (cy : zY) (n : Nat) (as : List Value) (E : zE) (P : zPo) (A : Nat → zC), (∀ l st k u E, B_X5_chair_13 b n cy P A l st k u E → A 13 l st k u E) → sp b cy as n E P → zgood as 4 ∧ B_X5_chair_0 b n cy P A (lv_args 0 as) [] 0 0 E

theorem zrv_eq2 {o : Option Nat} {w : Nat} (ho : ∀ q, o = some q → q < 6) (hw : w < 6) : (zrv o = nI w) = (o = some w) := by
  rw [← zrv_eq ho hw]
  exact propext ⟨fun h => h.symm, fun h => h.symm⟩
set_option maxRecDepth 100000 in
set_option maxHeartbeats 4000000 in
theorem vc_X5_chair : zVC_X5_chair sp_X5_chair := by
  intro b cy N as E P A hA hsp
  obtain ⟨x, y, K, ⟨T, D, C, I, S, tr⟩, rfl, hbc, hok, hK, hN, hP⟩ := hsp
  refine ⟨⟨Nat.le_of_ble_eq_true rfl, zg1 rfl (zg1 rfl (zg1 rfl (zg0)))⟩, ?_⟩
  obtain ⟨e0, hTx, ⟨seat, items, hTo⟩, hDr, hIm, hIs, hAh, hSn, hI0, hI1⟩ := id hbc
  have hp2 := hbc.p2 hok hN
  obtain ⟨hp1, e11⟩ := id hp2
  obtain ⟨hR, hmo, hmk, hi12, _⟩ := id hp1
  obtain ⟨hn1, mf, mg, mh, m0, m1, m2, m3, hmf, hmg, hmh⟩ := id hmo
  obtain ⟨_, tf, tg, th, t0, t1, t2, t3, htf, htg, hth⟩ := id hTo
  replace m1 : E 13 = _ := m1
  replace m2 : E 14 = _ := m2
  replace m3 : E 15 = _ := m3
  replace t1 : E 4 = _ := t1
  replace t2 : E 5 = _ := t2
  replace t3 : E 6 = _ := t3
  have hpa : zPa b cy E 16 D.1 C.2.1 C.2.2 := hIm.2.2
  have hlo := hok.2.1
  have N0 : 0 < N := by omega
  have N1 : 1 < N := by omega
  have N2 : 2 < N := by omega
  have N3 : 3 < N := by omega
  have N4 : 4 < N := by omega
  have N5 : 5 < N := by omega
  have N6 : 6 < N := by omega
  have N7 : 7 < N := by omega
  have N11 : 11 < N := by omega
  have N12 : 12 < N := by omega
  have N13 : 13 < N := by omega
  have N14 : 14 < N := by omega
  have N15 : 15 < N := by omega
  have N16 : 16 < N := by omega
  have N58 : 58 < N := by omega
  have N59 : 59 < N := by omega
  have N63 : 63 < N := by omega
  have N64 : 64 < N := by omega
  have N65 : 65 < N := by omega
  have N112 : 112 < N := by omega
  replace hP := hP E hbc (fun _ _ => rfl)
  simp only [op_chair] at hP
  have k9 : (9 : Int32) = nI 9 := rfl
  simp only [B_X5_chair_0, B_X5_chair_13, e_cut, e_iload, e_aload, e_istore, e_astore, e_iinc, e_const, e_lconst, e_bin, e_bin0, e_un, e_ladd, e_dupi, e_dupr, e_dup2, e_pop, e_if, e_icmp, e_sw, e_sw0, e_sw1, e_get, e_put, e_ald, e_ast, e_aald, e_aast, e_copy, e_new, e_newa, e_anewa, e_min, e_abs, e_oinit, e_callI, e_callV, e_callS, e_iret, e_zret, e_lret, e_vret, e_tl1, e_tl0, e_tl2, e_tl3, z10, Bool.false_eq_true, e_argi, e_argr, e_argn, zld_c, zst_n, zst_c, zpick_n, zpick_c, List.drop_succ_cons, List.drop_zero, List.take_succ_cons, List.take_zero, List.length_cons, List.length_nil, List.reverse_cons, List.reverse_nil, List.nil_append, List.cons_append, List.append_nil, List.getElem?_cons_zero, List.getElem?_cons_succ, List.set_cons_zero, List.set_cons_succ, Nat.add_sub_cancel_left, Nat.sub_self, Nat.add_zero, Nat.zero_add, Nat.le_add_right, Nat.le_refl, true_and, and_true, va_rf, zok, Nat.add_left_cancel_iff, Nat.add_eq_left, Nat.left_eq_add, eq_self, if_true, if_false, not_false_eq_true, not_true_eq_false, false_implies, true_implies, Nat.reduceEqDiff, Nat.reduceAdd, Nat.reduceLT, Nat.reduceLeDiff, reduceIte, zB0, e0, N0, N1, N2, N3, N4, N5, N6, N7, N11, N12, N13, N14, N15, N16, N58, N59, N63, N64, N65, N112]
  refine ⟨_, _, _, _, x, y, rfl, hp2, ?_⟩
  by_cases q1 : zisA D.1 C.1 x y = true
  · obtain ⟨r, q, hr, hq, hne, rfl, rfl, hrb, hqb⟩ := zisA_t q1 hn1
    simp only [q1, if_true, zcl_i (show r < 2 ^ 31 by omega), zcl_i (show q < 2 ^ 31 by omega)] at hP
    have loop : ∀ (d k : Nat) (hd : d + k = 10), P (some (.int (zrv (zfind (fun s => decide (zwho D.1 D.2.1 C.1 r s 0 = some q)) k d)))) E → A 13 [(0, .ref b), (1, .int (nI r)), (2, .int (nI q)), (3, .int (nI k))] [] 0 0 E := by
      intro d
      induction d with
      | zero =>
        intro k hd hP
        obtain rfl : k = 10 := by omega
        apply hA
        have clt : nI 9 < nI 10 := by decide
        simp only [B_X5_chair_0, B_X5_chair_13, e_cut, e_iload, e_aload, e_istore, e_astore, e_iinc, e_const, e_lconst, e_bin, e_bin0, e_un, e_ladd, e_dupi, e_dupr, e_dup2, e_pop, e_if, e_icmp, e_sw, e_sw0, e_sw1, e_get, e_put, e_ald, e_ast, e_aald, e_aast, e_copy, e_new, e_newa, e_anewa, e_min, e_abs, e_oinit, e_callI, e_callV, e_callS, e_iret, e_zret, e_lret, e_vret, e_tl1, e_tl0, e_tl2, e_tl3, z10, Bool.false_eq_true, e_argi, e_argr, e_argn, zld_c, zst_n, zst_c, zpick_n, zpick_c, List.drop_succ_cons, List.drop_zero, List.take_succ_cons, List.take_zero, List.length_cons, List.length_nil, List.reverse_cons, List.reverse_nil, List.nil_append, List.cons_append, List.append_nil, List.getElem?_cons_zero, List.getElem?_cons_succ, List.set_cons_zero, List.set_cons_succ, Nat.add_sub_cancel_left, Nat.sub_self, Nat.add_zero, Nat.zero_add, Nat.le_add_right, Nat.le_refl, true_and, and_true, va_rf, zok, Nat.add_left_cancel_iff, Nat.add_eq_left, Nat.left_eq_add, eq_self, if_true, if_false, not_false_eq_true, not_true_eq_false, false_implies, true_implies, Nat.reduceEqDiff, Nat.reduceAdd, Nat.reduceLT, Nat.reduceLeDiff, reduceIte, k9, clt]
        exact hP
      | succ d ih =>
        intro k hd hP
        apply hA
        have clt : ¬ nI 9 < nI k := nI_nlt (by omega) (by omega)
        simp only [B_X5_chair_0, B_X5_chair_13, e_cut, e_iload, e_aload, e_istore, e_astore, e_iinc, e_const, e_lconst, e_bin, e_bin0, e_un, e_ladd, e_dupi, e_dupr, e_dup2, e_pop, e_if, e_icmp, e_sw, e_sw0, e_sw1, e_get, e_put, e_ald, e_ast, e_aald, e_aast, e_copy, e_new, e_newa, e_anewa, e_min, e_abs, e_oinit, e_callI, e_callV, e_callS, e_iret, e_zret, e_lret, e_vret, e_tl1, e_tl0, e_tl2, e_tl3, z10, Bool.false_eq_true, e_argi, e_argr, e_argn, zld_c, zst_n, zst_c, zpick_n, zpick_c, List.drop_succ_cons, List.drop_zero, List.take_succ_cons, List.take_zero, List.length_cons, List.length_nil, List.reverse_cons, List.reverse_nil, List.nil_append, List.cons_append, List.append_nil, List.getElem?_cons_zero, List.getElem?_cons_succ, List.set_cons_zero, List.set_cons_succ, Nat.add_sub_cancel_left, Nat.sub_self, Nat.add_zero, Nat.zero_add, Nat.le_add_right, Nat.le_refl, true_and, and_true, va_rf, zok, Nat.add_left_cancel_iff, Nat.add_eq_left, Nat.left_eq_add, eq_self, if_true, if_false, not_false_eq_true, not_true_eq_false, false_implies, true_implies, Nat.reduceEqDiff, Nat.reduceAdd, Nat.reduceLT, Nat.reduceLeDiff, reduceIte, k9, clt, zB0, e0, N0, N1, N2, N3, N4, N5, N6, N7, N11, N12, N13, N14, N15, N16, N58, N59, N63, N64, N65, N112, e11]
        refine ⟨_, _, _, 12, _, r, k, rfl, hp1, by omega, by omega, ?_⟩
        have hlt : ∀ q, zwho D.1 D.2.1 C.1 r k 0 = some q → q < 6 := zfo_lt6 hn1
        simp only [e_cut, e_iload, e_aload, e_istore, e_astore, e_iinc, e_const, e_lconst, e_bin, e_bin0, e_un, e_ladd, e_dupi, e_dupr, e_dup2, e_pop, e_if, e_icmp, e_sw, e_sw0, e_sw1, e_get, e_put, e_ald, e_ast, e_aald, e_aast, e_copy, e_new, e_newa, e_anewa, e_min, e_abs, e_oinit, e_callI, e_callV, e_callS, e_iret, e_zret, e_lret, e_vret, e_tl1, e_tl0, e_tl2, e_tl3, z10, Bool.false_eq_true, e_argi, e_argr, e_argn, zld_c, zst_n, zst_c, zpick_n, zpick_c, List.drop_succ_cons, List.drop_zero, List.take_succ_cons, List.take_zero, List.length_cons, List.length_nil, List.reverse_cons, List.reverse_nil, List.nil_append, List.cons_append, List.append_nil, List.getElem?_cons_zero, List.getElem?_cons_succ, List.set_cons_zero, List.set_cons_succ, Nat.add_sub_cancel_left, Nat.sub_self, Nat.add_zero, Nat.zero_add, Nat.le_add_right, Nat.le_refl, true_and, and_true, va_rf, zok, Nat.add_left_cancel_iff, Nat.add_eq_left, Nat.left_eq_add, eq_self, if_true, if_false, not_false_eq_true, not_true_eq_false, false_implies, true_implies, Nat.reduceEqDiff, Nat.reduceAdd, Nat.reduceLT, Nat.reduceLeDiff, reduceIte, zrv_eq2 hlt (show q < 6 by omega), nI_1]
        rw [zfind] at hP
        refine ⟨fun c1 => ?_, fun c1 => ?_⟩
        · rw [if_pos (by simp [c1])] at hP; exact hP
        · rw [if_neg (by simp [c1])] at hP; exact ih (k + 1) (by omega) hP
    simp only [e_cut, e_iload, e_aload, e_istore, e_astore, e_iinc, e_const, e_lconst, e_bin, e_bin0, e_un, e_ladd, e_dupi, e_dupr, e_dup2, e_pop, e_if, e_icmp, e_sw, e_sw0, e_sw1, e_get, e_put, e_ald, e_ast, e_aald, e_aast, e_copy, e_new, e_newa, e_anewa, e_min, e_abs, e_oinit, e_callI, e_callV, e_callS, e_iret, e_zret, e_lret, e_vret, e_tl1, e_tl0, e_tl2, e_tl3, z10, Bool.false_eq_true, e_argi, e_argr, e_argn, zld_c, zst_n, zst_c, zpick_n, zpick_c, List.drop_succ_cons, List.drop_zero, List.take_succ_cons, List.take_zero, List.length_cons, List.length_nil, List.reverse_cons, List.reverse_nil, List.nil_append, List.cons_append, List.append_nil, List.getElem?_cons_zero, List.getElem?_cons_succ, List.set_cons_zero, List.set_cons_succ, Nat.add_sub_cancel_left, Nat.sub_self, Nat.add_zero, Nat.zero_add, Nat.le_add_right, Nat.le_refl, true_and, and_true, va_rf, zok, Nat.add_left_cancel_iff, Nat.add_eq_left, Nat.left_eq_add, eq_self, if_true, if_false, not_false_eq_true, not_true_eq_false, false_implies, true_implies, Nat.reduceEqDiff, Nat.reduceAdd, Nat.reduceLT, Nat.reduceLeDiff, reduceIte, q1]
    exact loop 10 0 rfl hP
  · rw [if_neg q1] at hP
    simp only [e_cut, e_iload, e_aload, e_istore, e_astore, e_iinc, e_const, e_lconst, e_bin, e_bin0, e_un, e_ladd, e_dupi, e_dupr, e_dup2, e_pop, e_if, e_icmp, e_sw, e_sw0, e_sw1, e_get, e_put, e_ald, e_ast, e_aald, e_aast, e_copy, e_new, e_newa, e_anewa, e_min, e_abs, e_oinit, e_callI, e_callV, e_callS, e_iret, e_zret, e_lret, e_vret, e_tl1, e_tl0, e_tl2, e_tl3, z10, Bool.false_eq_true, e_argi, e_argr, e_argn, zld_c, zst_n, zst_c, zpick_n, zpick_c, List.drop_succ_cons, List.drop_zero, List.take_succ_cons, List.take_zero, List.length_cons, List.length_nil, List.reverse_cons, List.reverse_nil, List.nil_append, List.cons_append, List.append_nil, List.getElem?_cons_zero, List.getElem?_cons_succ, List.set_cons_zero, List.set_cons_succ, Nat.add_sub_cancel_left, Nat.sub_self, Nat.add_zero, Nat.zero_add, Nat.le_add_right, Nat.le_refl, true_and, and_true, va_rf, zok, Nat.add_left_cancel_iff, Nat.add_eq_left, Nat.left_eq_add, eq_self, if_true, if_false, not_false_eq_true, not_true_eq_false, false_implies, true_implies, Nat.reduceEqDiff, Nat.reduceAdd, Nat.reduceLT, Nat.reduceLeDiff, reduceIte, q1]
    exact hP
set_option maxRecDepth 20000 in
theorem f_X5_chair_29 : Cond.fieldLink RX5 29 (TX5 3).1 (TX5 3).2.1 (TX5 3).2.2.1 ∈ wsX5_chair := by decide +kernel
set_option maxRecDepth 20000 in
theorem k_X5_chair_5 : ∀ w ∈ u_ws RX5 TX5 11, w ∈ wsX5_chair := fun _ h => List.mem_cons_of_mem _ (List.mem_append_left _ (List.mem_append_left _ (List.mem_append_left _ (List.mem_append_right _ h))))
set_option maxRecDepth 20000 in
theorem f_X5_chair_76 : Cond.fieldLink RX5 76 (TX0 0).1 (TX0 0).2.1 (TX0 0).2.2.1 ∈ wsX5_chair := by decide +kernel
set_option maxRecDepth 20000 in
theorem k_X5_chair_0 : ∀ w ∈ u_ws RX0 TX0 2, w ∈ wsX5_chair := fun _ h => List.mem_cons_of_mem _ (List.mem_append_left _ (List.mem_append_left _ (List.mem_append_right _ h)))
set_option maxRecDepth 100000 in
set_option maxHeartbeats 4000000 in
theorem S_X5_chair_13 {p : Program} {e : Env} {s : State} {m : MethodId} {args : Array Value} {below : List Frame} {meth : Method} {c : Code} {D : va_G} {cy : zY} {b n0 : Nat} {P : zPo} (la : Launch) (X : zX p la e (rm_X5_chair) s m args below meth c 4 D cy b n0 cX5_chair wsX5_chair RX5) (hr : meth.sig.returnType = (some .int)) (h_X5_isPairAboard : zMet la yX5_isPairAboard wsX5_isPairAboard rm_X5_isPairAboard 0 0 sp_X5_isPairAboard) (h_X5_nearest : zMet la yX5_nearest wsX5_nearest rm_X5_nearest 0 0 sp_X5_nearest) : zS p la e (rm_X5_chair) s m args below meth c (MQ below (zQ D b (n0 + 0) P) args s 0 0 (fun q => b ≤ q)) 4 D b n0 13 (B_X5_chair_13 b n0 cy P (zAt p la e (rm_X5_chair) s m args below meth c (MQ below (zQ D b (n0 + 0) P) args s 0 0 (fun q => b ≤ q)) 4 D b n0)) := by
  unfold B_X5_chair_13
  exact (s_iload_n X dX5_chair_13 rfl (s_bipush X dX5_chair_14 (by decide) (s_icmp_gt X dX5_chair_16 (by decide) (s_bipush X dX5_chair_44 (by decide) (s_iret X dX5_chair_46 hr)) (s_aload_n X dX5_chair_19 rfl (s_aload_n X dX5_chair_20 rfl (s_get X dX5_chair_21 rfl k_X5_chair_5 (by decide) f_X5_chair_29 (s_get X dX5_chair_24 rfl k_X5_chair_0 (by decide) f_X5_chair_76 (s_iload_n X dX5_chair_27 rfl (s_iload_n X dX5_chair_28 rfl (s_callV X h_X5_nearest dX5_chair_29 rfl gX5_chair_X5_nearest rfl rfl rfl (by decide +kernel) ⟨by decide, by decide⟩ (s_iload_n X dX5_chair_32 rfl (s_icmp_ne X dX5_chair_33 (by decide) (s_iinc X dX5_chair_38 (by decide) (by decide) (s_goto X dX5_chair_41 (by decide) (s_cut (by decide) zS_at))) (s_iload_n X dX5_chair_36 rfl (s_iret X dX5_chair_37 hr))))))))))))))
set_option maxRecDepth 100000 in
set_option maxHeartbeats 4000000 in
theorem S_X5_chair_0 {p : Program} {e : Env} {s : State} {m : MethodId} {args : Array Value} {below : List Frame} {meth : Method} {c : Code} {D : va_G} {cy : zY} {b n0 : Nat} {P : zPo} (la : Launch) (X : zX p la e (rm_X5_chair) s m args below meth c 4 D cy b n0 cX5_chair wsX5_chair RX5) (hr : meth.sig.returnType = (some .int)) (h_X5_isPairAboard : zMet la yX5_isPairAboard wsX5_isPairAboard rm_X5_isPairAboard 0 0 sp_X5_isPairAboard) (h_X5_nearest : zMet la yX5_nearest wsX5_nearest rm_X5_nearest 0 0 sp_X5_nearest) : zS p la e (rm_X5_chair) s m args below meth c (MQ below (zQ D b (n0 + 0) P) args s 0 0 (fun q => b ≤ q)) 4 D b n0 0 (B_X5_chair_0 b n0 cy P (zAt p la e (rm_X5_chair) s m args below meth c (MQ below (zQ D b (n0 + 0) P) args s 0 0 (fun q => b ≤ q)) 4 D b n0)) := by
  unfold B_X5_chair_0
  exact (s_aload_n X dX5_chair_0 rfl (s_iload_n X dX5_chair_1 rfl (s_iload_n X dX5_chair_2 rfl (s_callV X h_X5_isPairAboard dX5_chair_3 rfl gX5_chair_X5_isPairAboard rfl rfl rfl (by decide +kernel) ⟨by decide, by decide⟩ (s_if_ne X dX5_chair_6 (by decide) (s_iconst X dX5_chair_11 (by decide) (s_istore_n X dX5_chair_12 rfl (by decide) (s_cut (by decide) zS_at))) (s_iconst X dX5_chair_9 (by decide) (s_iret X dX5_chair_10 hr)))))))
theorem w_X5_chair (la : Launch) (h_X5_isPairAboard : zMet la yX5_isPairAboard wsX5_isPairAboard rm_X5_isPairAboard 0 0 sp_X5_isPairAboard) (h_X5_nearest : zMet la yX5_nearest wsX5_nearest rm_X5_nearest 0 0 sp_X5_nearest) (sp : zSp) (vc : zVC_X5_chair sp) : zMet la yX5_chair wsX5_chair (rm_X5_chair) 0 0 sp :=
  z_of (cc := cX5_chair) (maxL := 4) (ret := (some .int)) (by decide +kernel) rfl (fun p e s m args below meth c D cy b n as E P hsp X hr hin => by
    obtain ⟨h1, h2⟩ := vc b cy n as E P (zAt p la e (rm_X5_chair) s m args below meth c (MQ below (zQ D b (n + 0) P) args s 0 0 (fun q => b ≤ q)) 4 D b n) (fun _ _ _ _ _ q => S_X5_chair_13 la X hr h_X5_isPairAboard h_X5_nearest _ _ _ _ _ q) hsp
    exact ⟨h1, S_X5_chair_0 la X hr h_X5_isPairAboard h_X5_nearest _ _ _ _ _ h2⟩)

theorem m_X5_chair (la : Launch) : zMet la yX5_chair wsX5_chair rm_X5_chair 0 0 sp_X5_chair := w_X5_chair la (m_X5_isPairAboard la) (m_X5_nearest la) _ vc_X5_chair
/-- only what was seen has changed (and the numbers at 0) -/
theorem zBC.sn {b : Nat} {cy : zY} {E E' : zE} {T : zT} {D : zD} {C : zCar} {I : zIg} {S S' : zSe} {tr : Int64} (h : zBC b cy E (T, D, C, I, S, tr)) (h0' : E' 0 = zB0 b (nI (zkm I)) (nI S'.1) tr) (hS : zSn b cy E' S'.1 S'.2.1 S'.2.2) (hE : ∀ j, j ≠ 0 → j ≠ 63 → j ≠ 64 → E' j = E j) : zBC b cy E' (T, D, C, I, S', tr) := by
  obtain ⟨h0, h1, ⟨seat, items, h2⟩, h3, h4, ⟨f, h5, h6, h7⟩, h8, h9, h10, h11⟩ := h
  exact ⟨h0', h1.congr (fun j _ _ => hE j (by omega) (by omega) (by omega)), ⟨seat, items, h2.congr (fun j _ _ => hE j (by omega) (by omega) (by omega))⟩, h3.congr (fun j _ _ => hE j (by omega) (by omega) (by omega)), h4.congr (fun j _ _ => hE j (by omega) (by omega) (by omega)), ⟨f, by rw [hE _ (by omega) (by omega) (by omega)]; exact h5, h6, h7⟩, h8.congr (fun j _ _ => hE j (by omega) (by omega) (by omega)), hS, h10.congr (fun j _ _ => hE j (by omega) (by omega) (by omega)), h11.congr (fun j _ _ => hE j (by omega) (by omega) (by omega))⟩
def sp_X5_saw : zSp := fun b cy as N E P => ∃ x y : Int32, zPX (op_saw x y) [.int x, .int y] b cy as N E P
abbrev rm_X5_saw : Room := { frames := 4, cells := 0, slots := 0, locals := 105 }
def B_X5_saw_0 (b n0 : Nat) (cy : zY) (P : zPo) (A : Nat → zC) : zC :=
  z_aload 0 (z_iload 1 (z_iload 2 (z_callV b n0 0 0 cy 5 2 0 0 sp_X5_isPairAboard (z_if (fun x => x = 0) (z_const (-1) (z_iret 0 0 P)) (z_aload 0 (z_get b n0 5 9 (z_const (6) (z_icmp (fun x y => x < y) (z_aload 0 (z_get b n0 5 7 (z_aload 0 (z_get b n0 5 9 (z_iload 1 (z_ast b n0 (cy 1) (fun x => x) (z_aload 0 (z_get b n0 5 8 (z_aload 0 (z_get b n0 5 9 (z_iload 2 (z_ast b n0 (cy 1) (fun x => x) (z_aload 0 (z_dup (z_get b n0 5 9 (z_const (1) (z_bin (fun x y => x + y) (z_put b n0 5 9 0 (z_aload 0 (z_get b n0 5 9 (z_iret 0 0 P))))))))))))))))))))) (z_const (-3) (z_iret 0 0 P))))))))))
def zVC_X5_saw (sp : zSp) : Prop := ∀ (b : Nat) (cy : zY) (n : Nat) (as : List Value) (E : zE) (P : zPo) (A : Nat → zC), sp b cy as n E P → zgood as 3 ∧ B_X5_saw_0 b n cy P A (lv_args 0 as) [] 0 0 E

set_option maxRecDepth 100000 in
set_option maxHeartbeats 4000000 in
theorem vc_X5_saw : zVC_X5_saw sp_X5_saw := by
  intro b cy N as E P A hsp
  obtain ⟨x, y, K, ⟨T, D, C, I, S, tr⟩, rfl, hbc, hok, hK, hN, hP⟩ := hsp
  refine ⟨⟨Nat.le_of_ble_eq_true rfl, zg1 rfl (zg1 rfl (zg1 rfl (zg0)))⟩, ?_⟩
  obtain ⟨e0, hTx, ⟨seat, items, hTo⟩, hDr, hIm, hIs, hAh, hSn, hI0, hI1⟩ := id hbc
  have hp2 := hbc.p2 hok hN
  obtain ⟨hp1, e11⟩ := id hp2
  obtain ⟨hR, hmo, hmk, hi12, _⟩ := id hp1
  obtain ⟨hn1, mf, mg, mh, m0, m1, m2, m3, hmf, hmg, hmh⟩ := id hmo
  obtain ⟨_, tf, tg, th, t0, t1, t2, t3, htf, htg, hth⟩ := id hTo
  replace m1 : E 13 = _ := m1
  replace m2 : E 14 = _ := m2
  replace m3 : E 15 = _ := m3
  replace t1 : E 4 = _ := t1
  replace t2 : E 5 = _ := t2
  replace t3 : E 6 = _ := t3
  have hpa : zPa b cy E 16 D.1 C.2.1 C.2.2 := hIm.2.2
  have hlo := hok.2.1
  have N0 : 0 < N := by omega
  have N1 : 1 < N := by omega
  have N2 : 2 < N := by omega
  have N3 : 3 < N := by omega
  have N4 : 4 < N := by omega
  have N5 : 5 < N := by omega
  have N6 : 6 < N := by omega
  have N7 : 7 < N := by omega
  have N11 : 11 < N := by omega
  have N12 : 12 < N := by omega
  have N13 : 13 < N := by omega
  have N14 : 14 < N := by omega
  have N15 : 15 < N := by omega
  have N16 : 16 < N := by omega
  have N58 : 58 < N := by omega
  have N59 : 59 < N := by omega
  have N63 : 63 < N := by omega
  have N64 : 64 < N := by omega
  have N65 : 65 < N := by omega
  have N112 : 112 < N := by omega
  obtain ⟨hcnt, _, sf, sg, s63, s64, hs⟩ := id hSn
  simp only [op_saw] at hP
  have k6 : (6 : Int32) = nI 6 := rfl
  simp only [B_X5_saw_0, e_cut, e_iload, e_aload, e_istore, e_astore, e_iinc, e_const, e_lconst, e_bin, e_bin0, e_un, e_ladd, e_dupi, e_dupr, e_dup2, e_pop, e_if, e_icmp, e_sw, e_sw0, e_sw1, e_get, e_put, e_ald, e_ast, e_aald, e_aast, e_copy, e_new, e_newa, e_anewa, e_min, e_abs, e_oinit, e_callI, e_callV, e_callS, e_iret, e_zret, e_lret, e_vret, e_tl1, e_tl0, e_tl2, e_tl3, z10, Bool.false_eq_true, e_argi, e_argr, e_argn, zld_c, zst_n, zst_c, zpick_n, zpick_c, List.drop_succ_cons, List.drop_zero, List.take_succ_cons, List.take_zero, List.length_cons, List.length_nil, List.reverse_cons, List.reverse_nil, List.nil_append, List.cons_append, List.append_nil, List.getElem?_cons_zero, List.getElem?_cons_succ, List.set_cons_zero, List.set_cons_succ, Nat.add_sub_cancel_left, Nat.sub_self, Nat.add_zero, Nat.zero_add, Nat.le_add_right, Nat.le_refl, true_and, and_true, va_rf, zok, Nat.add_left_cancel_iff, Nat.add_eq_left, Nat.left_eq_add, eq_self, if_true, if_false, not_false_eq_true, not_true_eq_false, false_implies, true_implies, Nat.reduceEqDiff, Nat.reduceAdd, Nat.reduceLT, Nat.reduceLeDiff, reduceIte, zB0, e0, N0, N1, N2, N3, N4, N5, N6, N7, N11, N12, N13, N14, N15, N16, N58, N59, N63, N64, N65, N112]
  refine ⟨_, _, _, _, x, y, rfl, hp2, ?_⟩
  by_cases q1 : zisA D.1 C.1 x y = true
  · obtain ⟨r, q, hr, hq, hne, rfl, rfl, hrb, hqb⟩ := zisA_t q1 hn1
    rw [if_pos q1] at hP
    simp only [zcl_i (show r < 2 ^ 31 by omega), zcl_i (show q < 2 ^ 31 by omega)] at hP
    simp only [e_cut, e_iload, e_aload, e_istore, e_astore, e_iinc, e_const, e_lconst, e_bin, e_bin0, e_un, e_ladd, e_dupi, e_dupr, e_dup2, e_pop, e_if, e_icmp, e_sw, e_sw0, e_sw1, e_get, e_put, e_ald, e_ast, e_aald, e_aast, e_copy, e_new, e_newa, e_anewa, e_min, e_abs, e_oinit, e_callI, e_callV, e_callS, e_iret, e_zret, e_lret, e_vret, e_tl1, e_tl0, e_tl2, e_tl3, z10, Bool.false_eq_true, e_argi, e_argr, e_argn, zld_c, zst_n, zst_c, zpick_n, zpick_c, List.drop_succ_cons, List.drop_zero, List.take_succ_cons, List.take_zero, List.length_cons, List.length_nil, List.reverse_cons, List.reverse_nil, List.nil_append, List.cons_append, List.append_nil, List.getElem?_cons_zero, List.getElem?_cons_succ, List.set_cons_zero, List.set_cons_succ, Nat.add_sub_cancel_left, Nat.sub_self, Nat.add_zero, Nat.zero_add, Nat.le_add_right, Nat.le_refl, true_and, and_true, va_rf, zok, Nat.add_left_cancel_iff, Nat.add_eq_left, Nat.left_eq_add, eq_self, if_true, if_false, not_false_eq_true, not_true_eq_false, false_implies, true_implies, Nat.reduceEqDiff, Nat.reduceAdd, Nat.reduceLT, Nat.reduceLeDiff, reduceIte, q1, zB0, e0, N0, N1, N2, N3, N4, N5, N6, N7, N11, N12, N13, N14, N15, N16, N58, N59, N63, N64, N65, N112, k6, nI_ltI (show S.1 < 2 ^ 31 by omega) (show 6 < 2 ^ 31 by omega)]
    refine ⟨fun c1 => ?_, fun c1 => ?_⟩
    · rw [if_pos c1] at hP
      have hin : vp_in (nI S.1) 6 := vp_in_nI c1 (by omega)
      have hcl : (nI S.1).toNatClampNeg = S.1 := nI_clamp (by omega)
      simp only [e_cut, e_iload, e_aload, e_istore, e_astore, e_iinc, e_const, e_lconst, e_bin, e_bin0, e_un, e_ladd, e_dupi, e_dupr, e_dup2, e_pop, e_if, e_icmp, e_sw, e_sw0, e_sw1, e_get, e_put, e_ald, e_ast, e_aald, e_aast, e_copy, e_new, e_newa, e_anewa, e_min, e_abs, e_oinit, e_callI, e_callV, e_callS, e_iret, e_zret, e_lret, e_vret, e_tl1, e_tl0, e_tl2, e_tl3, z10, Bool.false_eq_true, e_argi, e_argr, e_argn, zld_c, zst_n, zst_c, zpick_n, zpick_c, List.drop_succ_cons, List.drop_zero, List.take_succ_cons, List.take_zero, List.length_cons, List.length_nil, List.reverse_cons, List.reverse_nil, List.nil_append, List.cons_append, List.append_nil, List.getElem?_cons_zero, List.getElem?_cons_succ, List.set_cons_zero, List.set_cons_succ, Nat.add_sub_cancel_left, Nat.sub_self, Nat.add_zero, Nat.zero_add, Nat.le_add_right, Nat.le_refl, true_and, and_true, va_rf, zok, Nat.add_left_cancel_iff, Nat.add_eq_left, Nat.left_eq_add, eq_self, if_true, if_false, not_false_eq_true, not_true_eq_false, false_implies, true_implies, Nat.reduceEqDiff, Nat.reduceAdd, Nat.reduceLT, Nat.reduceLeDiff, reduceIte, zB0, e0, N0, N1, N2, N3, N4, N5, N6, N7, N11, N12, N13, N14, N15, N16, N58, N59, N63, N64, N65, N112, s63, s64, hin, hcl, e_up, nI_1]
      refine hP _ (hbc.sn (S' := (S.1 + 1, zup S.2.1 S.1 r, zup S.2.2 S.1 q)) ?_ ⟨by show S.1 + 1 ≤ 6; omega, ⟨nI (zkm I), tr, ?_⟩, upd sf S.1 (nI r), upd sg S.1 (nI q), ?_, ?_, fun k hk => ?_⟩ (fun j h1 h2 h3 => ?_)) (fun j hj => ?_)
      · simp [e_up, zB0]
      · simp [e_up, zB0]
      · simp [e_up]
      · simp [e_up]
      · show zup S.2.1 S.1 r k < 6 ∧ zup S.2.2 S.1 q k < 6 ∧ upd sf S.1 (nI r) k = nI (zup S.2.1 S.1 r k) ∧ upd sg S.1 (nI q) k = nI (zup S.2.2 S.1 q k)
        replace hk : k < S.1 + 1 := hk
        simp only [zup, upd]
        by_cases h : k = S.1
        · rw [if_pos h, if_pos h, if_pos h, if_pos h]; exact ⟨by omega, by omega, rfl, rfl⟩
        · rw [if_neg h, if_neg h, if_neg h, if_neg h]; exact hs k (by omega)
      · simp only [e_up]; rw [if_neg h1, if_neg h3, if_neg h2]
      · simp only [e_up]; rw [if_neg (by omega), if_neg (by omega), if_neg (by omega)]
    · rw [if_neg c1] at hP
      exact hP E hbc (fun _ _ => rfl)
  · rw [if_neg q1] at hP
    simp only [e_cut, e_iload, e_aload, e_istore, e_astore, e_iinc, e_const, e_lconst, e_bin, e_bin0, e_un, e_ladd, e_dupi, e_dupr, e_dup2, e_pop, e_if, e_icmp, e_sw, e_sw0, e_sw1, e_get, e_put, e_ald, e_ast, e_aald, e_aast, e_copy, e_new, e_newa, e_anewa, e_min, e_abs, e_oinit, e_callI, e_callV, e_callS, e_iret, e_zret, e_lret, e_vret, e_tl1, e_tl0, e_tl2, e_tl3, z10, Bool.false_eq_true, e_argi, e_argr, e_argn, zld_c, zst_n, zst_c, zpick_n, zpick_c, List.drop_succ_cons, List.drop_zero, List.take_succ_cons, List.take_zero, List.length_cons, List.length_nil, List.reverse_cons, List.reverse_nil, List.nil_append, List.cons_append, List.append_nil, List.getElem?_cons_zero, List.getElem?_cons_succ, List.set_cons_zero, List.set_cons_succ, Nat.add_sub_cancel_left, Nat.sub_self, Nat.add_zero, Nat.zero_add, Nat.le_add_right, Nat.le_refl, true_and, and_true, va_rf, zok, Nat.add_left_cancel_iff, Nat.add_eq_left, Nat.left_eq_add, eq_self, if_true, if_false, not_false_eq_true, not_true_eq_false, false_implies, true_implies, Nat.reduceEqDiff, Nat.reduceAdd, Nat.reduceLT, Nat.reduceLeDiff, reduceIte, q1]
    exact hP E hbc (fun _ _ => rfl)
set_option maxRecDepth 20000 in
theorem f_X5_saw_194 : Cond.fieldLink RX5 194 (TX5 9).1 (TX5 9).2.1 (TX5 9).2.2.1 ∈ wsX5_saw := by decide +kernel
set_option maxRecDepth 20000 in
theorem k_X5_saw_5 : ∀ w ∈ u_ws RX5 TX5 11, w ∈ wsX5_saw := fun _ h => List.mem_cons_of_mem _ (List.mem_append_left _ (List.mem_append_left _ (List.mem_append_left _ (List.mem_append_right _ h))))
set_option maxRecDepth 20000 in
theorem f_X5_saw_44 : Cond.fieldLink RX5 44 (TX5 7).1 (TX5 7).2.1 (TX5 7).2.2.1 ∈ wsX5_saw := by decide +kernel
set_option maxRecDepth 20000 in
theorem f_X5_saw_48 : Cond.fieldLink RX5 48 (TX5 8).1 (TX5 8).2.1 (TX5 8).2.2.1 ∈ wsX5_saw := by decide +kernel
set_option maxRecDepth 100000 in
set_option maxHeartbeats 4000000 in
theorem S_X5_saw_0 {p : Program} {e : Env} {s : State} {m : MethodId} {args : Array Value} {below : List Frame} {meth : Method} {c : Code} {D : va_G} {cy : zY} {b n0 : Nat} {P : zPo} (la : Launch) (X : zX p la e (rm_X5_saw) s m args below meth c 3 D cy b n0 cX5_saw wsX5_saw RX5) (hr : meth.sig.returnType = (some .int)) (h_X5_isPairAboard : zMet la yX5_isPairAboard wsX5_isPairAboard rm_X5_isPairAboard 0 0 sp_X5_isPairAboard) : zS p la e (rm_X5_saw) s m args below meth c (MQ below (zQ D b (n0 + 0) P) args s 0 0 (fun q => b ≤ q)) 3 D b n0 0 (B_X5_saw_0 b n0 cy P (zAt p la e (rm_X5_saw) s m args below meth c (MQ below (zQ D b (n0 + 0) P) args s 0 0 (fun q => b ≤ q)) 3 D b n0)) := by
  unfold B_X5_saw_0
  exact (s_aload_n X dX5_saw_0 rfl (s_iload_n X dX5_saw_1 rfl (s_iload_n X dX5_saw_2 rfl (s_callV X h_X5_isPairAboard dX5_saw_3 rfl gX5_saw_X5_isPairAboard rfl rfl rfl (by decide +kernel) ⟨by decide, by decide⟩ (s_if_ne X dX5_saw_6 (by decide) (s_aload_n X dX5_saw_11 rfl (s_get X dX5_saw_12 rfl k_X5_saw_5 (by decide) f_X5_saw_194 (s_bipush X dX5_saw_15 (by decide) (s_icmp_lt X dX5_saw_17 (by decide) (s_aload_n X dX5_saw_23 rfl (s_get X dX5_saw_24 rfl k_X5_saw_5 (by decide) f_X5_saw_44 (s_aload_n X dX5_saw_27 rfl (s_get X dX5_saw_28 rfl k_X5_saw_5 (by decide) f_X5_saw_194 (s_iload_n X dX5_saw_31 rfl (s_iast X dX5_saw_32 (s_aload_n X dX5_saw_33 rfl (s_get X dX5_saw_34 rfl k_X5_saw_5 (by decide) f_X5_saw_48 (s_aload_n X dX5_saw_37 rfl (s_get X dX5_saw_38 rfl k_X5_saw_5 (by decide) f_X5_saw_194 (s_iload_n X dX5_saw_41 rfl (s_iast X dX5_saw_42 (s_aload_n X dX5_saw_43 rfl (s_dup X dX5_saw_44 (s_get X dX5_saw_45 rfl k_X5_saw_5 (by decide) f_X5_saw_194 (s_iconst X dX5_saw_48 (by decide) (s_iadd X dX5_saw_49 (s_put X dX5_saw_50 rfl k_X5_saw_5 tyX5_ok nmX5 (by decide) f_X5_saw_194 rfl (tyX5_ok 9 (by decide)) zok_int (s_aload_n X dX5_saw_53 rfl (s_get X dX5_saw_54 rfl k_X5_saw_5 (by decide) f_X5_saw_194 (s_iret X dX5_saw_57 hr))))))))))))))))))))) (s_bipush X dX5_saw_20 (by decide) (s_iret X dX5_saw_22 hr)))))) (s_iconst X dX5_saw_9 (by decide) (s_iret X dX5_saw_10 hr)))))))
theorem w_X5_saw (la : Launch) (h_X5_isPairAboard : zMet la yX5_isPairAboard wsX5_isPairAboard rm_X5_isPairAboard 0 0 sp_X5_isPairAboard) (sp : zSp) (vc : zVC_X5_saw sp) : zMet la yX5_saw wsX5_saw (rm_X5_saw) 0 0 sp :=
  z_of (cc := cX5_saw) (maxL := 3) (ret := (some .int)) (by decide +kernel) rfl (fun p e s m args below meth c D cy b n as E P hsp X hr hin => by
    obtain ⟨h1, h2⟩ := vc b cy n as E P (zAt p la e (rm_X5_saw) s m args below meth c (MQ below (zQ D b (n + 0) P) args s 0 0 (fun q => b ≤ q)) 3 D b n) hsp
    exact ⟨h1, S_X5_saw_0 la X hr h_X5_isPairAboard _ _ _ _ _ h2⟩)

theorem m_X5_saw (la : Launch) : zMet la yX5_saw wsX5_saw rm_X5_saw 0 0 sp_X5_saw := w_X5_saw la (m_X5_isPairAboard la) _ vc_X5_saw
def sp_X5_forget : zSp := fun b cy as N E P => zPX op_forget [] b cy as N E P
abbrev rm_X5_forget : Room := { frames := 1, cells := 0, slots := 0, locals := 40 }
def B_X5_forget_0 (b n0 : Nat) (cy : zY) (P : zPo) (A : Nat → zC) : zC :=
  z_aload 0 (z_get b n0 5 9 (z_istore 1 (z_aload 0 (z_const (0) (z_put b n0 5 9 0 (z_iload 1 (z_iret 0 0 P)))))))
def zVC_X5_forget (sp : zSp) : Prop := ∀ (b : Nat) (cy : zY) (n : Nat) (as : List Value) (E : zE) (P : zPo) (A : Nat → zC), sp b cy as n E P → zgood as 2 ∧ B_X5_forget_0 b n cy P A (lv_args 0 as) [] 0 0 E

set_option maxRecDepth 100000 in
set_option maxHeartbeats 4000000 in
theorem vc_X5_forget : zVC_X5_forget sp_X5_forget := by
  intro b cy N as E P A hsp
  obtain ⟨K, ⟨T, D, C, I, S, tr⟩, rfl, hbc, hok, hK, hN, hP⟩ := hsp
  refine ⟨⟨Nat.le_of_ble_eq_true rfl, zg1 rfl (zg0)⟩, ?_⟩
  obtain ⟨e0, hTx, ⟨seat, items, hTo⟩, hDr, hIm, hIs, hAh, hSn, hI0, hI1⟩ := id hbc
  have hp2 := hbc.p2 hok hN
  obtain ⟨hp1, e11⟩ := id hp2
  obtain ⟨hR, hmo, hmk, hi12, _⟩ := id hp1
  obtain ⟨hn1, mf, mg, mh, m0, m1, m2, m3, hmf, hmg, hmh⟩ := id hmo
  obtain ⟨_, tf, tg, th, t0, t1, t2, t3, htf, htg, hth⟩ := id hTo
  replace m1 : E 13 = _ := m1
  replace m2 : E 14 = _ := m2
  replace m3 : E 15 = _ := m3
  replace t1 : E 4 = _ := t1
  replace t2 : E 5 = _ := t2
  replace t3 : E 6 = _ := t3
  have hpa : zPa b cy E 16 D.1 C.2.1 C.2.2 := hIm.2.2
  have hlo := hok.2.1
  have N0 : 0 < N := by omega
  have N1 : 1 < N := by omega
  have N2 : 2 < N := by omega
  have N3 : 3 < N := by omega
  have N4 : 4 < N := by omega
  have N5 : 5 < N := by omega
  have N6 : 6 < N := by omega
  have N7 : 7 < N := by omega
  have N11 : 11 < N := by omega
  have N12 : 12 < N := by omega
  have N13 : 13 < N := by omega
  have N14 : 14 < N := by omega
  have N15 : 15 < N := by omega
  have N16 : 16 < N := by omega
  have N58 : 58 < N := by omega
  have N59 : 59 < N := by omega
  have N63 : 63 < N := by omega
  have N64 : 64 < N := by omega
  have N65 : 65 < N := by omega
  have N112 : 112 < N := by omega
  obtain ⟨hcnt, _, sf, sg, s63, s64, hs⟩ := id hSn
  simp only [op_forget] at hP
  simp only [B_X5_forget_0, e_cut, e_iload, e_aload, e_istore, e_astore, e_iinc, e_const, e_lconst, e_bin, e_bin0, e_un, e_ladd, e_dupi, e_dupr, e_dup2, e_pop, e_if, e_icmp, e_sw, e_sw0, e_sw1, e_get, e_put, e_ald, e_ast, e_aald, e_aast, e_copy, e_new, e_newa, e_anewa, e_min, e_abs, e_oinit, e_callI, e_callV, e_callS, e_iret, e_zret, e_lret, e_vret, e_tl1, e_tl0, e_tl2, e_tl3, z10, Bool.false_eq_true, e_argi, e_argr, e_argn, zld_c, zst_n, zst_c, zpick_n, zpick_c, List.drop_succ_cons, List.drop_zero, List.take_succ_cons, List.take_zero, List.length_cons, List.length_nil, List.reverse_cons, List.reverse_nil, List.nil_append, List.cons_append, List.append_nil, List.getElem?_cons_zero, List.getElem?_cons_succ, List.set_cons_zero, List.set_cons_succ, Nat.add_sub_cancel_left, Nat.sub_self, Nat.add_zero, Nat.zero_add, Nat.le_add_right, Nat.le_refl, true_and, and_true, va_rf, zok, Nat.add_left_cancel_iff, Nat.add_eq_left, Nat.left_eq_add, eq_self, if_true, if_false, not_false_eq_true, not_true_eq_false, false_implies, true_implies, Nat.reduceEqDiff, Nat.reduceAdd, Nat.reduceLT, Nat.reduceLeDiff, reduceIte, zB0, e0, N0, N1, N2, N3, N4, N5, N6, N7, N11, N12, N13, N14, N15, N16, N58, N59, N63, N64, N65, N112]
  refine hP _ (hbc.sn (S' := (0, S.2)) ?_ ⟨by show 0 ≤ 6; omega, ⟨nI (zkm I), tr, ?_⟩, sf, sg, ?_, ?_, fun k hk => absurd hk (Nat.not_lt_zero _)⟩ (fun j h1 h2 h3 => ?_)) (fun j hj => ?_)
  · simp [e_up, zB0, nI_0]
  · simp [e_up, zB0, nI_0]
  · simp [e_up, s63]
  · simp [e_up, s64]
  · simp only [e_up]; rw [if_neg h1]
  · simp only [e_up]; rw [if_neg (by omega)]
set_option maxRecDepth 20000 in
theorem f_X5_forget_194 : Cond.fieldLink RX5 194 (TX5 9).1 (TX5 9).2.1 (TX5 9).2.2.1 ∈ wsX5_forget := by decide +kernel
set_option maxRecDepth 20000 in
theorem k_X5_forget_5 : ∀ w ∈ u_ws RX5 TX5 11, w ∈ wsX5_forget := fun _ h => List.mem_cons_of_mem _ (List.mem_append_right _ h)
set_option maxRecDepth 100000 in
set_option maxHeartbeats 4000000 in
theorem S_X5_forget_0 {p : Program} {e : Env} {s : State} {m : MethodId} {args : Array Value} {below : List Frame} {meth : Method} {c : Code} {D : va_G} {cy : zY} {b n0 : Nat} {P : zPo} (la : Launch) (X : zX p la e (rm_X5_forget) s m args below meth c 2 D cy b n0 cX5_forget wsX5_forget RX5) (hr : meth.sig.returnType = (some .int)) : zS p la e (rm_X5_forget) s m args below meth c (MQ below (zQ D b (n0 + 0) P) args s 0 0 (fun q => b ≤ q)) 2 D b n0 0 (B_X5_forget_0 b n0 cy P (zAt p la e (rm_X5_forget) s m args below meth c (MQ below (zQ D b (n0 + 0) P) args s 0 0 (fun q => b ≤ q)) 2 D b n0)) := by
  unfold B_X5_forget_0
  exact (s_aload_n X dX5_forget_0 rfl (s_get X dX5_forget_1 rfl k_X5_forget_5 (by decide) f_X5_forget_194 (s_istore_n X dX5_forget_4 rfl (by decide) (s_aload_n X dX5_forget_5 rfl (s_iconst X dX5_forget_6 (by decide) (s_put X dX5_forget_7 rfl k_X5_forget_5 tyX5_ok nmX5 (by decide) f_X5_forget_194 rfl (tyX5_ok 9 (by decide)) zok_int (s_iload_n X dX5_forget_10 rfl (s_iret X dX5_forget_11 hr))))))))
theorem w_X5_forget (la : Launch) (sp : zSp) (vc : zVC_X5_forget sp) : zMet la yX5_forget wsX5_forget (rm_X5_forget) 0 0 sp :=
  z_of (cc := cX5_forget) (maxL := 2) (ret := (some .int)) (by decide +kernel) rfl (fun p e s m args below meth c D cy b n as E P hsp X hr hin => by
    obtain ⟨h1, h2⟩ := vc b cy n as E P (zAt p la e (rm_X5_forget) s m args below meth c (MQ below (zQ D b (n + 0) P) args s 0 0 (fun q => b ≤ q)) 2 D b n) hsp
    exact ⟨h1, S_X5_forget_0 la X hr _ _ _ _ _ h2⟩)

theorem m_X5_forget (la : Launch) : zMet la yX5_forget wsX5_forget rm_X5_forget 0 0 sp_X5_forget := w_X5_forget la _ vc_X5_forget
def sp_X5_laws : zSp := fun b cy as N E P => ∃ x : Int32, zPX (op_laws x) [.int x] b cy as N E P
abbrev rm_X5_laws : Room := { frames := 6, cells := 0, slots := 0, locals := 158 }
def B_X5_laws_17 (b n0 : Nat) (cy : zY) (P : zPo) (A : Nat → zC) : zC :=
  z_iret 0 0 P
def B_X5_laws_0 (b n0 : Nat) (cy : zY) (P : zPo) (A : Nat → zC) : zC :=
  z_aload 0 (z_iload 1 (z_callV b n0 0 0 cy 5 1 0 0 sp_X5_isRider (z_if (fun x => x = 0) (z_const (-1) (B_X5_laws_17 b n0 cy P A)) (z_aload 0 (z_iload 1 (z_callV b n0 0 0 cy 5 1 0 0 sp_X5_fittingLaws (B_X5_laws_17 b n0 cy P A)))))))
def zVC_X5_laws (sp : zSp) : Prop := ∀ (b : Nat) (cy : zY) (n : Nat) (as : List Value) (E : zE) (P : zPo) (A : Nat → zC), sp b cy as n E P → zgood as 2 ∧ B_X5_laws_0 b n cy P A (lv_args 0 as) [] 0 0 E

set_option maxRecDepth 100000 in
set_option maxHeartbeats 4000000 in
theorem vc_X5_laws : zVC_X5_laws sp_X5_laws := by
  intro b cy N as E P A hsp
  obtain ⟨x, K, ⟨T, D, C, I, S, tr⟩, rfl, hbc, hok, hK, hN, hP⟩ := hsp
  refine ⟨⟨Nat.le_of_ble_eq_true rfl, zg1 rfl (zg1 rfl (zg0))⟩, ?_⟩
  obtain ⟨e0, hTx, ⟨seat, items, hTo⟩, hDr, hIm, hIs, hAh, hSn, hI0, hI1⟩ := id hbc
  have hp2 := hbc.p2 hok hN
  obtain ⟨hp1, e11⟩ := id hp2
  obtain ⟨hR, hmo, hmk, hi12, _⟩ := id hp1
  obtain ⟨hn1, mf, mg, mh, m0, m1, m2, m3, hmf, hmg, hmh⟩ := id hmo
  obtain ⟨_, tf, tg, th, t0, t1, t2, t3, htf, htg, hth⟩ := id hTo
  replace m1 : E 13 = _ := m1
  replace m2 : E 14 = _ := m2
  replace m3 : E 15 = _ := m3
  replace t1 : E 4 = _ := t1
  replace t2 : E 5 = _ := t2
  replace t3 : E 6 = _ := t3
  have hpa : zPa b cy E 16 D.1 C.2.1 C.2.2 := hIm.2.2
  have hlo := hok.2.1
  have N0 : 0 < N := by omega
  have N1 : 1 < N := by omega
  have N2 : 2 < N := by omega
  have N3 : 3 < N := by omega
  have N4 : 4 < N := by omega
  have N5 : 5 < N := by omega
  have N6 : 6 < N := by omega
  have N7 : 7 < N := by omega
  have N11 : 11 < N := by omega
  have N12 : 12 < N := by omega
  have N13 : 13 < N := by omega
  have N14 : 14 < N := by omega
  have N15 : 15 < N := by omega
  have N16 : 16 < N := by omega
  have N58 : 58 < N := by omega
  have N59 : 59 < N := by omega
  have N63 : 63 < N := by omega
  have N64 : 64 < N := by omega
  have N65 : 65 < N := by omega
  have N112 : 112 < N := by omega
  replace hP := hP E hbc (fun _ _ => rfl)
  simp only [op_laws] at hP
  simp only [B_X5_laws_0, B_X5_laws_17, e_cut, e_iload, e_aload, e_istore, e_astore, e_iinc, e_const, e_lconst, e_bin, e_bin0, e_un, e_ladd, e_dupi, e_dupr, e_dup2, e_pop, e_if, e_icmp, e_sw, e_sw0, e_sw1, e_get, e_put, e_ald, e_ast, e_aald, e_aast, e_copy, e_new, e_newa, e_anewa, e_min, e_abs, e_oinit, e_callI, e_callV, e_callS, e_iret, e_zret, e_lret, e_vret, e_tl1, e_tl0, e_tl2, e_tl3, z10, Bool.false_eq_true, e_argi, e_argr, e_argn, zld_c, zst_n, zst_c, zpick_n, zpick_c, List.drop_succ_cons, List.drop_zero, List.take_succ_cons, List.take_zero, List.length_cons, List.length_nil, List.reverse_cons, List.reverse_nil, List.nil_append, List.cons_append, List.append_nil, List.getElem?_cons_zero, List.getElem?_cons_succ, List.set_cons_zero, List.set_cons_succ, Nat.add_sub_cancel_left, Nat.sub_self, Nat.add_zero, Nat.zero_add, Nat.le_add_right, Nat.le_refl, true_and, and_true, va_rf, zok, Nat.add_left_cancel_iff, Nat.add_eq_left, Nat.left_eq_add, eq_self, if_true, if_false, not_false_eq_true, not_true_eq_false, false_implies, true_implies, Nat.reduceEqDiff, Nat.reduceAdd, Nat.reduceLT, Nat.reduceLeDiff, reduceIte, zB0, e0, N0, N1, N2, N3, N4, N5, N6, N7, N11, N12, N13, N14, N15, N16, N58, N59, N63, N64, N65, N112]
  refine ⟨_, _, _, x, rfl, hR, hN, ?_⟩
  by_cases q1 : zisB D.1 x = true
  · obtain ⟨r, hr, rfl⟩ := zisB_t q1 hn1
    rw [if_pos q1, zcl_i (show r < 2 ^ 31 by omega)] at hP
    simp only [e_cut, e_iload, e_aload, e_istore, e_astore, e_iinc, e_const, e_lconst, e_bin, e_bin0, e_un, e_ladd, e_dupi, e_dupr, e_dup2, e_pop, e_if, e_icmp, e_sw, e_sw0, e_sw1, e_get, e_put, e_ald, e_ast, e_aald, e_aast, e_copy, e_new, e_newa, e_anewa, e_min, e_abs, e_oinit, e_callI, e_callV, e_callS, e_iret, e_zret, e_lret, e_vret, e_tl1, e_tl0, e_tl2, e_tl3, z10, Bool.false_eq_true, e_argi, e_argr, e_argn, zld_c, zst_n, zst_c, zpick_n, zpick_c, List.drop_succ_cons, List.drop_zero, List.take_succ_cons, List.take_zero, List.length_cons, List.length_nil, List.reverse_cons, List.reverse_nil, List.nil_append, List.cons_append, List.append_nil, List.getElem?_cons_zero, List.getElem?_cons_succ, List.set_cons_zero, List.set_cons_succ, Nat.add_sub_cancel_left, Nat.sub_self, Nat.add_zero, Nat.zero_add, Nat.le_add_right, Nat.le_refl, true_and, and_true, va_rf, zok, Nat.add_left_cancel_iff, Nat.add_eq_left, Nat.left_eq_add, eq_self, if_true, if_false, not_false_eq_true, not_true_eq_false, false_implies, true_implies, Nat.reduceEqDiff, Nat.reduceAdd, Nat.reduceLT, Nat.reduceLeDiff, reduceIte, q1, zB0, e0, N0, N1, N2, N3, N4, N5, N6, N7, N11, N12, N13, N14, N15, N16, N58, N59, N63, N64, N65, N112]
    refine ⟨_, _, _, _, _, _, _, r, rfl, hp2, hSn, hr, ?_⟩
    simp only [e_cut, e_iload, e_aload, e_istore, e_astore, e_iinc, e_const, e_lconst, e_bin, e_bin0, e_un, e_ladd, e_dupi, e_dupr, e_dup2, e_pop, e_if, e_icmp, e_sw, e_sw0, e_sw1, e_get, e_put, e_ald, e_ast, e_aald, e_aast, e_copy, e_new, e_newa, e_anewa, e_min, e_abs, e_oinit, e_callI, e_callV, e_callS, e_iret, e_zret, e_lret, e_vret, e_tl1, e_tl0, e_tl2, e_tl3, z10, Bool.false_eq_true, e_argi, e_argr, e_argn, zld_c, zst_n, zst_c, zpick_n, zpick_c, List.drop_succ_cons, List.drop_zero, List.take_succ_cons, List.take_zero, List.length_cons, List.length_nil, List.reverse_cons, List.reverse_nil, List.nil_append, List.cons_append, List.append_nil, List.getElem?_cons_zero, List.getElem?_cons_succ, List.set_cons_zero, List.set_cons_succ, Nat.add_sub_cancel_left, Nat.sub_self, Nat.add_zero, Nat.zero_add, Nat.le_add_right, Nat.le_refl, true_and, and_true, va_rf, zok, Nat.add_left_cancel_iff, Nat.add_eq_left, Nat.left_eq_add, eq_self, if_true, if_false, not_false_eq_true, not_true_eq_false, false_implies, true_implies, Nat.reduceEqDiff, Nat.reduceAdd, Nat.reduceLT, Nat.reduceLeDiff, reduceIte, B_X5_laws_0, B_X5_laws_17]
    exact hP
  · rw [if_neg q1] at hP
    simp only [e_cut, e_iload, e_aload, e_istore, e_astore, e_iinc, e_const, e_lconst, e_bin, e_bin0, e_un, e_ladd, e_dupi, e_dupr, e_dup2, e_pop, e_if, e_icmp, e_sw, e_sw0, e_sw1, e_get, e_put, e_ald, e_ast, e_aald, e_aast, e_copy, e_new, e_newa, e_anewa, e_min, e_abs, e_oinit, e_callI, e_callV, e_callS, e_iret, e_zret, e_lret, e_vret, e_tl1, e_tl0, e_tl2, e_tl3, z10, Bool.false_eq_true, e_argi, e_argr, e_argn, zld_c, zst_n, zst_c, zpick_n, zpick_c, List.drop_succ_cons, List.drop_zero, List.take_succ_cons, List.take_zero, List.length_cons, List.length_nil, List.reverse_cons, List.reverse_nil, List.nil_append, List.cons_append, List.append_nil, List.getElem?_cons_zero, List.getElem?_cons_succ, List.set_cons_zero, List.set_cons_succ, Nat.add_sub_cancel_left, Nat.sub_self, Nat.add_zero, Nat.zero_add, Nat.le_add_right, Nat.le_refl, true_and, and_true, va_rf, zok, Nat.add_left_cancel_iff, Nat.add_eq_left, Nat.left_eq_add, eq_self, if_true, if_false, not_false_eq_true, not_true_eq_false, false_implies, true_implies, Nat.reduceEqDiff, Nat.reduceAdd, Nat.reduceLT, Nat.reduceLeDiff, reduceIte, q1, B_X5_laws_0, B_X5_laws_17]
    exact hP
set_option maxRecDepth 100000 in
set_option maxHeartbeats 4000000 in
theorem S_X5_laws_17 {p : Program} {e : Env} {s : State} {m : MethodId} {args : Array Value} {below : List Frame} {meth : Method} {c : Code} {D : va_G} {cy : zY} {b n0 : Nat} {P : zPo} (la : Launch) (X : zX p la e (rm_X5_laws) s m args below meth c 2 D cy b n0 cX5_laws wsX5_laws RX5) (hr : meth.sig.returnType = (some .int)) (h_X5_fittingLaws : zMet la yX5_fittingLaws wsX5_fittingLaws rm_X5_fittingLaws 0 0 sp_X5_fittingLaws) (h_X5_isRider : zMet la yX5_isRider wsX5_isRider rm_X5_isRider 0 0 sp_X5_isRider) : zS p la e (rm_X5_laws) s m args below meth c (MQ below (zQ D b (n0 + 0) P) args s 0 0 (fun q => b ≤ q)) 2 D b n0 17 (B_X5_laws_17 b n0 cy P (zAt p la e (rm_X5_laws) s m args below meth c (MQ below (zQ D b (n0 + 0) P) args s 0 0 (fun q => b ≤ q)) 2 D b n0)) := by
  unfold B_X5_laws_17
  exact (s_iret X dX5_laws_17 hr)
set_option maxRecDepth 100000 in
set_option maxHeartbeats 4000000 in
theorem S_X5_laws_0 {p : Program} {e : Env} {s : State} {m : MethodId} {args : Array Value} {below : List Frame} {meth : Method} {c : Code} {D : va_G} {cy : zY} {b n0 : Nat} {P : zPo} (la : Launch) (X : zX p la e (rm_X5_laws) s m args below meth c 2 D cy b n0 cX5_laws wsX5_laws RX5) (hr : meth.sig.returnType = (some .int)) (h_X5_fittingLaws : zMet la yX5_fittingLaws wsX5_fittingLaws rm_X5_fittingLaws 0 0 sp_X5_fittingLaws) (h_X5_isRider : zMet la yX5_isRider wsX5_isRider rm_X5_isRider 0 0 sp_X5_isRider) : zS p la e (rm_X5_laws) s m args below meth c (MQ below (zQ D b (n0 + 0) P) args s 0 0 (fun q => b ≤ q)) 2 D b n0 0 (B_X5_laws_0 b n0 cy P (zAt p la e (rm_X5_laws) s m args below meth c (MQ below (zQ D b (n0 + 0) P) args s 0 0 (fun q => b ≤ q)) 2 D b n0)) := by
  unfold B_X5_laws_0
  exact (s_aload_n X dX5_laws_0 rfl (s_iload_n X dX5_laws_1 rfl (s_callV X h_X5_isRider dX5_laws_2 rfl gX5_laws_X5_isRider rfl rfl rfl (by decide +kernel) ⟨by decide, by decide⟩ (s_if_eq X dX5_laws_5 (by decide) (s_iconst X dX5_laws_16 (by decide) (S_X5_laws_17 la X hr h_X5_fittingLaws h_X5_isRider)) (s_aload_n X dX5_laws_8 rfl (s_iload_n X dX5_laws_9 rfl (s_callV X h_X5_fittingLaws dX5_laws_10 rfl gX5_laws_X5_fittingLaws rfl rfl rfl (by decide +kernel) ⟨by decide, by decide⟩ (s_goto X dX5_laws_13 (by decide) (S_X5_laws_17 la X hr h_X5_fittingLaws h_X5_isRider)))))))))
theorem w_X5_laws (la : Launch) (h_X5_fittingLaws : zMet la yX5_fittingLaws wsX5_fittingLaws rm_X5_fittingLaws 0 0 sp_X5_fittingLaws) (h_X5_isRider : zMet la yX5_isRider wsX5_isRider rm_X5_isRider 0 0 sp_X5_isRider) (sp : zSp) (vc : zVC_X5_laws sp) : zMet la yX5_laws wsX5_laws (rm_X5_laws) 0 0 sp :=
  z_of (cc := cX5_laws) (maxL := 2) (ret := (some .int)) (by decide +kernel) rfl (fun p e s m args below meth c D cy b n as E P hsp X hr hin => by
    obtain ⟨h1, h2⟩ := vc b cy n as E P (zAt p la e (rm_X5_laws) s m args below meth c (MQ below (zQ D b (n + 0) P) args s 0 0 (fun q => b ≤ q)) 2 D b n) hsp
    exact ⟨h1, S_X5_laws_0 la X hr h_X5_fittingLaws h_X5_isRider _ _ _ _ _ h2⟩)

theorem m_X5_laws (la : Launch) : zMet la yX5_laws wsX5_laws rm_X5_laws 0 0 sp_X5_laws := w_X5_laws la (m_X5_fittingLaws la) (m_X5_isRider la) _ vc_X5_laws
def sp_X5_likely : zSp := fun b cy as N E P => zPX op_likely [] b cy as N E P
abbrev rm_X5_likely : Room := { frames := 6, cells := 0, slots := 0, locals := 158 }
def B_X5_likely_40 (b n0 : Nat) (cy : zY) (P : zPo) (A : Nat → zC) : zC :=
  z_iinc 2 (1) (z_cut [0, 1, 2] (A 4))
def B_X5_likely_4 (b n0 : Nat) (cy : zY) (P : zPo) (A : Nat → zC) : zC :=
  z_iload 2 (z_aload 0 (z_get b n0 5 1 (z_get b n0 4 0 (z_icmp (fun x y => y ≤ x) (z_iload 1 (z_iret 0 0 P)) (z_aload 0 (z_get b n0 5 3 (z_get b n0 0 0 (z_iload 2 (z_callV b n0 0 0 cy 1 1 0 0 sp_X1_isAboard (z_if (fun x => x = 0) (B_X5_likely_40 b n0 cy P A) (z_iload 1 (z_aload 0 (z_iload 2 (z_callV b n0 0 0 cy 5 1 0 0 sp_X5_fittingLaws (z_callS b n0 0 0 cy 1 0 0 sp_J6_bitCount_0f7a4 (z_bin (fun x y => x * y) (z_istore 1 (B_X5_likely_40 b n0 cy P A))))))))))))))))))
def B_X5_likely_0 (b n0 : Nat) (cy : zY) (P : zPo) (A : Nat → zC) : zC :=
  z_const (1) (z_istore 1 (z_const (0) (z_istore 2 (z_cut [0, 1, 2] (A 4)))))
def zVC_X5_likely (sp : zSp) : Prop := ∀ (b : Nat) (cy : zY) (n : Nat) (as : List Value) (E : zE) (P : zPo) (A : Nat → zC), (∀ l st k u E, B_X5_likely_4 b n cy P A l st k u E → A 4 l st k u E) → sp b cy as n E P → zgood as 3 ∧ B_X5_likely_0 b n cy P A (lv_args 0 as) [] 0 0 E

set_option maxRecDepth 100000 in
set_option maxHeartbeats 4000000 in
theorem vc_X5_likely : zVC_X5_likely sp_X5_likely := by
  intro b cy N as E P A hA hsp
  obtain ⟨K, ⟨T, D, C, I, S, tr⟩, rfl, hbc, hok, hK, hN, hP⟩ := hsp
  refine ⟨⟨Nat.le_of_ble_eq_true rfl, zg1 rfl (zg0)⟩, ?_⟩
  obtain ⟨e0, hTx, ⟨seat, items, hTo⟩, hDr, hIm, hIs, hAh, hSn, hI0, hI1⟩ := id hbc
  have hp2 := hbc.p2 hok hN
  obtain ⟨hp1, e11⟩ := id hp2
  obtain ⟨hR, hmo, hmk, hi12, _⟩ := id hp1
  obtain ⟨hn1, mf, mg, mh, m0, m1, m2, m3, hmf, hmg, hmh⟩ := id hmo
  obtain ⟨_, tf, tg, th, t0, t1, t2, t3, htf, htg, hth⟩ := id hTo
  replace m1 : E 13 = _ := m1
  replace m2 : E 14 = _ := m2
  replace m3 : E 15 = _ := m3
  replace t1 : E 4 = _ := t1
  replace t2 : E 5 = _ := t2
  replace t3 : E 6 = _ := t3
  have hpa : zPa b cy E 16 D.1 C.2.1 C.2.2 := hIm.2.2
  have hlo := hok.2.1
  have N0 : 0 < N := by omega
  have N1 : 1 < N := by omega
  have N2 : 2 < N := by omega
  have N3 : 3 < N := by omega
  have N4 : 4 < N := by omega
  have N5 : 5 < N := by omega
  have N6 : 6 < N := by omega
  have N7 : 7 < N := by omega
  have N11 : 11 < N := by omega
  have N12 : 12 < N := by omega
  have N13 : 13 < N := by omega
  have N14 : 14 < N := by omega
  have N15 : 15 < N := by omega
  have N16 : 16 < N := by omega
  have N58 : 58 < N := by omega
  have N59 : 59 < N := by omega
  have N63 : 63 < N := by omega
  have N64 : 64 < N := by omega
  have N65 : 65 < N := by omega
  have N112 : 112 < N := by omega
  replace hP := hP E hbc (fun _ _ => rfl)
  simp only [op_likely] at hP
  generalize hg : (fun r => if (C.1 1).testBit r then zpop (zlaws D C S r) else 1) = g at hP
  have loop : ∀ (d k : Nat) (hd : d + k = D.1), A 4 [(0, .ref b), (1, .int (nI (zprod g k))), (2, .int (nI k))] [] 0 0 E := by
    intro d
    induction d with
    | zero =>
      intro k hd
      obtain rfl : k = D.1 := by omega
      apply hA
      have cle : nI D.1 ≤ nI D.1 := nI_le (Nat.le_refl _) (by omega)
      simp only [B_X5_likely_0, B_X5_likely_4, B_X5_likely_40, e_cut, e_iload, e_aload, e_istore, e_astore, e_iinc, e_const, e_lconst, e_bin, e_bin0, e_un, e_ladd, e_dupi, e_dupr, e_dup2, e_pop, e_if, e_icmp, e_sw, e_sw0, e_sw1, e_get, e_put, e_ald, e_ast, e_aald, e_aast, e_copy, e_new, e_newa, e_anewa, e_min, e_abs, e_oinit, e_callI, e_callV, e_callS, e_iret, e_zret, e_lret, e_vret, e_tl1, e_tl0, e_tl2, e_tl3, z10, Bool.false_eq_true, e_argi, e_argr, e_argn, zld_c, zst_n, zst_c, zpick_n, zpick_c, List.drop_succ_cons, List.drop_zero, List.take_succ_cons, List.take_zero, List.length_cons, List.length_nil, List.reverse_cons, List.reverse_nil, List.nil_append, List.cons_append, List.append_nil, List.getElem?_cons_zero, List.getElem?_cons_succ, List.set_cons_zero, List.set_cons_succ, Nat.add_sub_cancel_left, Nat.sub_self, Nat.add_zero, Nat.zero_add, Nat.le_add_right, Nat.le_refl, true_and, and_true, va_rf, zok, Nat.add_left_cancel_iff, Nat.add_eq_left, Nat.left_eq_add, eq_self, if_true, if_false, not_false_eq_true, not_true_eq_false, false_implies, true_implies, Nat.reduceEqDiff, Nat.reduceAdd, Nat.reduceLT, Nat.reduceLeDiff, reduceIte, zB0, e0, N0, N1, N2, N3, N4, N5, N6, N7, N11, N12, N13, N14, N15, N16, N58, N59, N63, N64, N65, N112, t0, cle]
      exact hP
    | succ d ih =>
      intro k hd
      have hk : k < D.1 := by omega
      apply hA
      have cle : ¬ nI D.1 ≤ nI k := nI_ge hk (by omega)
      have h9 := ih (k + 1) (by omega)
      rw [zprod] at h9
      simp only [B_X5_likely_0, B_X5_likely_4, B_X5_likely_40, e_cut, e_iload, e_aload, e_istore, e_astore, e_iinc, e_const, e_lconst, e_bin, e_bin0, e_un, e_ladd, e_dupi, e_dupr, e_dup2, e_pop, e_if, e_icmp, e_sw, e_sw0, e_sw1, e_get, e_put, e_ald, e_ast, e_aald, e_aast, e_copy, e_new, e_newa, e_anewa, e_min, e_abs, e_oinit, e_callI, e_callV, e_callS, e_iret, e_zret, e_lret, e_vret, e_tl1, e_tl0, e_tl2, e_tl3, z10, Bool.false_eq_true, e_argi, e_argr, e_argn, zld_c, zst_n, zst_c, zpick_n, zpick_c, List.drop_succ_cons, List.drop_zero, List.take_succ_cons, List.take_zero, List.length_cons, List.length_nil, List.reverse_cons, List.reverse_nil, List.nil_append, List.cons_append, List.append_nil, List.getElem?_cons_zero, List.getElem?_cons_succ, List.set_cons_zero, List.set_cons_succ, Nat.add_sub_cancel_left, Nat.sub_self, Nat.add_zero, Nat.zero_add, Nat.le_add_right, Nat.le_refl, true_and, and_true, va_rf, zok, Nat.add_left_cancel_iff, Nat.add_eq_left, Nat.left_eq_add, eq_self, if_true, if_false, not_false_eq_true, not_true_eq_false, false_implies, true_implies, Nat.reduceEqDiff, Nat.reduceAdd, Nat.reduceLT, Nat.reduceLeDiff, reduceIte, zB0, e0, N0, N1, N2, N3, N4, N5, N6, N7, N11, N12, N13, N14, N15, N16, N58, N59, N63, N64, N65, N112, t0, cle, e11, m0]
      refine ⟨12, k, _, _, rfl, hmo, hi12, by omega, hmk.l64, ?_⟩
      by_cases q1 : (C.1 1).testBit k = true
      · have e : g k = zpop (zlaws D C S k) := by rw [← hg]; simp [q1]
        rw [e] at h9
        simp only [e_cut, e_iload, e_aload, e_istore, e_astore, e_iinc, e_const, e_lconst, e_bin, e_bin0, e_un, e_ladd, e_dupi, e_dupr, e_dup2, e_pop, e_if, e_icmp, e_sw, e_sw0, e_sw1, e_get, e_put, e_ald, e_ast, e_aald, e_aast, e_copy, e_new, e_newa, e_anewa, e_min, e_abs, e_oinit, e_callI, e_callV, e_callS, e_iret, e_zret, e_lret, e_vret, e_tl1, e_tl0, e_tl2, e_tl3, z10, Bool.false_eq_true, e_argi, e_argr, e_argn, zld_c, zst_n, zst_c, zpick_n, zpick_c, List.drop_succ_cons, List.drop_zero, List.take_succ_cons, List.take_zero, List.length_cons, List.length_nil, List.reverse_cons, List.reverse_nil, List.nil_append, List.cons_append, List.append_nil, List.getElem?_cons_zero, List.getElem?_cons_succ, List.set_cons_zero, List.set_cons_succ, Nat.add_sub_cancel_left, Nat.sub_self, Nat.add_zero, Nat.zero_add, Nat.le_add_right, Nat.le_refl, true_and, and_true, va_rf, zok, Nat.add_left_cancel_iff, Nat.add_eq_left, Nat.left_eq_add, eq_self, if_true, if_false, not_false_eq_true, not_true_eq_false, false_implies, true_implies, Nat.reduceEqDiff, Nat.reduceAdd, Nat.reduceLT, Nat.reduceLeDiff, reduceIte, q1, zB0, e0, N0, N1, N2, N3, N4, N5, N6, N7, N11, N12, N13, N14, N15, N16, N58, N59, N63, N64, N65, N112]
        refine ⟨_, _, _, _, _, _, _, k, rfl, hp2, hSn, hk, ?_⟩
        simp only [e_cut, e_iload, e_aload, e_istore, e_astore, e_iinc, e_const, e_lconst, e_bin, e_bin0, e_un, e_ladd, e_dupi, e_dupr, e_dup2, e_pop, e_if, e_icmp, e_sw, e_sw0, e_sw1, e_get, e_put, e_ald, e_ast, e_aald, e_aast, e_copy, e_new, e_newa, e_anewa, e_min, e_abs, e_oinit, e_callI, e_callV, e_callS, e_iret, e_zret, e_lret, e_vret, e_tl1, e_tl0, e_tl2, e_tl3, z10, Bool.false_eq_true, e_argi, e_argr, e_argn, zld_c, zst_n, zst_c, zpick_n, zpick_c, List.drop_succ_cons, List.drop_zero, List.take_succ_cons, List.take_zero, List.length_cons, List.length_nil, List.reverse_cons, List.reverse_nil, List.nil_append, List.cons_append, List.append_nil, List.getElem?_cons_zero, List.getElem?_cons_succ, List.set_cons_zero, List.set_cons_succ, Nat.add_sub_cancel_left, Nat.sub_self, Nat.add_zero, Nat.zero_add, Nat.le_add_right, Nat.le_refl, true_and, and_true, va_rf, zok, Nat.add_left_cancel_iff, Nat.add_eq_left, Nat.left_eq_add, eq_self, if_true, if_false, not_false_eq_true, not_true_eq_false, false_implies, true_implies, Nat.reduceEqDiff, Nat.reduceAdd, Nat.reduceLT, Nat.reduceLeDiff, reduceIte]
        refine ⟨_, rfl, zlw_lt 3 (by omega), ?_⟩
        simp only [e_cut, e_iload, e_aload, e_istore, e_astore, e_iinc, e_const, e_lconst, e_bin, e_bin0, e_un, e_ladd, e_dupi, e_dupr, e_dup2, e_pop, e_if, e_icmp, e_sw, e_sw0, e_sw1, e_get, e_put, e_ald, e_ast, e_aald, e_aast, e_copy, e_new, e_newa, e_anewa, e_min, e_abs, e_oinit, e_callI, e_callV, e_callS, e_iret, e_zret, e_lret, e_vret, e_tl1, e_tl0, e_tl2, e_tl3, z10, Bool.false_eq_true, e_argi, e_argr, e_argn, zld_c, zst_n, zst_c, zpick_n, zpick_c, List.drop_succ_cons, List.drop_zero, List.take_succ_cons, List.take_zero, List.length_cons, List.length_nil, List.reverse_cons, List.reverse_nil, List.nil_append, List.cons_append, List.append_nil, List.getElem?_cons_zero, List.getElem?_cons_succ, List.set_cons_zero, List.set_cons_succ, Nat.add_sub_cancel_left, Nat.sub_self, Nat.add_zero, Nat.zero_add, Nat.le_add_right, Nat.le_refl, true_and, and_true, va_rf, zok, Nat.add_left_cancel_iff, Nat.add_eq_left, Nat.left_eq_add, eq_self, if_true, if_false, not_false_eq_true, not_true_eq_false, false_implies, true_implies, Nat.reduceEqDiff, Nat.reduceAdd, Nat.reduceLT, Nat.reduceLeDiff, reduceIte, B_X5_likely_0, B_X5_likely_4, B_X5_likely_40, pk_mul, nI_1]
        exact h9
      · have e : g k = 1 := by rw [← hg]; simp [q1]
        rw [e, Nat.mul_one] at h9
        simp only [e_cut, e_iload, e_aload, e_istore, e_astore, e_iinc, e_const, e_lconst, e_bin, e_bin0, e_un, e_ladd, e_dupi, e_dupr, e_dup2, e_pop, e_if, e_icmp, e_sw, e_sw0, e_sw1, e_get, e_put, e_ald, e_ast, e_aald, e_aast, e_copy, e_new, e_newa, e_anewa, e_min, e_abs, e_oinit, e_callI, e_callV, e_callS, e_iret, e_zret, e_lret, e_vret, e_tl1, e_tl0, e_tl2, e_tl3, z10, Bool.false_eq_true, e_argi, e_argr, e_argn, zld_c, zst_n, zst_c, zpick_n, zpick_c, List.drop_succ_cons, List.drop_zero, List.take_succ_cons, List.take_zero, List.length_cons, List.length_nil, List.reverse_cons, List.reverse_nil, List.nil_append, List.cons_append, List.append_nil, List.getElem?_cons_zero, List.getElem?_cons_succ, List.set_cons_zero, List.set_cons_succ, Nat.add_sub_cancel_left, Nat.sub_self, Nat.add_zero, Nat.zero_add, Nat.le_add_right, Nat.le_refl, true_and, and_true, va_rf, zok, Nat.add_left_cancel_iff, Nat.add_eq_left, Nat.left_eq_add, eq_self, if_true, if_false, not_false_eq_true, not_true_eq_false, false_implies, true_implies, Nat.reduceEqDiff, Nat.reduceAdd, Nat.reduceLT, Nat.reduceLeDiff, reduceIte, q1, B_X5_likely_0, B_X5_likely_4, B_X5_likely_40, nI_1]
        exact h9
  simp only [B_X5_likely_0, B_X5_likely_4, B_X5_likely_40, e_cut, e_iload, e_aload, e_istore, e_astore, e_iinc, e_const, e_lconst, e_bin, e_bin0, e_un, e_ladd, e_dupi, e_dupr, e_dup2, e_pop, e_if, e_icmp, e_sw, e_sw0, e_sw1, e_get, e_put, e_ald, e_ast, e_aald, e_aast, e_copy, e_new, e_newa, e_anewa, e_min, e_abs, e_oinit, e_callI, e_callV, e_callS, e_iret, e_zret, e_lret, e_vret, e_tl1, e_tl0, e_tl2, e_tl3, z10, Bool.false_eq_true, e_argi, e_argr, e_argn, zld_c, zst_n, zst_c, zpick_n, zpick_c, List.drop_succ_cons, List.drop_zero, List.take_succ_cons, List.take_zero, List.length_cons, List.length_nil, List.reverse_cons, List.reverse_nil, List.nil_append, List.cons_append, List.append_nil, List.getElem?_cons_zero, List.getElem?_cons_succ, List.set_cons_zero, List.set_cons_succ, Nat.add_sub_cancel_left, Nat.sub_self, Nat.add_zero, Nat.zero_add, Nat.le_add_right, Nat.le_refl, true_and, and_true, va_rf, zok, Nat.add_left_cancel_iff, Nat.add_eq_left, Nat.left_eq_add, eq_self, if_true, if_false, not_false_eq_true, not_true_eq_false, false_implies, true_implies, Nat.reduceEqDiff, Nat.reduceAdd, Nat.reduceLT, Nat.reduceLeDiff, reduceIte]
  exact loop D.1 0 rfl
set_option maxRecDepth 20000 in
theorem f_X5_likely_19 : Cond.fieldLink RX5 19 (TX5 1).1 (TX5 1).2.1 (TX5 1).2.2.1 ∈ wsX5_likely := by decide +kernel
set_option maxRecDepth 20000 in
theorem k_X5_likely_5 : ∀ w ∈ u_ws RX5 TX5 11, w ∈ wsX5_likely := fun _ h => List.mem_cons_of_mem _ (List.mem_append_left _ (List.mem_append_left _ (List.mem_append_left _ (List.mem_append_right _ h))))
set_option maxRecDepth 20000 in
theorem f_X5_likely_200 : Cond.fieldLink RX5 200 (TX4 0).1 (TX4 0).2.1 (TX4 0).2.2.1 ∈ wsX5_likely := by decide +kernel
set_option maxRecDepth 20000 in
theorem k_X5_likely_4 : ∀ w ∈ u_ws RX4 TX4 6, w ∈ wsX5_likely := fun _ h => List.mem_cons_of_mem _ (List.mem_append_left _ (List.mem_append_left _ (List.mem_append_right _ h)))
set_option maxRecDepth 20000 in
theorem f_X5_likely_29 : Cond.fieldLink RX5 29 (TX5 3).1 (TX5 3).2.1 (TX5 3).2.2.1 ∈ wsX5_likely := by decide +kernel
set_option maxRecDepth 20000 in
theorem f_X5_likely_76 : Cond.fieldLink RX5 76 (TX0 0).1 (TX0 0).2.1 (TX0 0).2.2.1 ∈ wsX5_likely := by decide +kernel
set_option maxRecDepth 20000 in
theorem k_X5_likely_0 : ∀ w ∈ u_ws RX0 TX0 2, w ∈ wsX5_likely := fun _ h => List.mem_cons_of_mem _ (List.mem_append_left _ (List.mem_append_right _ h))
set_option maxRecDepth 100000 in
set_option maxHeartbeats 4000000 in
theorem S_X5_likely_40 {p : Program} {e : Env} {s : State} {m : MethodId} {args : Array Value} {below : List Frame} {meth : Method} {c : Code} {D : va_G} {cy : zY} {b n0 : Nat} {P : zPo} (la : Launch) (X : zX p la e (rm_X5_likely) s m args below meth c 3 D cy b n0 cX5_likely wsX5_likely RX5) (hr : meth.sig.returnType = (some .int)) (h_J6_bitCount_0f7a4 : zMet la yJ6_bitCount_0f7a4 wsJ6_bitCount_0f7a4 rm_J6_bitCount_0f7a4 0 0 sp_J6_bitCount_0f7a4) (h_X1_isAboard : zMet la yX1_isAboard wsX1_isAboard rm_X1_isAboard 0 0 sp_X1_isAboard) (h_X5_fittingLaws : zMet la yX5_fittingLaws wsX5_fittingLaws rm_X5_fittingLaws 0 0 sp_X5_fittingLaws) : zS p la e (rm_X5_likely) s m args below meth c (MQ below (zQ D b (n0 + 0) P) args s 0 0 (fun q => b ≤ q)) 3 D b n0 40 (B_X5_likely_40 b n0 cy P (zAt p la e (rm_X5_likely) s m args below meth c (MQ below (zQ D b (n0 + 0) P) args s 0 0 (fun q => b ≤ q)) 3 D b n0)) := by
  unfold B_X5_likely_40
  exact (s_iinc X dX5_likely_40 (by decide) (by decide) (s_goto X dX5_likely_43 (by decide) (s_cut (by decide) zS_at)))
set_option maxRecDepth 100000 in
set_option maxHeartbeats 4000000 in
theorem S_X5_likely_4 {p : Program} {e : Env} {s : State} {m : MethodId} {args : Array Value} {below : List Frame} {meth : Method} {c : Code} {D : va_G} {cy : zY} {b n0 : Nat} {P : zPo} (la : Launch) (X : zX p la e (rm_X5_likely) s m args below meth c 3 D cy b n0 cX5_likely wsX5_likely RX5) (hr : meth.sig.returnType = (some .int)) (h_J6_bitCount_0f7a4 : zMet la yJ6_bitCount_0f7a4 wsJ6_bitCount_0f7a4 rm_J6_bitCount_0f7a4 0 0 sp_J6_bitCount_0f7a4) (h_X1_isAboard : zMet la yX1_isAboard wsX1_isAboard rm_X1_isAboard 0 0 sp_X1_isAboard) (h_X5_fittingLaws : zMet la yX5_fittingLaws wsX5_fittingLaws rm_X5_fittingLaws 0 0 sp_X5_fittingLaws) : zS p la e (rm_X5_likely) s m args below meth c (MQ below (zQ D b (n0 + 0) P) args s 0 0 (fun q => b ≤ q)) 3 D b n0 4 (B_X5_likely_4 b n0 cy P (zAt p la e (rm_X5_likely) s m args below meth c (MQ below (zQ D b (n0 + 0) P) args s 0 0 (fun q => b ≤ q)) 3 D b n0)) := by
  unfold B_X5_likely_4
  exact (s_iload_n X dX5_likely_4 rfl (s_aload_n X dX5_likely_5 rfl (s_get X dX5_likely_6 rfl k_X5_likely_5 (by decide) f_X5_likely_19 (s_get X dX5_likely_9 rfl k_X5_likely_4 (by decide) f_X5_likely_200 (s_icmp_ge X dX5_likely_12 (by decide) (s_iload_n X dX5_likely_46 rfl (s_iret X dX5_likely_47 hr)) (s_aload_n X dX5_likely_15 rfl (s_get X dX5_likely_16 rfl k_X5_likely_5 (by decide) f_X5_likely_29 (s_get X dX5_likely_19 rfl k_X5_likely_0 (by decide) f_X5_likely_76 (s_iload_n X dX5_likely_22 rfl (s_callV X h_X1_isAboard dX5_likely_23 rfl gX5_likely_X1_isAboard rfl rfl rfl (by decide +kernel) ⟨by decide, by decide⟩ (s_if_eq X dX5_likely_26 (by decide) (S_X5_likely_40 la X hr h_J6_bitCount_0f7a4 h_X1_isAboard h_X5_fittingLaws) (s_iload_n X dX5_likely_29 rfl (s_aload_n X dX5_likely_30 rfl (s_iload_n X dX5_likely_31 rfl (s_callV X h_X5_fittingLaws dX5_likely_32 rfl gX5_likely_X5_fittingLaws rfl rfl rfl (by decide +kernel) ⟨by decide, by decide⟩ (s_callS X h_J6_bitCount_0f7a4 dX5_likely_35 gX5_likely_J6_bitCount_0f7a4 rfl rfl rfl (by decide +kernel) ⟨by decide, by decide⟩ (s_imul X dX5_likely_38 (s_istore_n X dX5_likely_39 rfl (by decide) (S_X5_likely_40 la X hr h_J6_bitCount_0f7a4 h_X1_isAboard h_X5_fittingLaws)))))))))))))))))))
set_option maxRecDepth 100000 in
set_option maxHeartbeats 4000000 in
theorem S_X5_likely_0 {p : Program} {e : Env} {s : State} {m : MethodId} {args : Array Value} {below : List Frame} {meth : Method} {c : Code} {D : va_G} {cy : zY} {b n0 : Nat} {P : zPo} (la : Launch) (X : zX p la e (rm_X5_likely) s m args below meth c 3 D cy b n0 cX5_likely wsX5_likely RX5) (hr : meth.sig.returnType = (some .int)) (h_J6_bitCount_0f7a4 : zMet la yJ6_bitCount_0f7a4 wsJ6_bitCount_0f7a4 rm_J6_bitCount_0f7a4 0 0 sp_J6_bitCount_0f7a4) (h_X1_isAboard : zMet la yX1_isAboard wsX1_isAboard rm_X1_isAboard 0 0 sp_X1_isAboard) (h_X5_fittingLaws : zMet la yX5_fittingLaws wsX5_fittingLaws rm_X5_fittingLaws 0 0 sp_X5_fittingLaws) : zS p la e (rm_X5_likely) s m args below meth c (MQ below (zQ D b (n0 + 0) P) args s 0 0 (fun q => b ≤ q)) 3 D b n0 0 (B_X5_likely_0 b n0 cy P (zAt p la e (rm_X5_likely) s m args below meth c (MQ below (zQ D b (n0 + 0) P) args s 0 0 (fun q => b ≤ q)) 3 D b n0)) := by
  unfold B_X5_likely_0
  exact (s_iconst X dX5_likely_0 (by decide) (s_istore_n X dX5_likely_1 rfl (by decide) (s_iconst X dX5_likely_2 (by decide) (s_istore_n X dX5_likely_3 rfl (by decide) (s_cut (by decide) zS_at)))))
theorem w_X5_likely (la : Launch) (h_J6_bitCount_0f7a4 : zMet la yJ6_bitCount_0f7a4 wsJ6_bitCount_0f7a4 rm_J6_bitCount_0f7a4 0 0 sp_J6_bitCount_0f7a4) (h_X1_isAboard : zMet la yX1_isAboard wsX1_isAboard rm_X1_isAboard 0 0 sp_X1_isAboard) (h_X5_fittingLaws : zMet la yX5_fittingLaws wsX5_fittingLaws rm_X5_fittingLaws 0 0 sp_X5_fittingLaws) (sp : zSp) (vc : zVC_X5_likely sp) : zMet la yX5_likely wsX5_likely (rm_X5_likely) 0 0 sp :=
  z_of (cc := cX5_likely) (maxL := 3) (ret := (some .int)) (by decide +kernel) rfl (fun p e s m args below meth c D cy b n as E P hsp X hr hin => by
    obtain ⟨h1, h2⟩ := vc b cy n as E P (zAt p la e (rm_X5_likely) s m args below meth c (MQ below (zQ D b (n + 0) P) args s 0 0 (fun q => b ≤ q)) 3 D b n) (fun _ _ _ _ _ q => S_X5_likely_4 la X hr h_J6_bitCount_0f7a4 h_X1_isAboard h_X5_fittingLaws _ _ _ _ _ q) hsp
    exact ⟨h1, S_X5_likely_0 la X hr h_J6_bitCount_0f7a4 h_X1_isAboard h_X5_fittingLaws _ _ _ _ _ h2⟩)

theorem m_X5_likely (la : Launch) : zMet la yX5_likely wsX5_likely rm_X5_likely 0 0 sp_X5_likely := w_X5_likely la (m_J6_bitCount_0f7a4 la) (m_X1_isAboard la) (m_X5_fittingLaws la) _ vc_X5_likely

