def sp_X5_mark : zSp := fun b cy as N E P => ∃ w x : Int32, zPX (op_mark w x) [.int w, .int x] b cy as N E P
abbrev rm_X5_mark : Room := { frames := 5, cells := 0, slots := 0, locals := 127 }
def B_X5_mark_0 (b n0 : Nat) (cy : zY) (P : zPo) (A : Nat → zC) : zC :=
  z_aload 0 (z_iload 2 (z_callV b n0 0 0 cy 5 1 0 0 sp_X5_isRider (z_if (fun x => x = 0) (z_const (-1000000) (z_iret 0 0 P)) (z_iload 1 (z_switch [(0, (z_aload 0 (z_iload 2 (z_callV b n0 0 0 cy 5 1 0 0 sp_X5_riderMark (z_iret 0 0 P))))), (1, (z_aload 0 (z_iload 2 (z_callV b n0 0 0 cy 5 1 0 0 sp_X5_nunMark (z_iret 0 0 P))))), (2, (z_aload 0 (z_iload 2 (z_callV b n0 0 0 cy 5 1 0 0 sp_X5_boyMark (z_iret 0 0 P))))), (3, (z_aload 0 (z_iload 2 (z_callV b n0 0 0 cy 5 1 0 0 sp_X5_widowerMark (z_iret 0 0 P))))), (4, (z_aload 0 (z_iload 2 (z_callV b n0 0 0 cy 5 1 0 0 sp_X5_girlMark (z_iret 0 0 P))))), (5, (z_aload 0 (z_iload 2 (z_callV b n0 0 0 cy 5 1 0 0 sp_X5_driverMark (z_iret 0 0 P)))))] (z_const (-1000000) (z_iret 0 0 P)))))))
def zVC_X5_mark (sp : zSp) : Prop := ∀ (b : Nat) (cy : zY) (n : Nat) (as : List Value) (E : zE) (P : zPo) (A : Nat → zC), sp b cy as n E P → zgood as 3 ∧ B_X5_mark_0 b n cy P A (lv_args 0 as) [] 0 0 E

set_option maxRecDepth 100000 in
set_option maxHeartbeats 4000000 in
theorem vc_X5_mark : zVC_X5_mark sp_X5_mark := by
  intro b cy N as E P A hsp
  obtain ⟨w, x, K, ⟨T, D, C, I, S, tr⟩, rfl, hbc, hok, hK, hN, hP⟩ := hsp
  refine ⟨⟨Nat.le_of_ble_eq_true rfl, zg1 rfl (zg1 rfl (zg1 rfl (zg0)))⟩, ?_⟩
  obtain ⟨e0, hTx, ⟨seat, items, hTo⟩, hDr, hIm, hIs, hAh, hSn, hI0, hI1⟩ := id hbc
  have hp2 := hbc.p2 hok hN
  obtain ⟨hp1, e11⟩ := id hp2
  obtain ⟨hR, hmo, hmk, hi12, _⟩ := id hp1
  obtain ⟨hn1, mf, mg, mh, m0, m1, m2, m3, hmf, hmg, hmh⟩ := id hmo
  obtain ⟨_, tf, tg, th, t0, t1, t2, t3, htf, htg, hth⟩ := id hTo
  replace m1 : E 13 = _ := m1
  replace m2 : E 14 = _ := m2
  replace m3 : E 15 = _ := m3
  replace t1 : E 4 = _ := t1
  replace t2 : E 5 = _ := t2
  replace t3 : E 6 = _ := t3
  have hpa : zPa b cy E 16 D.1 C.2.1 C.2.2 := hIm.2.2
  have hlo := hok.2.1
  have N0 : 0 < N := by omega
  have N1 : 1 < N := by omega
  have N2 : 2 < N := by omega
  have N3 : 3 < N := by omega
  have N4 : 4 < N := by omega
  have N5 : 5 < N := by omega
  have N6 : 6 < N := by omega
  have N7 : 7 < N := by omega
  have N11 : 11 < N := by omega
  have N12 : 12 < N := by omega
  have N13 : 13 < N := by omega
  have N14 : 14 < N := by omega
  have N15 : 15 < N := by omega
  have N16 : 16 < N := by omega
  have N58 : 58 < N := by omega
  have N59 : 59 < N := by omega
  have N63 : 63 < N := by omega
  have N64 : 64 < N := by omega
  have N65 : 65 < N := by omega
  have N112 : 112 < N := by omega
  simp only [op_mark] at hP
  simp only [B_X5_mark_0, e_cut, e_iload, e_aload, e_istore, e_astore, e_iinc, e_const, e_lconst, e_bin, e_bin0, e_un, e_ladd, e_dupi, e_dupr, e_dup2, e_pop, e_if, e_icmp, e_sw, e_sw0, e_sw1, e_get, e_put, e_ald, e_ast, e_aald, e_aast, e_copy, e_new, e_newa, e_anewa, e_min, e_abs, e_oinit, e_callI, e_callV, e_callS, e_iret, e_zret, e_lret, e_vret, e_tl1, e_tl0, e_tl2, e_tl3, z10, Bool.false_eq_true, e_argi, e_argr, e_argn, zld_c, zst_n, zst_c, zpick_n, zpick_c, List.drop_succ_cons, List.drop_zero, List.take_succ_cons, List.take_zero, List.length_cons, List.length_nil, List.reverse_cons, List.reverse_nil, List.nil_append, List.cons_append, List.append_nil, List.getElem?_cons_zero, List.getElem?_cons_succ, List.set_cons_zero, List.set_cons_succ, Nat.add_sub_cancel_left, Nat.sub_self, Nat.add_zero, Nat.zero_add, Nat.le_add_right, Nat.le_refl, true_and, and_true, va_rf, zok, Nat.add_left_cancel_iff, Nat.add_eq_left, Nat.left_eq_add, eq_self, if_true, if_false, not_false_eq_true, not_true_eq_false, false_implies, true_implies, Nat.reduceEqDiff, Nat.reduceAdd, Nat.reduceLT, Nat.reduceLeDiff, reduceIte, zB0, e0, N0, N1, N2, N3, N4, N5, N6, N7, N11, N12, N13, N14, N15, N16, N58, N59, N63, N64, N65, N112]
  refine ⟨_, _, _, x, rfl, hR, hN, ?_⟩
  by_cases q1 : zisB D.1 x = true
  · obtain ⟨r, hr, rfl⟩ := zisB_t q1 hn1
    rw [if_pos q1] at hP
    simp only [zcl_i (show r < 2 ^ 31 by omega)] at hP
    have fr : ∀ t, ∀ j, 159 ≤ j → va_up E 0 (zB0 b (nI (zkm I)) (nI S.1) t) j = E j := fun t j hj => by simp only [e_up]; rw [if_neg (by omega)]
    simp only [e_cut, e_iload, e_aload, e_istore, e_astore, e_iinc, e_const, e_lconst, e_bin, e_bin0, e_un, e_ladd, e_dupi, e_dupr, e_dup2, e_pop, e_if, e_icmp, e_sw, e_sw0, e_sw1, e_get, e_put, e_ald, e_ast, e_aald, e_aast, e_copy, e_new, e_newa, e_anewa, e_min, e_abs, e_oinit, e_callI, e_callV, e_callS, e_iret, e_zret, e_lret, e_vret, e_tl1, e_tl0, e_tl2, e_tl3, z10, Bool.false_eq_true, e_argi, e_argr, e_argn, zld_c, zst_n, zst_c, zpick_n, zpick_c, List.drop_succ_cons, List.drop_zero, List.take_succ_cons, List.take_zero, List.length_cons, List.length_nil, List.reverse_cons, List.reverse_nil, List.nil_append, List.cons_append, List.append_nil, List.getElem?_cons_zero, List.getElem?_cons_succ, List.set_cons_zero, List.set_cons_succ, Nat.add_sub_cancel_left, Nat.sub_self, Nat.add_zero, Nat.zero_add, Nat.le_add_right, Nat.le_refl, true_and, and_true, va_rf, zok, Nat.add_left_cancel_iff, Nat.add_eq_left, Nat.left_eq_add, eq_self, if_true, if_false, not_false_eq_true, not_true_eq_false, false_implies, true_implies, Nat.reduceEqDiff, Nat.reduceAdd, Nat.reduceLT, Nat.reduceLeDiff, reduceIte, q1, zB0, e0, N0, N1, N2, N3, N4, N5, N6, N7, N11, N12, N13, N14, N15, N16, N58, N59, N63, N64, N65, N112]
    refine ⟨fun c0 => ?_, fun c0 => ⟨fun c1 => ?_, fun c1 => ⟨fun c2 => ?_, fun c2 => ⟨fun c3 => ?_, fun c3 => ⟨fun c4 => ?_, fun c4 => ⟨fun c5 => ?_, fun c5 => ?_⟩⟩⟩⟩⟩⟩
    · rw [if_pos c0] at hP
      exact ⟨_, _, _, _, _, _, _, r, rfl, e0, hp2, hr, by simp only [e_cut, e_iload, e_aload, e_istore, e_astore, e_iinc, e_const, e_lconst, e_bin, e_bin0, e_un, e_ladd, e_dupi, e_dupr, e_dup2, e_pop, e_if, e_icmp, e_sw, e_sw0, e_sw1, e_get, e_put, e_ald, e_ast, e_aald, e_aast, e_copy, e_new, e_newa, e_anewa, e_min, e_abs, e_oinit, e_callI, e_callV, e_callS, e_iret, e_zret, e_lret, e_vret, e_tl1, e_tl0, e_tl2, e_tl3, z10, Bool.false_eq_true, e_argi, e_argr, e_argn, zld_c, zst_n, zst_c, zpick_n, zpick_c, List.drop_succ_cons, List.drop_zero, List.take_succ_cons, List.take_zero, List.length_cons, List.length_nil, List.reverse_cons, List.reverse_nil, List.nil_append, List.cons_append, List.append_nil, List.getElem?_cons_zero, List.getElem?_cons_succ, List.set_cons_zero, List.set_cons_succ, Nat.add_sub_cancel_left, Nat.sub_self, Nat.add_zero, Nat.zero_add, Nat.le_add_right, Nat.le_refl, true_and, and_true, va_rf, zok, Nat.add_left_cancel_iff, Nat.add_eq_left, Nat.left_eq_add, eq_self, if_true, if_false, not_false_eq_true, not_true_eq_false, false_implies, true_implies, Nat.reduceEqDiff, Nat.reduceAdd, Nat.reduceLT, Nat.reduceLeDiff, reduceIte]; exact hP _ hbc.trc (fr _)⟩
    · rw [if_neg c0, if_pos c1] at hP
      exact ⟨_, _, _, _, _, _, _, r, rfl, e0, hp2, hr, by simp only [e_cut, e_iload, e_aload, e_istore, e_astore, e_iinc, e_const, e_lconst, e_bin, e_bin0, e_un, e_ladd, e_dupi, e_dupr, e_dup2, e_pop, e_if, e_icmp, e_sw, e_sw0, e_sw1, e_get, e_put, e_ald, e_ast, e_aald, e_aast, e_copy, e_new, e_newa, e_anewa, e_min, e_abs, e_oinit, e_callI, e_callV, e_callS, e_iret, e_zret, e_lret, e_vret, e_tl1, e_tl0, e_tl2, e_tl3, z10, Bool.false_eq_true, e_argi, e_argr, e_argn, zld_c, zst_n, zst_c, zpick_n, zpick_c, List.drop_succ_cons, List.drop_zero, List.take_succ_cons, List.take_zero, List.length_cons, List.length_nil, List.reverse_cons, List.reverse_nil, List.nil_append, List.cons_append, List.append_nil, List.getElem?_cons_zero, List.getElem?_cons_succ, List.set_cons_zero, List.set_cons_succ, Nat.add_sub_cancel_left, Nat.sub_self, Nat.add_zero, Nat.zero_add, Nat.le_add_right, Nat.le_refl, true_and, and_true, va_rf, zok, Nat.add_left_cancel_iff, Nat.add_eq_left, Nat.left_eq_add, eq_self, if_true, if_false, not_false_eq_true, not_true_eq_false, false_implies, true_implies, Nat.reduceEqDiff, Nat.reduceAdd, Nat.reduceLT, Nat.reduceLeDiff, reduceIte]; exact hP _ hbc.trc (fr _)⟩
    · rw [if_neg c0, if_neg c1, if_pos c2] at hP
      exact ⟨_, _, _, _, _, _, _, r, rfl, e0, hp2, hr, by simp only [e_cut, e_iload, e_aload, e_istore, e_astore, e_iinc, e_const, e_lconst, e_bin, e_bin0, e_un, e_ladd, e_dupi, e_dupr, e_dup2, e_pop, e_if, e_icmp, e_sw, e_sw0, e_sw1, e_get, e_put, e_ald, e_ast, e_aald, e_aast, e_copy, e_new, e_newa, e_anewa, e_min, e_abs, e_oinit, e_callI, e_callV, e_callS, e_iret, e_zret, e_lret, e_vret, e_tl1, e_tl0, e_tl2, e_tl3, z10, Bool.false_eq_true, e_argi, e_argr, e_argn, zld_c, zst_n, zst_c, zpick_n, zpick_c, List.drop_succ_cons, List.drop_zero, List.take_succ_cons, List.take_zero, List.length_cons, List.length_nil, List.reverse_cons, List.reverse_nil, List.nil_append, List.cons_append, List.append_nil, List.getElem?_cons_zero, List.getElem?_cons_succ, List.set_cons_zero, List.set_cons_succ, Nat.add_sub_cancel_left, Nat.sub_self, Nat.add_zero, Nat.zero_add, Nat.le_add_right, Nat.le_refl, true_and, and_true, va_rf, zok, Nat.add_left_cancel_iff, Nat.add_eq_left, Nat.left_eq_add, eq_self, if_true, if_false, not_false_eq_true, not_true_eq_false, false_implies, true_implies, Nat.reduceEqDiff, Nat.reduceAdd, Nat.reduceLT, Nat.reduceLeDiff, reduceIte]; exact hP _ hbc.trc (fr _)⟩
    · rw [if_neg c0, if_neg c1, if_neg c2, if_pos c3] at hP
      exact ⟨_, _, _, _, _, _, _, r, rfl, e0, hp2, hr, by simp only [e_cut, e_iload, e_aload, e_istore, e_astore, e_iinc, e_const, e_lconst, e_bin, e_bin0, e_un, e_ladd, e_dupi, e_dupr, e_dup2, e_pop, e_if, e_icmp, e_sw, e_sw0, e_sw1, e_get, e_put, e_ald, e_ast, e_aald, e_aast, e_copy, e_new, e_newa, e_anewa, e_min, e_abs, e_oinit, e_callI, e_callV, e_callS, e_iret, e_zret, e_lret, e_vret, e_tl1, e_tl0, e_tl2, e_tl3, z10, Bool.false_eq_true, e_argi, e_argr, e_argn, zld_c, zst_n, zst_c, zpick_n, zpick_c, List.drop_succ_cons, List.drop_zero, List.take_succ_cons, List.take_zero, List.length_cons, List.length_nil, List.reverse_cons, List.reverse_nil, List.nil_append, List.cons_append, List.append_nil, List.getElem?_cons_zero, List.getElem?_cons_succ, List.set_cons_zero, List.set_cons_succ, Nat.add_sub_cancel_left, Nat.sub_self, Nat.add_zero, Nat.zero_add, Nat.le_add_right, Nat.le_refl, true_and, and_true, va_rf, zok, Nat.add_left_cancel_iff, Nat.add_eq_left, Nat.left_eq_add, eq_self, if_true, if_false, not_false_eq_true, not_true_eq_false, false_implies, true_implies, Nat.reduceEqDiff, Nat.reduceAdd, Nat.reduceLT, Nat.reduceLeDiff, reduceIte]; exact hP _ hbc.trc (fr _)⟩
    · rw [if_neg c0, if_neg c1, if_neg c2, if_neg c3, if_pos c4] at hP
      exact ⟨_, _, _, _, _, _, _, r, rfl, e0, hp2, hr, by simp only [e_cut, e_iload, e_aload, e_istore, e_astore, e_iinc, e_const, e_lconst, e_bin, e_bin0, e_un, e_ladd, e_dupi, e_dupr, e_dup2, e_pop, e_if, e_icmp, e_sw, e_sw0, e_sw1, e_get, e_put, e_ald, e_ast, e_aald, e_aast, e_copy, e_new, e_newa, e_anewa, e_min, e_abs, e_oinit, e_callI, e_callV, e_callS, e_iret, e_zret, e_lret, e_vret, e_tl1, e_tl0, e_tl2, e_tl3, z10, Bool.false_eq_true, e_argi, e_argr, e_argn, zld_c, zst_n, zst_c, zpick_n, zpick_c, List.drop_succ_cons, List.drop_zero, List.take_succ_cons, List.take_zero, List.length_cons, List.length_nil, List.reverse_cons, List.reverse_nil, List.nil_append, List.cons_append, List.append_nil, List.getElem?_cons_zero, List.getElem?_cons_succ, List.set_cons_zero, List.set_cons_succ, Nat.add_sub_cancel_left, Nat.sub_self, Nat.add_zero, Nat.zero_add, Nat.le_add_right, Nat.le_refl, true_and, and_true, va_rf, zok, Nat.add_left_cancel_iff, Nat.add_eq_left, Nat.left_eq_add, eq_self, if_true, if_false, not_false_eq_true, not_true_eq_false, false_implies, true_implies, Nat.reduceEqDiff, Nat.reduceAdd, Nat.reduceLT, Nat.reduceLeDiff, reduceIte]; exact hP _ hbc.trc (fr _)⟩
    · rw [if_neg c0, if_neg c1, if_neg c2, if_neg c3, if_neg c4, if_pos c5] at hP
      exact ⟨_, _, _, _, _, _, _, r, rfl, e0, hp2, hr, by simp only [e_cut, e_iload, e_aload, e_istore, e_astore, e_iinc, e_const, e_lconst, e_bin, e_bin0, e_un, e_ladd, e_dupi, e_dupr, e_dup2, e_pop, e_if, e_icmp, e_sw, e_sw0, e_sw1, e_get, e_put, e_ald, e_ast, e_aald, e_aast, e_copy, e_new, e_newa, e_anewa, e_min, e_abs, e_oinit, e_callI, e_callV, e_callS, e_iret, e_zret, e_lret, e_vret, e_tl1, e_tl0, e_tl2, e_tl3, z10, Bool.false_eq_true, e_argi, e_argr, e_argn, zld_c, zst_n, zst_c, zpick_n, zpick_c, List.drop_succ_cons, List.drop_zero, List.take_succ_cons, List.take_zero, List.length_cons, List.length_nil, List.reverse_cons, List.reverse_nil, List.nil_append, List.cons_append, List.append_nil, List.getElem?_cons_zero, List.getElem?_cons_succ, List.set_cons_zero, List.set_cons_succ, Nat.add_sub_cancel_left, Nat.sub_self, Nat.add_zero, Nat.zero_add, Nat.le_add_right, Nat.le_refl, true_and, and_true, va_rf, zok, Nat.add_left_cancel_iff, Nat.add_eq_left, Nat.left_eq_add, eq_self, if_true, if_false, not_false_eq_true, not_true_eq_false, false_implies, true_implies, Nat.reduceEqDiff, Nat.reduceAdd, Nat.reduceLT, Nat.reduceLeDiff, reduceIte]; exact hP _ hbc.trc (fr _)⟩
    · rw [if_neg c0, if_neg c1, if_neg c2, if_neg c3, if_neg c4, if_neg c5] at hP
      exact hP E hbc (fun _ _ => rfl)
  · rw [if_neg q1] at hP
    simp only [e_cut, e_iload, e_aload, e_istore, e_astore, e_iinc, e_const, e_lconst, e_bin, e_bin0, e_un, e_ladd, e_dupi, e_dupr, e_dup2, e_pop, e_if, e_icmp, e_sw, e_sw0, e_sw1, e_get, e_put, e_ald, e_ast, e_aald, e_aast, e_copy, e_new, e_newa, e_anewa, e_min, e_abs, e_oinit, e_callI, e_callV, e_callS, e_iret, e_zret, e_lret, e_vret, e_tl1, e_tl0, e_tl2, e_tl3, z10, Bool.false_eq_true, e_argi, e_argr, e_argn, zld_c, zst_n, zst_c, zpick_n, zpick_c, List.drop_succ_cons, List.drop_zero, List.take_succ_cons, List.take_zero, List.length_cons, List.length_nil, List.reverse_cons, List.reverse_nil, List.nil_append, List.cons_append, List.append_nil, List.getElem?_cons_zero, List.getElem?_cons_succ, List.set_cons_zero, List.set_cons_succ, Nat.add_sub_cancel_left, Nat.sub_self, Nat.add_zero, Nat.zero_add, Nat.le_add_right, Nat.le_refl, true_and, and_true, va_rf, zok, Nat.add_left_cancel_iff, Nat.add_eq_left, Nat.left_eq_add, eq_self, if_true, if_false, not_false_eq_true, not_true_eq_false, false_implies, true_implies, Nat.reduceEqDiff, Nat.reduceAdd, Nat.reduceLT, Nat.reduceLeDiff, reduceIte, q1]
    exact hP E hbc (fun _ _ => rfl)
set_option maxRecDepth 20000 in
theorem f_X5_mark_c203 : Cond.constant RX5 203 (-1000000) ∈ wsX5_mark := by decide +kernel
set_option maxRecDepth 100000 in
set_option maxHeartbeats 4000000 in
theorem S_X5_mark_0 {p : Program} {e : Env} {s : State} {m : MethodId} {args : Array Value} {below : List Frame} {meth : Method} {c : Code} {D : va_G} {cy : zY} {b n0 : Nat} {P : zPo} (la : Launch) (X : zX p la e (rm_X5_mark) s m args below meth c 3 D cy b n0 cX5_mark wsX5_mark RX5) (hr : meth.sig.returnType = (some .int)) (h_X5_boyMark : zMet la yX5_boyMark wsX5_boyMark rm_X5_boyMark 0 0 sp_X5_boyMark) (h_X5_driverMark : zMet la yX5_driverMark wsX5_driverMark rm_X5_driverMark 0 0 sp_X5_driverMark) (h_X5_girlMark : zMet la yX5_girlMark wsX5_girlMark rm_X5_girlMark 0 0 sp_X5_girlMark) (h_X5_isRider : zMet la yX5_isRider wsX5_isRider rm_X5_isRider 0 0 sp_X5_isRider) (h_X5_nunMark : zMet la yX5_nunMark wsX5_nunMark rm_X5_nunMark 0 0 sp_X5_nunMark) (h_X5_riderMark : zMet la yX5_riderMark wsX5_riderMark rm_X5_riderMark 0 0 sp_X5_riderMark) (h_X5_widowerMark : zMet la yX5_widowerMark wsX5_widowerMark rm_X5_widowerMark 0 0 sp_X5_widowerMark) : zS p la e (rm_X5_mark) s m args below meth c (MQ below (zQ D b (n0 + 0) P) args s 0 0 (fun q => b ≤ q)) 3 D b n0 0 (B_X5_mark_0 b n0 cy P (zAt p la e (rm_X5_mark) s m args below meth c (MQ below (zQ D b (n0 + 0) P) args s 0 0 (fun q => b ≤ q)) 3 D b n0)) := by
  unfold B_X5_mark_0
  exact (s_aload_n X dX5_mark_0 rfl (s_iload_n X dX5_mark_1 rfl (s_callV X h_X5_isRider dX5_mark_2 rfl gX5_mark_X5_isRider rfl rfl rfl (by decide +kernel) ⟨by decide, by decide⟩ (s_if_ne X dX5_mark_5 (by decide) (s_iload_n X dX5_mark_11 rfl (s_table X dX5_mark_12 (fun x hx => by have q0 := lv_neT (hx (0, _) (List.mem_of_getElem? (i := 0) rfl)) (a := 0) rfl; have q1 := lv_neT (hx (1, _) (List.mem_of_getElem? (i := 1) rfl)) (a := 1) rfl; have q2 := lv_neT (hx (2, _) (List.mem_of_getElem? (i := 2) rfl)) (a := 2) rfl; have q3 := lv_neT (hx (3, _) (List.mem_of_getElem? (i := 3) rfl)) (a := 3) rfl; have q4 := lv_neT (hx (4, _) (List.mem_of_getElem? (i := 4) rfl)) (a := 4) rfl; have q5 := lv_neT (hx (5, _) (List.mem_of_getElem? (i := 5) rfl)) (a := 5) rfl; omega) (by decide) (s_ldc X dX5_mark_88 f_X5_mark_c203 (s_iret X dX5_mark_90 hr)) (List.forall_mem_cons.mpr ⟨⟨40, 52, (show ¬ (0 : Int32).toInt < 0 from by decide), (show ¬ 5 < (0 : Int32).toInt from by decide), rfl, by decide, (s_aload_n X dX5_mark_52 rfl (s_iload_n X dX5_mark_53 rfl (s_callV X h_X5_riderMark dX5_mark_54 rfl gX5_mark_X5_riderMark rfl rfl rfl (by decide +kernel) ⟨by decide, by decide⟩ (s_iret X dX5_mark_57 hr))))⟩, List.forall_mem_cons.mpr ⟨⟨46, 58, (show ¬ (1 : Int32).toInt < 0 from by decide), (show ¬ 5 < (1 : Int32).toInt from by decide), rfl, by decide, (s_aload_n X dX5_mark_58 rfl (s_iload_n X dX5_mark_59 rfl (s_callV X h_X5_nunMark dX5_mark_60 rfl gX5_mark_X5_nunMark rfl rfl rfl (by decide +kernel) ⟨by decide, by decide⟩ (s_iret X dX5_mark_63 hr))))⟩, List.forall_mem_cons.mpr ⟨⟨52, 64, (show ¬ (2 : Int32).toInt < 0 from by decide), (show ¬ 5 < (2 : Int32).toInt from by decide), rfl, by decide, (s_aload_n X dX5_mark_64 rfl (s_iload_n X dX5_mark_65 rfl (s_callV X h_X5_boyMark dX5_mark_66 rfl gX5_mark_X5_boyMark rfl rfl rfl (by decide +kernel) ⟨by decide, by decide⟩ (s_iret X dX5_mark_69 hr))))⟩, List.forall_mem_cons.mpr ⟨⟨58, 70, (show ¬ (3 : Int32).toInt < 0 from by decide), (show ¬ 5 < (3 : Int32).toInt from by decide), rfl, by decide, (s_aload_n X dX5_mark_70 rfl (s_iload_n X dX5_mark_71 rfl (s_callV X h_X5_widowerMark dX5_mark_72 rfl gX5_mark_X5_widowerMark rfl rfl rfl (by decide +kernel) ⟨by decide, by decide⟩ (s_iret X dX5_mark_75 hr))))⟩, List.forall_mem_cons.mpr ⟨⟨64, 76, (show ¬ (4 : Int32).toInt < 0 from by decide), (show ¬ 5 < (4 : Int32).toInt from by decide), rfl, by decide, (s_aload_n X dX5_mark_76 rfl (s_iload_n X dX5_mark_77 rfl (s_callV X h_X5_girlMark dX5_mark_78 rfl gX5_mark_X5_girlMark rfl rfl rfl (by decide +kernel) ⟨by decide, by decide⟩ (s_iret X dX5_mark_81 hr))))⟩, List.forall_mem_cons.mpr ⟨⟨70, 82, (show ¬ (5 : Int32).toInt < 0 from by decide), (show ¬ 5 < (5 : Int32).toInt from by decide), rfl, by decide, (s_aload_n X dX5_mark_82 rfl (s_iload_n X dX5_mark_83 rfl (s_callV X h_X5_driverMark dX5_mark_84 rfl gX5_mark_X5_driverMark rfl rfl rfl (by decide +kernel) ⟨by decide, by decide⟩ (s_iret X dX5_mark_87 hr))))⟩, fun _ h => absurd h List.not_mem_nil⟩⟩⟩⟩⟩⟩))) (s_ldc X dX5_mark_8 f_X5_mark_c203 (s_iret X dX5_mark_10 hr))))))
theorem w_X5_mark (la : Launch) (h_X5_boyMark : zMet la yX5_boyMark wsX5_boyMark rm_X5_boyMark 0 0 sp_X5_boyMark) (h_X5_driverMark : zMet la yX5_driverMark wsX5_driverMark rm_X5_driverMark 0 0 sp_X5_driverMark) (h_X5_girlMark : zMet la yX5_girlMark wsX5_girlMark rm_X5_girlMark 0 0 sp_X5_girlMark) (h_X5_isRider : zMet la yX5_isRider wsX5_isRider rm_X5_isRider 0 0 sp_X5_isRider) (h_X5_nunMark : zMet la yX5_nunMark wsX5_nunMark rm_X5_nunMark 0 0 sp_X5_nunMark) (h_X5_riderMark : zMet la yX5_riderMark wsX5_riderMark rm_X5_riderMark 0 0 sp_X5_riderMark) (h_X5_widowerMark : zMet la yX5_widowerMark wsX5_widowerMark rm_X5_widowerMark 0 0 sp_X5_widowerMark) (sp : zSp) (vc : zVC_X5_mark sp) : zMet la yX5_mark wsX5_mark (rm_X5_mark) 0 0 sp :=
  z_of (cc := cX5_mark) (maxL := 3) (ret := (some .int)) (by decide +kernel) rfl (fun p e s m args below meth c D cy b n as E P hsp X hr hin => by
    obtain ⟨h1, h2⟩ := vc b cy n as E P (zAt p la e (rm_X5_mark) s m args below meth c (MQ below (zQ D b (n + 0) P) args s 0 0 (fun q => b ≤ q)) 3 D b n) hsp
    exact ⟨h1, S_X5_mark_0 la X hr h_X5_boyMark h_X5_driverMark h_X5_girlMark h_X5_isRider h_X5_nunMark h_X5_riderMark h_X5_widowerMark _ _ _ _ _ h2⟩)

theorem m_X5_mark (la : Launch) : zMet la yX5_mark wsX5_mark rm_X5_mark 0 0 sp_X5_mark := w_X5_mark la (m_X5_boyMark la) (m_X5_driverMark la) (m_X5_girlMark la) (m_X5_isRider la) (m_X5_nunMark la) (m_X5_riderMark la) (m_X5_widowerMark la) _ vc_X5_mark
def sp_X5_count : zSp := fun b cy as N E P => ∃ w : Int32, zPX (op_count w) [.int w] b cy as N E P
abbrev rm_X5_count : Room := { frames := 1, cells := 0, slots := 0, locals := 40 }
def B_X5_count_0 (b n0 : Nat) (cy : zY) (P : zPo) (A : Nat → zC) : zC :=
  z_iload 1 (z_switch [(0, (z_aload 0 (z_get b n0 5 1 (z_get b n0 4 0 (z_iret 0 0 P))))), (1, (z_aload 0 (z_get b n0 5 1 (z_get b n0 4 2 (z_iret 0 0 P))))), (2, (z_aload 0 (z_get b n0 5 9 (z_iret 0 0 P)))), (3, (z_aload 0 (z_get b n0 5 3 (z_get b n0 0 1 (z_get b n0 2 0 (z_iret 0 0 P)))))), (4, (z_aload 0 (z_get b n0 5 0 (z_get b n0 3 0 (z_iret 0 0 P)))))] (z_const (-1) (z_iret 0 0 P)))
def zVC_X5_count (sp : zSp) : Prop := ∀ (b : Nat) (cy : zY) (n : Nat) (as : List Value) (E : zE) (P : zPo) (A : Nat → zC), sp b cy as n E P → zgood as 2 ∧ B_X5_count_0 b n cy P A (lv_args 0 as) [] 0 0 E

set_option maxRecDepth 100000 in
set_option maxHeartbeats 4000000 in
theorem vc_X5_count : zVC_X5_count sp_X5_count := by
  intro b cy N as E P A hsp
  obtain ⟨w, K, ⟨T, D, C, I, S, tr⟩, rfl, hbc, hok, hK, hN, hP⟩ := hsp
  refine ⟨⟨Nat.le_of_ble_eq_true rfl, zg1 rfl (zg1 rfl (zg0))⟩, ?_⟩
  obtain ⟨e0, hTx, ⟨seat, items, hTo⟩, hDr, hIm, hIs, hAh, hSn, hI0, hI1⟩ := id hbc
  have hp2 := hbc.p2 hok hN
  obtain ⟨hp1, e11⟩ := id hp2
  obtain ⟨hR, hmo, hmk, hi12, _⟩ := id hp1
  obtain ⟨hn1, mf, mg, mh, m0, m1, m2, m3, hmf, hmg, hmh⟩ := id hmo
  obtain ⟨_, tf, tg, th, t0, t1, t2, t3, htf, htg, hth⟩ := id hTo
  replace m1 : E 13 = _ := m1
  replace m2 : E 14 = _ := m2
  replace m3 : E 15 = _ := m3
  replace t1 : E 4 = _ := t1
  replace t2 : E 5 = _ := t2
  replace t3 : E 6 = _ := t3
  have hpa : zPa b cy E 16 D.1 C.2.1 C.2.2 := hIm.2.2
  have hlo := hok.2.1
  have N0 : 0 < N := by omega
  have N1 : 1 < N := by omega
  have N2 : 2 < N := by omega
  have N3 : 3 < N := by omega
  have N4 : 4 < N := by omega
  have N5 : 5 < N := by omega
  have N6 : 6 < N := by omega
  have N7 : 7 < N := by omega
  have N11 : 11 < N := by omega
  have N12 : 12 < N := by omega
  have N13 : 13 < N := by omega
  have N14 : 14 < N := by omega
  have N15 : 15 < N := by omega
  have N16 : 16 < N := by omega
  have N58 : 58 < N := by omega
  have N59 : 59 < N := by omega
  have N63 : 63 < N := by omega
  have N64 : 64 < N := by omega
  have N65 : 65 < N := by omega
  have N112 : 112 < N := by omega
  replace hP := hP E hbc (fun _ _ => rfl)
  obtain ⟨_, old, pf, ho, p0, p1, _⟩ := id hpa
  obtain ⟨hT0, s2, s3, s4, s5, s6, xf, x1, x2, x3⟩ := id hTx
  simp only [op_count] at hP
  simp only [B_X5_count_0, e_cut, e_iload, e_aload, e_istore, e_astore, e_iinc, e_const, e_lconst, e_bin, e_bin0, e_un, e_ladd, e_dupi, e_dupr, e_dup2, e_pop, e_if, e_icmp, e_sw, e_sw0, e_sw1, e_get, e_put, e_ald, e_ast, e_aald, e_aast, e_copy, e_new, e_newa, e_anewa, e_min, e_abs, e_oinit, e_callI, e_callV, e_callS, e_iret, e_zret, e_lret, e_vret, e_tl1, e_tl0, e_tl2, e_tl3, z10, Bool.false_eq_true, e_argi, e_argr, e_argn, zld_c, zst_n, zst_c, zpick_n, zpick_c, List.drop_succ_cons, List.drop_zero, List.take_succ_cons, List.take_zero, List.length_cons, List.length_nil, List.reverse_cons, List.reverse_nil, List.nil_append, List.cons_append, List.append_nil, List.getElem?_cons_zero, List.getElem?_cons_succ, List.set_cons_zero, List.set_cons_succ, Nat.add_sub_cancel_left, Nat.sub_self, Nat.add_zero, Nat.zero_add, Nat.le_add_right, Nat.le_refl, true_and, and_true, va_rf, zok, Nat.add_left_cancel_iff, Nat.add_eq_left, Nat.left_eq_add, eq_self, if_true, if_false, not_false_eq_true, not_true_eq_false, false_implies, true_implies, Nat.reduceEqDiff, Nat.reduceAdd, Nat.reduceLT, Nat.reduceLeDiff, reduceIte, zB0, e0, N0, N1, N2, N3, N4, N5, N6, N7, N11, N12, N13, N14, N15, N16, N58, N59, N63, N64, N65, N112, e11, t0, p0, x1]
  refine ⟨fun c0 => ?_, fun c0 => ⟨fun c1 => ?_, fun c1 => ⟨fun c2 => ?_, fun c2 => ⟨fun c3 => ?_, fun c3 => ⟨fun c4 => ?_, fun c4 => ?_⟩⟩⟩⟩⟩
  · rw [if_pos c0] at hP; exact hP
  · rw [if_neg c0, if_pos c1] at hP; exact hP
  · rw [if_neg c0, if_neg c1, if_pos c2] at hP; exact hP
  · rw [if_neg c0, if_neg c1, if_neg c2, if_pos c3] at hP; exact hP
  · rw [if_neg c0, if_neg c1, if_neg c2, if_neg c3, if_pos c4] at hP; exact hP
  · rw [if_neg c0, if_neg c1, if_neg c2, if_neg c3, if_neg c4] at hP; exact hP
set_option maxRecDepth 20000 in
theorem f_X5_count_12 : Cond.fieldLink RX5 12 (TX5 0).1 (TX5 0).2.1 (TX5 0).2.2.1 ∈ wsX5_count := by decide +kernel
set_option maxRecDepth 20000 in
theorem k_X5_count_5 : ∀ w ∈ u_ws RX5 TX5 11, w ∈ wsX5_count := fun _ h => List.mem_cons_of_mem _ (List.mem_append_left _ (List.mem_append_left _ (List.mem_append_left _ (List.mem_append_left _ (List.mem_append_right _ h)))))
set_option maxRecDepth 20000 in
theorem f_X5_count_58 : Cond.fieldLink RX5 58 (TX3 0).1 (TX3 0).2.1 (TX3 0).2.2.1 ∈ wsX5_count := by decide +kernel
set_option maxRecDepth 20000 in
theorem k_X5_count_3 : ∀ w ∈ u_ws RX3 TX3 7, w ∈ wsX5_count := fun _ h => List.mem_cons_of_mem _ (List.mem_append_right _ h)
set_option maxRecDepth 20000 in
theorem f_X5_count_29 : Cond.fieldLink RX5 29 (TX5 3).1 (TX5 3).2.1 (TX5 3).2.2.1 ∈ wsX5_count := by decide +kernel
set_option maxRecDepth 20000 in
theorem f_X5_count_119 : Cond.fieldLink RX5 119 (TX0 1).1 (TX0 1).2.1 (TX0 1).2.2.1 ∈ wsX5_count := by decide +kernel
set_option maxRecDepth 20000 in
theorem k_X5_count_0 : ∀ w ∈ u_ws RX0 TX0 2, w ∈ wsX5_count := fun _ h => List.mem_cons_of_mem _ (List.mem_append_left _ (List.mem_append_left _ (List.mem_append_right _ h)))
set_option maxRecDepth 20000 in
theorem f_X5_count_148 : Cond.fieldLink RX5 148 (TX2 0).1 (TX2 0).2.1 (TX2 0).2.2.1 ∈ wsX5_count := by decide +kernel
set_option maxRecDepth 20000 in
theorem k_X5_count_2 : ∀ w ∈ u_ws RX2 TX2 3, w ∈ wsX5_count := fun _ h => List.mem_cons_of_mem _ (List.mem_append_left _ (List.mem_append_right _ h))
set_option maxRecDepth 20000 in
theorem f_X5_count_194 : Cond.fieldLink RX5 194 (TX5 9).1 (TX5 9).2.1 (TX5 9).2.2.1 ∈ wsX5_count := by decide +kernel
set_option maxRecDepth 20000 in
theorem f_X5_count_19 : Cond.fieldLink RX5 19 (TX5 1).1 (TX5 1).2.1 (TX5 1).2.2.1 ∈ wsX5_count := by decide +kernel
set_option maxRecDepth 20000 in
theorem f_X5_count_157 : Cond.fieldLink RX5 157 (TX4 2).1 (TX4 2).2.1 (TX4 2).2.2.1 ∈ wsX5_count := by decide +kernel
set_option maxRecDepth 20000 in
theorem k_X5_count_4 : ∀ w ∈ u_ws RX4 TX4 6, w ∈ wsX5_count := fun _ h => List.mem_cons_of_mem _ (List.mem_append_left _ (List.mem_append_left _ (List.mem_append_left _ (List.mem_append_right _ h))))
set_option maxRecDepth 20000 in
theorem f_X5_count_200 : Cond.fieldLink RX5 200 (TX4 0).1 (TX4 0).2.1 (TX4 0).2.2.1 ∈ wsX5_count := by decide +kernel
set_option maxRecDepth 100000 in
set_option maxHeartbeats 4000000 in
theorem S_X5_count_0 {p : Program} {e : Env} {s : State} {m : MethodId} {args : Array Value} {below : List Frame} {meth : Method} {c : Code} {D : va_G} {cy : zY} {b n0 : Nat} {P : zPo} (la : Launch) (X : zX p la e (rm_X5_count) s m args below meth c 2 D cy b n0 cX5_count wsX5_count RX5) (hr : meth.sig.returnType = (some .int)) : zS p la e (rm_X5_count) s m args below meth c (MQ below (zQ D b (n0 + 0) P) args s 0 0 (fun q => b ≤ q)) 2 D b n0 0 (B_X5_count_0 b n0 cy P (zAt p la e (rm_X5_count) s m args below meth c (MQ below (zQ D b (n0 + 0) P) args s 0 0 (fun q => b ≤ q)) 2 D b n0)) := by
  unfold B_X5_count_0
  exact (s_iload_n X dX5_count_0 rfl (s_table X dX5_count_1 (fun x hx => by have q0 := lv_neT (hx (0, _) (List.mem_of_getElem? (i := 0) rfl)) (a := 0) rfl; have q1 := lv_neT (hx (1, _) (List.mem_of_getElem? (i := 1) rfl)) (a := 1) rfl; have q2 := lv_neT (hx (2, _) (List.mem_of_getElem? (i := 2) rfl)) (a := 2) rfl; have q3 := lv_neT (hx (3, _) (List.mem_of_getElem? (i := 3) rfl)) (a := 3) rfl; have q4 := lv_neT (hx (4, _) (List.mem_of_getElem? (i := 4) rfl)) (a := 4) rfl; omega) (by decide) (s_iconst X dX5_count_76 (by decide) (s_iret X dX5_count_77 hr)) (List.forall_mem_cons.mpr ⟨⟨35, 36, (show ¬ (0 : Int32).toInt < 0 from by decide), (show ¬ 4 < (0 : Int32).toInt from by decide), rfl, by decide, (s_aload_n X dX5_count_36 rfl (s_get X dX5_count_37 rfl k_X5_count_5 (by decide) f_X5_count_19 (s_get X dX5_count_40 rfl k_X5_count_4 (by decide) f_X5_count_200 (s_iret X dX5_count_43 hr))))⟩, List.forall_mem_cons.mpr ⟨⟨43, 44, (show ¬ (1 : Int32).toInt < 0 from by decide), (show ¬ 4 < (1 : Int32).toInt from by decide), rfl, by decide, (s_aload_n X dX5_count_44 rfl (s_get X dX5_count_45 rfl k_X5_count_5 (by decide) f_X5_count_19 (s_get X dX5_count_48 rfl k_X5_count_4 (by decide) f_X5_count_157 (s_iret X dX5_count_51 hr))))⟩, List.forall_mem_cons.mpr ⟨⟨51, 52, (show ¬ (2 : Int32).toInt < 0 from by decide), (show ¬ 4 < (2 : Int32).toInt from by decide), rfl, by decide, (s_aload_n X dX5_count_52 rfl (s_get X dX5_count_53 rfl k_X5_count_5 (by decide) f_X5_count_194 (s_iret X dX5_count_56 hr)))⟩, List.forall_mem_cons.mpr ⟨⟨56, 57, (show ¬ (3 : Int32).toInt < 0 from by decide), (show ¬ 4 < (3 : Int32).toInt from by decide), rfl, by decide, (s_aload_n X dX5_count_57 rfl (s_get X dX5_count_58 rfl k_X5_count_5 (by decide) f_X5_count_29 (s_get X dX5_count_61 rfl k_X5_count_0 (by decide) f_X5_count_119 (s_get X dX5_count_64 rfl k_X5_count_2 (by decide) f_X5_count_148 (s_iret X dX5_count_67 hr)))))⟩, List.forall_mem_cons.mpr ⟨⟨67, 68, (show ¬ (4 : Int32).toInt < 0 from by decide), (show ¬ 4 < (4 : Int32).toInt from by decide), rfl, by decide, (s_aload_n X dX5_count_68 rfl (s_get X dX5_count_69 rfl k_X5_count_5 (by decide) f_X5_count_12 (s_get X dX5_count_72 rfl k_X5_count_3 (by decide) f_X5_count_58 (s_iret X dX5_count_75 hr))))⟩, fun _ h => absurd h List.not_mem_nil⟩⟩⟩⟩⟩)))
theorem w_X5_count (la : Launch) (sp : zSp) (vc : zVC_X5_count sp) : zMet la yX5_count wsX5_count (rm_X5_count) 0 0 sp :=
  z_of (cc := cX5_count) (maxL := 2) (ret := (some .int)) (by decide +kernel) rfl (fun p e s m args below meth c D cy b n as E P hsp X hr hin => by
    obtain ⟨h1, h2⟩ := vc b cy n as E P (zAt p la e (rm_X5_count) s m args below meth c (MQ below (zQ D b (n + 0) P) args s 0 0 (fun q => b ≤ q)) 2 D b n) hsp
    exact ⟨h1, S_X5_count_0 la X hr _ _ _ _ _ h2⟩)

theorem m_X5_count (la : Launch) : zMet la yX5_count wsX5_count rm_X5_count 0 0 sp_X5_count := w_X5_count la _ vc_X5_count
def sp_X5_trace : zSp := fun b cy as N E P => ∃ (K : Nat) (a : zA), as = [.ref b] ∧ zBC b cy E a ∧ zOk K a ∧ 159 ≤ N ∧ P (some (.long a.2.2.2.2.2)) E
abbrev rm_X5_trace : Room := { frames := 1, cells := 0, slots := 0, locals := 40 }
def B_X5_trace_0 (b n0 : Nat) (cy : zY) (P : zPo) (A : Nat → zC) : zC :=
  z_aload 0 (z_get b n0 5 10 (z_lret 0 0 P))
def zVC_X5_trace (sp : zSp) : Prop := ∀ (b : Nat) (cy : zY) (n : Nat) (as : List Value) (E : zE) (P : zPo) (A : Nat → zC), sp b cy as n E P → zgood as 1 ∧ B_X5_trace_0 b n cy P A (lv_args 0 as) [] 0 0 E

set_option maxRecDepth 100000 in
set_option maxHeartbeats 4000000 in
theorem vc_X5_trace : zVC_X5_trace sp_X5_trace := by
  intro b cy N as E P A hsp
  obtain ⟨K, ⟨T, D, C, I, S, tr⟩, rfl, hbc, hok, hN, hP⟩ := hsp
  refine ⟨⟨Nat.le_of_ble_eq_true rfl, zg1 rfl (zg0)⟩, ?_⟩
  obtain ⟨e0, hTx, ⟨seat, items, hTo⟩, hDr, hIm, hIs, hAh, hSn, hI0, hI1⟩ := id hbc
  have hp2 := hbc.p2 hok hN
  obtain ⟨hp1, e11⟩ := id hp2
  obtain ⟨hR, hmo, hmk, hi12, _⟩ := id hp1
  obtain ⟨hn1, mf, mg, mh, m0, m1, m2, m3, hmf, hmg, hmh⟩ := id hmo
  obtain ⟨_, tf, tg, th, t0, t1, t2, t3, htf, htg, hth⟩ := id hTo
  replace m1 : E 13 = _ := m1
  replace m2 : E 14 = _ := m2
  replace m3 : E 15 = _ := m3
  replace t1 : E 4 = _ := t1
  replace t2 : E 5 = _ := t2
  replace t3 : E 6 = _ := t3
  have hpa : zPa b cy E 16 D.1 C.2.1 C.2.2 := hIm.2.2
  have hlo := hok.2.1
  have N0 : 0 < N := by omega
  have N1 : 1 < N := by omega
  have N2 : 2 < N := by omega
  have N3 : 3 < N := by omega
  have N4 : 4 < N := by omega
  have N5 : 5 < N := by omega
  have N6 : 6 < N := by omega
  have N7 : 7 < N := by omega
  have N11 : 11 < N := by omega
  have N12 : 12 < N := by omega
  have N13 : 13 < N := by omega
  have N14 : 14 < N := by omega
  have N15 : 15 < N := by omega
  have N16 : 16 < N := by omega
  have N58 : 58 < N := by omega
  have N59 : 59 < N := by omega
  have N63 : 63 < N := by omega
  have N64 : 64 < N := by omega
  have N65 : 65 < N := by omega
  have N112 : 112 < N := by omega
  simp only [B_X5_trace_0, e_cut, e_iload, e_aload, e_istore, e_astore, e_iinc, e_const, e_lconst, e_bin, e_bin0, e_un, e_ladd, e_dupi, e_dupr, e_dup2, e_pop, e_if, e_icmp, e_sw, e_sw0, e_sw1, e_get, e_put, e_ald, e_ast, e_aald, e_aast, e_copy, e_new, e_newa, e_anewa, e_min, e_abs, e_oinit, e_callI, e_callV, e_callS, e_iret, e_zret, e_lret, e_vret, e_tl1, e_tl0, e_tl2, e_tl3, z10, Bool.false_eq_true, e_argi, e_argr, e_argn, zld_c, zst_n, zst_c, zpick_n, zpick_c, List.drop_succ_cons, List.drop_zero, List.take_succ_cons, List.take_zero, List.length_cons, List.length_nil, List.reverse_cons, List.reverse_nil, List.nil_append, List.cons_append, List.append_nil, List.getElem?_cons_zero, List.getElem?_cons_succ, List.set_cons_zero, List.set_cons_succ, Nat.add_sub_cancel_left, Nat.sub_self, Nat.add_zero, Nat.zero_add, Nat.le_add_right, Nat.le_refl, true_and, and_true, va_rf, zok, Nat.add_left_cancel_iff, Nat.add_eq_left, Nat.left_eq_add, eq_self, if_true, if_false, not_false_eq_true, not_true_eq_false, false_implies, true_implies, Nat.reduceEqDiff, Nat.reduceAdd, Nat.reduceLT, Nat.reduceLeDiff, reduceIte, zB0, e0, N0, N1, N2, N3, N4, N5, N6, N7, N11, N12, N13, N14, N15, N16, N58, N59, N63, N64, N65, N112]
  exact hP
set_option maxRecDepth 20000 in
theorem f_X5_trace_231 : Cond.fieldLink RX5 231 (TX5 10).1 (TX5 10).2.1 (TX5 10).2.2.1 ∈ wsX5_trace := by decide +kernel
set_option maxRecDepth 20000 in
theorem k_X5_trace_5 : ∀ w ∈ u_ws RX5 TX5 11, w ∈ wsX5_trace := fun _ h => List.mem_cons_of_mem _ (List.mem_append_right _ h)
set_option maxRecDepth 100000 in
set_option maxHeartbeats 4000000 in
theorem S_X5_trace_0 {p : Program} {e : Env} {s : State} {m : MethodId} {args : Array Value} {below : List Frame} {meth : Method} {c : Code} {D : va_G} {cy : zY} {b n0 : Nat} {P : zPo} (la : Launch) (X : zX p la e (rm_X5_trace) s m args below meth c 1 D cy b n0 cX5_trace wsX5_trace RX5) (hr : meth.sig.returnType = (some .long)) : zS p la e (rm_X5_trace) s m args below meth c (MQ below (zQ D b (n0 + 0) P) args s 0 0 (fun q => b ≤ q)) 1 D b n0 0 (B_X5_trace_0 b n0 cy P (zAt p la e (rm_X5_trace) s m args below meth c (MQ below (zQ D b (n0 + 0) P) args s 0 0 (fun q => b ≤ q)) 1 D b n0)) := by
  unfold B_X5_trace_0
  exact (s_aload_n X dX5_trace_0 rfl (s_get X dX5_trace_1 rfl k_X5_trace_5 (by decide) f_X5_trace_231 (s_lret X dX5_trace_4 hr)))
theorem w_X5_trace (la : Launch) (sp : zSp) (vc : zVC_X5_trace sp) : zMet la yX5_trace wsX5_trace (rm_X5_trace) 0 0 sp :=
  z_of (cc := cX5_trace) (maxL := 1) (ret := (some .long)) (by decide +kernel) rfl (fun p e s m args below meth c D cy b n as E P hsp X hr hin => by
    obtain ⟨h1, h2⟩ := vc b cy n as E P (zAt p la e (rm_X5_trace) s m args below meth c (MQ below (zQ D b (n + 0) P) args s 0 0 (fun q => b ≤ q)) 1 D b n) hsp
    exact ⟨h1, S_X5_trace_0 la X hr _ _ _ _ _ h2⟩)

theorem m_X5_trace (la : Launch) : zMet la yX5_trace wsX5_trace rm_X5_trace 0 0 sp_X5_trace := w_X5_trace la _ vc_X5_trace
/-! images -/
theorem zkm_lt (I : zIg) : zkm I < 4 := by unfold zkm; split <;> split <;> omega
theorem zkm_bit (I : zIg) : ∀ k, k < 2 → (zkm I).testBit k = (I k).isSome := by
  intro k hk
  unfold zkm
  rcases (show k = 0 ∨ k = 1 by omega) with rfl | rfl
  · cases (I 0).isSome <;> cases (I 1).isSome <;> decide
  · cases (I 0).isSome <;> cases (I 1).isSome <;> decide
theorem zkm_set (I : zIg) (C : zCar) : ∀ k, k < 2 → zset (zkm I) k = zkm (fun j => if j = k then some C else I j) := by
  intro k hk
  unfold zkm
  rcases (show k = 0 ∨ k = 1 by omega) with rfl | rfl
  · simp only [if_true, Option.isSome_some, show ¬ 1 = 0 by omega, if_false]
    cases (I 0).isSome <;> cases (I 1).isSome <;> decide
  · simp only [if_true, Option.isSome_some, show ¬ 0 = 1 by omega, if_false]
    cases (I 0).isSome <;> cases (I 1).isSome <;> decide
/-- the place of an image -/
def zpl (k : Nat) : Nat := if k = 0 then 65 else 112
theorem zBC.img {b : Nat} {cy : zY} {E : zE} {T : zT} {D : zD} {C : zCar} {I : zIg} {S : zSe} {tr : Int64} (h : zBC b cy E (T, D, C, I, S, tr)) {k : Nat} (hk : k < 2) {E' : zE} (h0' : E' 0 = zB0 b (nI (zkm (fun j => if j = k then some C else I j))) (nI S.1) tr) (hI : zIm b cy E' (zpl k) D.1 C.1 C.2.1 C.2.2) (hE : ∀ j, j ≠ 0 → (j < zpl k ∨ zpl k + 46 < j) → E' j = E j) : zBC b cy E' (T, D, C, (fun j => if j = k then some C else I j), S, tr) := by
  obtain ⟨h0, h1, ⟨seat, items, h2⟩, h3, h4, ⟨f, h5, h6, h7⟩, h8, ⟨g0, _, g1, g2, g3, g4, g5⟩, h10, h11⟩ := h
  have hp : 65 ≤ zpl k := by unfold zpl; split <;> omega
  have hlow : ∀ j, j ≠ 0 → j < 65 → E' j = E j := fun j a1 a2 => hE j a1 (by omega)
  refine ⟨h0', h1.congr (fun j _ _ => hlow j (by omega) (by omega)), ⟨seat, items, h2.congr (fun j _ _ => hlow j (by omega) (by omega))⟩, h3.congr (fun j _ _ => hlow j (by omega) (by omega)), h4.congr (fun j _ _ => hlow j (by omega) (by omega)), ⟨f, by rw [hlow _ (by omega) (by omega)]; exact h5, h6, h7⟩, h8.congr (fun j _ _ => hlow j (by omega) (by omega)), ⟨g0, ⟨_, _, h0'⟩, g1, g2, by rw [hlow _ (by omega) (by omega)]; exact g3, by rw [hlow _ (by omega) (by omega)]; exact g4, g5⟩, ?_, ?_⟩
  · rcases (show k = 0 ∨ k = 1 by omega) with rfl | rfl
    · exact hI
    · exact h10.congr (fun j _ _ => hE j (by omega) (by unfold zpl; simp; omega))
  · rcases (show k = 0 ∨ k = 1 by omega) with rfl | rfl
    · exact h11.congr (fun j _ _ => hE j (by omega) (by unfold zpl; simp; omega))
    · exact hI
def sp_X5_keep : zSp := fun b cy as N E P => ∃ x : Int32, zPX (op_keep x) [.int x] b cy as N E P
abbrev rm_X5_keep : Room := { frames := 4, cells := 0, slots := 0, locals := 104 }
def B_X5_keep_0 (b n0 : Nat) (cy : zY) (P : zPo) (A : Nat → zC) : zC :=
  z_iload 1 (z_callS b n0 0 0 cy 1 0 0 sp_X5_isImage (z_if (fun x => x = 0) (z_const (-1) (z_iret 0 0 P)) (z_aload 0 (z_get b n0 5 4 (z_iload 1 (z_aald b n0 (cy 3) (z_aload 0 (z_get b n0 5 3 (z_callV b n0 0 0 cy 0 1 0 0 sp_X0_copyFrom (z_aload 0 (z_dup (z_get b n0 5 5 (z_const (1) (z_iload 1 (z_bin (fun x y => x <<< (y &&& 31)) (z_bin (fun x y => x ||| y) (z_put b n0 5 5 0 (z_aload 0 (z_get b n0 5 3 (z_get b n0 0 0 (z_get b n0 1 0 (z_iret 0 0 P))))))))))))))))))))))
def zVC_X5_keep (sp : zSp) : Prop := ∀ (b : Nat) (cy : zY) (n : Nat) (as : List Value) (E : zE) (P : zPo) (A : Nat → zC), sp b cy as n E P → zgood as 2 ∧ B_X5_keep_0 b n cy P A (lv_args 0 as) [] 0 0 E

set_option maxRecDepth 100000 in
set_option maxHeartbeats 4000000 in
theorem vc_X5_keep : zVC_X5_keep sp_X5_keep := by
  intro b cy N as E P A hsp
  obtain ⟨x, K, ⟨T, D, C, I, S, tr⟩, rfl, hbc, hok, hK, hN, hP⟩ := hsp
  refine ⟨⟨Nat.le_of_ble_eq_true rfl, zg1 rfl (zg1 rfl (zg0))⟩, ?_⟩
  obtain ⟨e0, hTx, ⟨seat, items, hTo⟩, hDr, hIm, hIs, hAh, hSn, hI0, hI1⟩ := id hbc
  have hp2 := hbc.p2 hok hN
  obtain ⟨hp1, e11⟩ := id hp2
  obtain ⟨hR, hmo, hmk, hi12, _⟩ := id hp1
  obtain ⟨hn1, mf, mg, mh, m0, m1, m2, m3, hmf, hmg, hmh⟩ := id hmo
  obtain ⟨_, tf, tg, th, t0, t1, t2, t3, htf, htg, hth⟩ := id hTo
  replace m1 : E 13 = _ := m1
  replace m2 : E 14 = _ := m2
  replace m3 : E 15 = _ := m3
  replace t1 : E 4 = _ := t1
  replace t2 : E 5 = _ := t2
  replace t3 : E 6 = _ := t3
  have hpa : zPa b cy E 16 D.1 C.2.1 C.2.2 := hIm.2.2
  have hlo := hok.2.1
  have N0 : 0 < N := by omega
  have N1 : 1 < N := by omega
  have N2 : 2 < N := by omega
  have N3 : 3 < N := by omega
  have N4 : 4 < N := by omega
  have N5 : 5 < N := by omega
  have N6 : 6 < N := by omega
  have N7 : 7 < N := by omega
  have N11 : 11 < N := by omega
  have N12 : 12 < N := by omega
  have N13 : 13 < N := by omega
  have N14 : 14 < N := by omega
  have N15 : 15 < N := by omega
  have N16 : 16 < N := by omega
  have N58 : 58 < N := by omega
  have N59 : 59 < N := by omega
  have N63 : 63 < N := by omega
  have N64 : 64 < N := by omega
  have N65 : 65 < N := by omega
  have N112 : 112 < N := by omega
  simp only [op_keep] at hP
  simp only [B_X5_keep_0, e_cut, e_iload, e_aload, e_istore, e_astore, e_iinc, e_const, e_lconst, e_bin, e_bin0, e_un, e_ladd, e_dupi, e_dupr, e_dup2, e_pop, e_if, e_icmp, e_sw, e_sw0, e_sw1, e_get, e_put, e_ald, e_ast, e_aald, e_aast, e_copy, e_new, e_newa, e_anewa, e_min, e_abs, e_oinit, e_callI, e_callV, e_callS, e_iret, e_zret, e_lret, e_vret, e_tl1, e_tl0, e_tl2, e_tl3, z10, Bool.false_eq_true, e_argi, e_argr, e_argn, zld_c, zst_n, zst_c, zpick_n, zpick_c, List.drop_succ_cons, List.drop_zero, List.take_succ_cons, List.take_zero, List.length_cons, List.length_nil, List.reverse_cons, List.reverse_nil, List.nil_append, List.cons_append, List.append_nil, List.getElem?_cons_zero, List.getElem?_cons_succ, List.set_cons_zero, List.set_cons_succ, Nat.add_sub_cancel_left, Nat.sub_self, Nat.add_zero, Nat.zero_add, Nat.le_add_right, Nat.le_refl, true_and, and_true, va_rf, zok, Nat.add_left_cancel_iff, Nat.add_eq_left, Nat.left_eq_add, eq_self, if_true, if_false, not_false_eq_true, not_true_eq_false, false_implies, true_implies, Nat.reduceEqDiff, Nat.reduceAdd, Nat.reduceLT, Nat.reduceLeDiff, reduceIte]
  refine ⟨x, rfl, ?_⟩
  by_cases q1 : zisB 2 x = true
  · obtain ⟨k, hk, rfl⟩ := zisB_u q1 (by omega)
    rw [if_pos q1] at hP
    simp only [zcl_i (show k < 2 ^ 31 by omega)] at hP
    obtain ⟨jf, j58, jf0, jf1⟩ := hIs
    have hin : vp_in (nI k) 2 := vp_in_nI hk (by omega)
    have hcl : (nI k).toNatClampNeg = k := nI_clamp (by omega)
    have hjk : jf k = some (b + zpl k) := by
      rcases (show k = 0 ∨ k = 1 by omega) with rfl | rfl
      · exact jf0
      · exact jf1
    have hp65 : 65 ≤ zpl k := by unfold zpl; split <;> omega
    have hp112 : zpl k ≤ 112 := by unfold zpl; split <;> omega
    have hpN : zpl k < N := by omega
    have hsh : zImS b cy E (zpl k) := by
      rcases (show k = 0 ∨ k = 1 by omega) with rfl | rfl
      · exact hI0.sh
      · exact hI1.sh
    have hpl0 := hsh.1
    simp only [e_cut, e_iload, e_aload, e_istore, e_astore, e_iinc, e_const, e_lconst, e_bin, e_bin0, e_un, e_ladd, e_dupi, e_dupr, e_dup2, e_pop, e_if, e_icmp, e_sw, e_sw0, e_sw1, e_get, e_put, e_ald, e_ast, e_aald, e_aast, e_copy, e_new, e_newa, e_anewa, e_min, e_abs, e_oinit, e_callI, e_callV, e_callS, e_iret, e_zret, e_lret, e_vret, e_tl1, e_tl0, e_tl2, e_tl3, z10, Bool.false_eq_true, e_argi, e_argr, e_argn, zld_c, zst_n, zst_c, zpick_n, zpick_c, List.drop_succ_cons, List.drop_zero, List.take_succ_cons, List.take_zero, List.length_cons, List.length_nil, List.reverse_cons, List.reverse_nil, List.nil_append, List.cons_append, List.append_nil, List.getElem?_cons_zero, List.getElem?_cons_succ, List.set_cons_zero, List.set_cons_succ, Nat.add_sub_cancel_left, Nat.sub_self, Nat.add_zero, Nat.zero_add, Nat.le_add_right, Nat.le_refl, true_and, and_true, va_rf, zok, Nat.add_left_cancel_iff, Nat.add_eq_left, Nat.left_eq_add, eq_self, if_true, if_false, not_false_eq_true, not_true_eq_false, false_implies, true_implies, Nat.reduceEqDiff, Nat.reduceAdd, Nat.reduceLT, Nat.reduceLeDiff, reduceIte, q1, zB0, e0, N0, N1, N2, N3, N4, N5, N6, N7, N11, N12, N13, N14, N15, N16, N58, N59, N63, N64, N65, N112, j58, hin, hcl, hjk, hpN, hpl0]
    refine ⟨zpl k, 11, _, _, _, _, rfl, hsh, hIm, by omega, by omega, by omega, fun E1 hm1 hk1 => ?_⟩
    have f0 : E1 0 = zB0 b (nI (zkm I)) (nI S.1) tr := by rw [hk1 _ (by omega)]; exact e0
    have f11 : E1 11 = .inr (0, [.ref (b + 12), .ref (b + 16)]) := by rw [hk1 _ (by omega)]; exact e11
    have f12 : E1 12 = E 12 := hk1 _ (by omega)
    have hz4 := zkm_lt I
    simp only [e_cut, e_iload, e_aload, e_istore, e_astore, e_iinc, e_const, e_lconst, e_bin, e_bin0, e_un, e_ladd, e_dupi, e_dupr, e_dup2, e_pop, e_if, e_icmp, e_sw, e_sw0, e_sw1, e_get, e_put, e_ald, e_ast, e_aald, e_aast, e_copy, e_new, e_newa, e_anewa, e_min, e_abs, e_oinit, e_callI, e_callV, e_callS, e_iret, e_zret, e_lret, e_vret, e_tl1, e_tl0, e_tl2, e_tl3, z10, Bool.false_eq_true, e_argi, e_argr, e_argn, zld_c, zst_n, zst_c, zpick_n, zpick_c, List.drop_succ_cons, List.drop_zero, List.take_succ_cons, List.take_zero, List.length_cons, List.length_nil, List.reverse_cons, List.reverse_nil, List.nil_append, List.cons_append, List.append_nil, List.getElem?_cons_zero, List.getElem?_cons_succ, List.set_cons_zero, List.set_cons_succ, Nat.add_sub_cancel_left, Nat.sub_self, Nat.add_zero, Nat.zero_add, Nat.le_add_right, Nat.le_refl, true_and, and_true, va_rf, zok, Nat.add_left_cancel_iff, Nat.add_eq_left, Nat.left_eq_add, eq_self, if_true, if_false, not_false_eq_true, not_true_eq_false, false_implies, true_implies, Nat.reduceEqDiff, Nat.reduceAdd, Nat.reduceLT, Nat.reduceLeDiff, reduceIte, zB0, f0, N0, N1, N2, N3, N4, N5, N6, N7, N11, N12, N13, N14, N15, N16, N58, N59, N63, N64, N65, N112, e_up, f11, f12, m0, zset_i (show zkm I < 64 by omega) (show k < 6 by omega), zkm_set I C k hk]
    refine hP _ (hbc.img hk (by simp [e_up, zB0]) (hm1.congr (fun j _ _ => by simp only [e_up]; rw [if_neg (by omega)])) (fun j a1 a2 => by simp only [e_up]; rw [if_neg a1]; exact hk1 j a2)) (fun j hj => ?_)
    simp only [e_up]; rw [if_neg (by omega)]; exact hk1 j (by omega)
  · rw [if_neg q1] at hP
    simp only [e_cut, e_iload, e_aload, e_istore, e_astore, e_iinc, e_const, e_lconst, e_bin, e_bin0, e_un, e_ladd, e_dupi, e_dupr, e_dup2, e_pop, e_if, e_icmp, e_sw, e_sw0, e_sw1, e_get, e_put, e_ald, e_ast, e_aald, e_aast, e_copy, e_new, e_newa, e_anewa, e_min, e_abs, e_oinit, e_callI, e_callV, e_callS, e_iret, e_zret, e_lret, e_vret, e_tl1, e_tl0, e_tl2, e_tl3, z10, Bool.false_eq_true, e_argi, e_argr, e_argn, zld_c, zst_n, zst_c, zpick_n, zpick_c, List.drop_succ_cons, List.drop_zero, List.take_succ_cons, List.take_zero, List.length_cons, List.length_nil, List.reverse_cons, List.reverse_nil, List.nil_append, List.cons_append, List.append_nil, List.getElem?_cons_zero, List.getElem?_cons_succ, List.set_cons_zero, List.set_cons_succ, Nat.add_sub_cancel_left, Nat.sub_self, Nat.add_zero, Nat.zero_add, Nat.le_add_right, Nat.le_refl, true_and, and_true, va_rf, zok, Nat.add_left_cancel_iff, Nat.add_eq_left, Nat.left_eq_add, eq_self, if_true, if_false, not_false_eq_true, not_true_eq_false, false_implies, true_implies, Nat.reduceEqDiff, Nat.reduceAdd, Nat.reduceLT, Nat.reduceLeDiff, reduceIte, q1]
    exact hP E hbc (fun _ _ => rfl)
set_option maxRecDepth 20000 in
theorem f_X5_keep_33 : Cond.fieldLink RX5 33 (TX5 4).1 (TX5 4).2.1 (TX5 4).2.2.1 ∈ wsX5_keep := by decide +kernel
set_option maxRecDepth 20000 in
theorem k_X5_keep_5 : ∀ w ∈ u_ws RX5 TX5 11, w ∈ wsX5_keep := fun _ h => List.mem_cons_of_mem _ (List.mem_append_left _ (List.mem_append_left _ (List.mem_append_left _ (List.mem_append_right _ h))))
set_option maxRecDepth 20000 in
theorem f_X5_keep_29 : Cond.fieldLink RX5 29 (TX5 3).1 (TX5 3).2.1 (TX5 3).2.2.1 ∈ wsX5_keep := by decide +kernel
set_option maxRecDepth 20000 in
theorem f_X5_keep_228 : Cond.fieldLink RX5 228 (TX5 5).1 (TX5 5).2.1 (TX5 5).2.2.1 ∈ wsX5_keep := by decide +kernel
set_option maxRecDepth 20000 in
theorem f_X5_keep_76 : Cond.fieldLink RX5 76 (TX0 0).1 (TX0 0).2.1 (TX0 0).2.2.1 ∈ wsX5_keep := by decide +kernel
set_option maxRecDepth 20000 in
theorem k_X5_keep_0 : ∀ w ∈ u_ws RX0 TX0 2, w ∈ wsX5_keep := fun _ h => List.mem_cons_of_mem _ (List.mem_append_left _ (List.mem_append_left _ (List.mem_append_right _ h)))
set_option maxRecDepth 20000 in
theorem f_X5_keep_116 : Cond.fieldLink RX5 116 (TX1 0).1 (TX1 0).2.1 (TX1 0).2.2.1 ∈ wsX5_keep := by decide +kernel
set_option maxRecDepth 20000 in
theorem k_X5_keep_1 : ∀ w ∈ u_ws RX1 TX1 7, w ∈ wsX5_keep := fun _ h => List.mem_cons_of_mem _ (List.mem_append_left _ (List.mem_append_right _ h))
set_option maxRecDepth 100000 in
set_option maxHeartbeats 4000000 in
theorem S_X5_keep_0 {p : Program} {e : Env} {s : State} {m : MethodId} {args : Array Value} {below : List Frame} {meth : Method} {c : Code} {D : va_G} {cy : zY} {b n0 : Nat} {P : zPo} (la : Launch) (X : zX p la e (rm_X5_keep) s m args below meth c 2 D cy b n0 cX5_keep wsX5_keep RX5) (hr : meth.sig.returnType = (some .int)) (h_X0_copyFrom : zMet la yX0_copyFrom wsX0_copyFrom rm_X0_copyFrom 0 0 sp_X0_copyFrom) (h_X5_isImage : zMet la yX5_isImage wsX5_isImage rm_X5_isImage 0 0 sp_X5_isImage) : zS p la e (rm_X5_keep) s m args below meth c (MQ below (zQ D b (n0 + 0) P) args s 0 0 (fun q => b ≤ q)) 2 D b n0 0 (B_X5_keep_0 b n0 cy P (zAt p la e (rm_X5_keep) s m args below meth c (MQ below (zQ D b (n0 + 0) P) args s 0 0 (fun q => b ≤ q)) 2 D b n0)) := by
  unfold B_X5_keep_0
  exact (s_iload_n X dX5_keep_0 rfl (s_callS X h_X5_isImage dX5_keep_1 gX5_keep_X5_isImage rfl rfl rfl (by decide +kernel) ⟨by decide, by decide⟩ (s_if_ne X dX5_keep_4 (by decide) (s_aload_n X dX5_keep_9 rfl (s_get X dX5_keep_10 rfl k_X5_keep_5 (by decide) f_X5_keep_33 (s_iload_n X dX5_keep_13 rfl (s_aald X dX5_keep_14 (t0 := 3) rfl (s_aload_n X dX5_keep_15 rfl (s_get X dX5_keep_16 rfl k_X5_keep_5 (by decide) f_X5_keep_29 (s_callV X h_X0_copyFrom dX5_keep_19 rfl gX5_keep_X0_copyFrom rfl rfl rfl (by decide +kernel) ⟨by decide, by decide⟩ (s_aload_n X dX5_keep_22 rfl (s_dup X dX5_keep_23 (s_get X dX5_keep_24 rfl k_X5_keep_5 (by decide) f_X5_keep_228 (s_iconst X dX5_keep_27 (by decide) (s_iload_n X dX5_keep_28 rfl (s_ishl X dX5_keep_29 (s_ior X dX5_keep_30 (s_put X dX5_keep_31 rfl k_X5_keep_5 tyX5_ok nmX5 (by decide) f_X5_keep_228 rfl (tyX5_ok 5 (by decide)) zok_int (s_aload_n X dX5_keep_34 rfl (s_get X dX5_keep_35 rfl k_X5_keep_5 (by decide) f_X5_keep_29 (s_get X dX5_keep_38 rfl k_X5_keep_0 (by decide) f_X5_keep_76 (s_get X dX5_keep_41 rfl k_X5_keep_1 (by decide) f_X5_keep_116 (s_iret X dX5_keep_44 hr)))))))))))))))))))) (s_iconst X dX5_keep_7 (by decide) (s_iret X dX5_keep_8 hr)))))
theorem w_X5_keep (la : Launch) (h_X0_copyFrom : zMet la yX0_copyFrom wsX0_copyFrom rm_X0_copyFrom 0 0 sp_X0_copyFrom) (h_X5_isImage : zMet la yX5_isImage wsX5_isImage rm_X5_isImage 0 0 sp_X5_isImage) (sp : zSp) (vc : zVC_X5_keep sp) : zMet la yX5_keep wsX5_keep (rm_X5_keep) 0 0 sp :=
  z_of (cc := cX5_keep) (maxL := 2) (ret := (some .int)) (by decide +kernel) rfl (fun p e s m args below meth c D cy b n as E P hsp X hr hin => by
    obtain ⟨h1, h2⟩ := vc b cy n as E P (zAt p la e (rm_X5_keep) s m args below meth c (MQ below (zQ D b (n + 0) P) args s 0 0 (fun q => b ≤ q)) 2 D b n) hsp
    exact ⟨h1, S_X5_keep_0 la X hr h_X0_copyFrom h_X5_isImage _ _ _ _ _ h2⟩)

theorem m_X5_keep (la : Launch) : zMet la yX5_keep wsX5_keep rm_X5_keep 0 0 sp_X5_keep := w_X5_keep la (m_X0_copyFrom la) (m_X5_isImage la) _ vc_X5_keep
def sp_X5_back : zSp := fun b cy as N E P => ∃ x : Int32, zPX (op_back x) [.int x] b cy as N E P
abbrev rm_X5_back : Room := { frames := 4, cells := 0, slots := 0, locals := 104 }
def B_X5_back_0 (b n0 : Nat) (cy : zY) (P : zPo) (A : Nat → zC) : zC :=
  z_iload 1 (z_callS b n0 0 0 cy 1 0 0 sp_X5_isImage (z_if (fun x => x = 0) (z_const (-1) (z_iret 0 0 P)) (z_aload 0 (z_get b n0 5 5 (z_iload 1 (z_bin (fun x y => x >>> (y &&& 31)) (z_const (1) (z_bin (fun x y => x &&& y) (z_if (fun x => x = 0) (z_const (-2) (z_iret 0 0 P)) (z_aload 0 (z_get b n0 5 3 (z_aload 0 (z_get b n0 5 4 (z_iload 1 (z_aald b n0 (cy 3) (z_callV b n0 0 0 cy 0 1 0 0 sp_X0_copyFrom (z_aload 0 (z_get b n0 5 3 (z_get b n0 0 0 (z_get b n0 1 0 (z_iret 0 0 P)))))))))))))))))))))
def zVC_X5_back (sp : zSp) : Prop := ∀ (b : Nat) (cy : zY) (n : Nat) (as : List Value) (E : zE) (P : zPo) (A : Nat → zC), sp b cy as n E P → zgood as 2 ∧ B_X5_back_0 b n cy P A (lv_args 0 as) [] 0 0 E

set_option maxRecDepth 100000 in
set_option maxHeartbeats 4000000 in
theorem vc_X5_back : zVC_X5_back sp_X5_back := by
  intro b cy N as E P A hsp
  obtain ⟨x, K, ⟨T, D, C, I, S, tr⟩, rfl, hbc, hok, hK, hN, hP⟩ := hsp
  refine ⟨⟨Nat.le_of_ble_eq_true rfl, zg1 rfl (zg1 rfl (zg0))⟩, ?_⟩
  obtain ⟨e0, hTx, ⟨seat, items, hTo⟩, hDr, hIm, hIs, hAh, hSn, hI0, hI1⟩ := id hbc
  have hp2 := hbc.p2 hok hN
  obtain ⟨hp1, e11⟩ := id hp2
  obtain ⟨hR, hmo, hmk, hi12, _⟩ := id hp1
  obtain ⟨hn1, mf, mg, mh, m0, m1, m2, m3, hmf, hmg, hmh⟩ := id hmo
  obtain ⟨_, tf, tg, th, t0, t1, t2, t3, htf, htg, hth⟩ := id hTo
  replace m1 : E 13 = _ := m1
  replace m2 : E 14 = _ := m2
  replace m3 : E 15 = _ := m3
  replace t1 : E 4 = _ := t1
  replace t2 : E 5 = _ := t2
  replace t3 : E 6 = _ := t3
  have hpa : zPa b cy E 16 D.1 C.2.1 C.2.2 := hIm.2.2
  have hlo := hok.2.1
  have N0 : 0 < N := by omega
  have N1 : 1 < N := by omega
  have N2 : 2 < N := by omega
  have N3 : 3 < N := by omega
  have N4 : 4 < N := by omega
  have N5 : 5 < N := by omega
  have N6 : 6 < N := by omega
  have N7 : 7 < N := by omega
  have N11 : 11 < N := by omega
  have N12 : 12 < N := by omega
  have N13 : 13 < N := by omega
  have N14 : 14 < N := by omega
  have N15 : 15 < N := by omega
  have N16 : 16 < N := by omega
  have N58 : 58 < N := by omega
  have N59 : 59 < N := by omega
  have N63 : 63 < N := by omega
  have N64 : 64 < N := by omega
  have N65 : 65 < N := by omega
  have N112 : 112 < N := by omega
  simp only [op_back] at hP
  simp only [B_X5_back_0, e_cut, e_iload, e_aload, e_istore, e_astore, e_iinc, e_const, e_lconst, e_bin, e_bin0, e_un, e_ladd, e_dupi, e_dupr, e_dup2, e_pop, e_if, e_icmp, e_sw, e_sw0, e_sw1, e_get, e_put, e_ald, e_ast, e_aald, e_aast, e_copy, e_new, e_newa, e_anewa, e_min, e_abs, e_oinit, e_callI, e_callV, e_callS, e_iret, e_zret, e_lret, e_vret, e_tl1, e_tl0, e_tl2, e_tl3, z10, Bool.false_eq_true, e_argi, e_argr, e_argn, zld_c, zst_n, zst_c, zpick_n, zpick_c, List.drop_succ_cons, List.drop_zero, List.take_succ_cons, List.take_zero, List.length_cons, List.length_nil, List.reverse_cons, List.reverse_nil, List.nil_append, List.cons_append, List.append_nil, List.getElem?_cons_zero, List.getElem?_cons_succ, List.set_cons_zero, List.set_cons_succ, Nat.add_sub_cancel_left, Nat.sub_self, Nat.add_zero, Nat.zero_add, Nat.le_add_right, Nat.le_refl, true_and, and_true, va_rf, zok, Nat.add_left_cancel_iff, Nat.add_eq_left, Nat.left_eq_add, eq_self, if_true, if_false, not_false_eq_true, not_true_eq_false, false_implies, true_implies, Nat.reduceEqDiff, Nat.reduceAdd, Nat.reduceLT, Nat.reduceLeDiff, reduceIte]
  refine ⟨x, rfl, ?_⟩
  by_cases q1 : zisB 2 x = true
  · obtain ⟨k, hk, rfl⟩ := zisB_u q1 (by omega)
    rw [if_pos q1] at hP
    simp only [zcl_i (show k < 2 ^ 31 by omega)] at hP
    obtain ⟨jf, j58, jf0, jf1⟩ := hIs
    have hin : vp_in (nI k) 2 := vp_in_nI hk (by omega)
    have hcl : (nI k).toNatClampNeg = k := nI_clamp (by omega)
    have hjk : jf k = some (b + zpl k) := by
      rcases (show k = 0 ∨ k = 1 by omega) with rfl | rfl
      · exact jf0
      · exact jf1
    have hp65 : 65 ≤ zpl k := by unfold zpl; split <;> omega
    have hp112 : zpl k ≤ 112 := by unfold zpl; split <;> omega
    have hpN : zpl k < N := by omega
    have hio : zImO b cy E (zpl k) D.1 (I k) := by
      rcases (show k = 0 ∨ k = 1 by omega) with rfl | rfl
      · exact hI0
      · exact hI1
    have hpl0 := hio.sh.1
    have hz4 := zkm_lt I
    simp only [e_cut, e_iload, e_aload, e_istore, e_astore, e_iinc, e_const, e_lconst, e_bin, e_bin0, e_un, e_ladd, e_dupi, e_dupr, e_dup2, e_pop, e_if, e_icmp, e_sw, e_sw0, e_sw1, e_get, e_put, e_ald, e_ast, e_aald, e_aast, e_copy, e_new, e_newa, e_anewa, e_min, e_abs, e_oinit, e_callI, e_callV, e_callS, e_iret, e_zret, e_lret, e_vret, e_tl1, e_tl0, e_tl2, e_tl3, z10, Bool.false_eq_true, e_argi, e_argr, e_argn, zld_c, zst_n, zst_c, zpick_n, zpick_c, List.drop_succ_cons, List.drop_zero, List.take_succ_cons, List.take_zero, List.length_cons, List.length_nil, List.reverse_cons, List.reverse_nil, List.nil_append, List.cons_append, List.append_nil, List.getElem?_cons_zero, List.getElem?_cons_succ, List.set_cons_zero, List.set_cons_succ, Nat.add_sub_cancel_left, Nat.sub_self, Nat.add_zero, Nat.zero_add, Nat.le_add_right, Nat.le_refl, true_and, and_true, va_rf, zok, Nat.add_left_cancel_iff, Nat.add_eq_left, Nat.left_eq_add, eq_self, if_true, if_false, not_false_eq_true, not_true_eq_false, false_implies, true_implies, Nat.reduceEqDiff, Nat.reduceAdd, Nat.reduceLT, Nat.reduceLeDiff, reduceIte, q1, zB0, e0, N0, N1, N2, N3, N4, N5, N6, N7, N11, N12, N13, N14, N15, N16, N58, N59, N63, N64, N65, N112, zbit (show zkm I < 64 by omega) (show k < 6 by omega), zkm_bit I k hk]
    cases hIk : I k with
    | none =>
      rw [hIk] at hP
      simp only [Option.isSome_none, e_cut, e_iload, e_aload, e_istore, e_astore, e_iinc, e_const, e_lconst, e_bin, e_bin0, e_un, e_ladd, e_dupi, e_dupr, e_dup2, e_pop, e_if, e_icmp, e_sw, e_sw0, e_sw1, e_get, e_put, e_ald, e_ast, e_aald, e_aast, e_copy, e_new, e_newa, e_anewa, e_min, e_abs, e_oinit, e_callI, e_callV, e_callS, e_iret, e_zret, e_lret, e_vret, e_tl1, e_tl0, e_tl2, e_tl3, z10, Bool.false_eq_true, e_argi, e_argr, e_argn, zld_c, zst_n, zst_c, zpick_n, zpick_c, List.drop_succ_cons, List.drop_zero, List.take_succ_cons, List.take_zero, List.length_cons, List.length_nil, List.reverse_cons, List.reverse_nil, List.nil_append, List.cons_append, List.append_nil, List.getElem?_cons_zero, List.getElem?_cons_succ, List.set_cons_zero, List.set_cons_succ, Nat.add_sub_cancel_left, Nat.sub_self, Nat.add_zero, Nat.zero_add, Nat.le_add_right, Nat.le_refl, true_and, and_true, va_rf, zok, Nat.add_left_cancel_iff, Nat.add_eq_left, Nat.left_eq_add, eq_self, if_true, if_false, not_false_eq_true, not_true_eq_false, false_implies, true_implies, Nat.reduceEqDiff, Nat.reduceAdd, Nat.reduceLT, Nat.reduceLeDiff, reduceIte]
      exact hP E hbc (fun _ _ => rfl)
    | some C' =>
      rw [hIk] at hP hio
      simp only [Option.isSome_some, e_cut, e_iload, e_aload, e_istore, e_astore, e_iinc, e_const, e_lconst, e_bin, e_bin0, e_un, e_ladd, e_dupi, e_dupr, e_dup2, e_pop, e_if, e_icmp, e_sw, e_sw0, e_sw1, e_get, e_put, e_ald, e_ast, e_aald, e_aast, e_copy, e_new, e_newa, e_anewa, e_min, e_abs, e_oinit, e_callI, e_callV, e_callS, e_iret, e_zret, e_lret, e_vret, e_tl1, e_tl0, e_tl2, e_tl3, z10, Bool.false_eq_true, e_argi, e_argr, e_argn, zld_c, zst_n, zst_c, zpick_n, zpick_c, List.drop_succ_cons, List.drop_zero, List.take_succ_cons, List.take_zero, List.length_cons, List.length_nil, List.reverse_cons, List.reverse_nil, List.nil_append, List.cons_append, List.append_nil, List.getElem?_cons_zero, List.getElem?_cons_succ, List.set_cons_zero, List.set_cons_succ, Nat.add_sub_cancel_left, Nat.sub_self, Nat.add_zero, Nat.zero_add, Nat.le_add_right, Nat.le_refl, true_and, and_true, va_rf, zok, Nat.add_left_cancel_iff, Nat.add_eq_left, Nat.left_eq_add, eq_self, if_true, if_false, not_false_eq_true, not_true_eq_false, false_implies, true_implies, Nat.reduceEqDiff, Nat.reduceAdd, Nat.reduceLT, Nat.reduceLeDiff, reduceIte, zB0, e0, N0, N1, N2, N3, N4, N5, N6, N7, N11, N12, N13, N14, N15, N16, N58, N59, N63, N64, N65, N112, j58, hin, hcl, hjk, e11]
      refine ⟨11, zpl k, _, _, _, _, rfl, hIm.sh, hio, by omega, by omega, by omega, fun E1 hm1 hk1 => ?_⟩
      have f0 : E1 0 = zB0 b (nI (zkm I)) (nI S.1) tr := by rw [hk1 _ (by omega)]; exact e0
      have f11 : E1 11 = .inr (0, [.ref (b + 12), .ref (b + 16)]) := hm1.1
      obtain ⟨_, kf, kg, kh, k0, _⟩ := hm1.2.1
      replace k0 : E1 12 = _ := k0
      simp only [e_cut, e_iload, e_aload, e_istore, e_astore, e_iinc, e_const, e_lconst, e_bin, e_bin0, e_un, e_ladd, e_dupi, e_dupr, e_dup2, e_pop, e_if, e_icmp, e_sw, e_sw0, e_sw1, e_get, e_put, e_ald, e_ast, e_aald, e_aast, e_copy, e_new, e_newa, e_anewa, e_min, e_abs, e_oinit, e_callI, e_callV, e_callS, e_iret, e_zret, e_lret, e_vret, e_tl1, e_tl0, e_tl2, e_tl3, z10, Bool.false_eq_true, e_argi, e_argr, e_argn, zld_c, zst_n, zst_c, zpick_n, zpick_c, List.drop_succ_cons, List.drop_zero, List.take_succ_cons, List.take_zero, List.length_cons, List.length_nil, List.reverse_cons, List.reverse_nil, List.nil_append, List.cons_append, List.append_nil, List.getElem?_cons_zero, List.getElem?_cons_succ, List.set_cons_zero, List.set_cons_succ, Nat.add_sub_cancel_left, Nat.sub_self, Nat.add_zero, Nat.zero_add, Nat.le_add_right, Nat.le_refl, true_and, and_true, va_rf, zok, Nat.add_left_cancel_iff, Nat.add_eq_left, Nat.left_eq_add, eq_self, if_true, if_false, not_false_eq_true, not_true_eq_false, false_implies, true_implies, Nat.reduceEqDiff, Nat.reduceAdd, Nat.reduceLT, Nat.reduceLeDiff, reduceIte, zB0, f0, N0, N1, N2, N3, N4, N5, N6, N7, N11, N12, N13, N14, N15, N16, N58, N59, N63, N64, N65, N112, f11, k0]
      exact hP E1 (hbc.cur hm1 (fun j hj => hk1 j (by omega))) (fun j hj => hk1 j (by omega))
  · rw [if_neg q1] at hP
    simp only [e_cut, e_iload, e_aload, e_istore, e_astore, e_iinc, e_const, e_lconst, e_bin, e_bin0, e_un, e_ladd, e_dupi, e_dupr, e_dup2, e_pop, e_if, e_icmp, e_sw, e_sw0, e_sw1, e_get, e_put, e_ald, e_ast, e_aald, e_aast, e_copy, e_new, e_newa, e_anewa, e_min, e_abs, e_oinit, e_callI, e_callV, e_callS, e_iret, e_zret, e_lret, e_vret, e_tl1, e_tl0, e_tl2, e_tl3, z10, Bool.false_eq_true, e_argi, e_argr, e_argn, zld_c, zst_n, zst_c, zpick_n, zpick_c, List.drop_succ_cons, List.drop_zero, List.take_succ_cons, List.take_zero, List.length_cons, List.length_nil, List.reverse_cons, List.reverse_nil, List.nil_append, List.cons_append, List.append_nil, List.getElem?_cons_zero, List.getElem?_cons_succ, List.set_cons_zero, List.set_cons_succ, Nat.add_sub_cancel_left, Nat.sub_self, Nat.add_zero, Nat.zero_add, Nat.le_add_right, Nat.le_refl, true_and, and_true, va_rf, zok, Nat.add_left_cancel_iff, Nat.add_eq_left, Nat.left_eq_add, eq_self, if_true, if_false, not_false_eq_true, not_true_eq_false, false_implies, true_implies, Nat.reduceEqDiff, Nat.reduceAdd, Nat.reduceLT, Nat.reduceLeDiff, reduceIte, q1]
    exact hP E hbc (fun _ _ => rfl)
set_option maxRecDepth 20000 in
theorem f_X5_back_228 : Cond.fieldLink RX5 228 (TX5 5).1 (TX5 5).2.1 (TX5 5).2.2.1 ∈ wsX5_back := by decide +kernel
set_option maxRecDepth 20000 in
theorem k_X5_back_5 : ∀ w ∈ u_ws RX5 TX5 11, w ∈ wsX5_back := fun _ h => List.mem_cons_of_mem _ (List.mem_append_left _ (List.mem_append_left _ (List.mem_append_left _ (List.mem_append_right _ h))))
set_option maxRecDepth 20000 in
theorem f_X5_back_29 : Cond.fieldLink RX5 29 (TX5 3).1 (TX5 3).2.1 (TX5 3).2.2.1 ∈ wsX5_back := by decide +kernel
set_option maxRecDepth 20000 in
theorem f_X5_back_33 : Cond.fieldLink RX5 33 (TX5 4).1 (TX5 4).2.1 (TX5 4).2.2.1 ∈ wsX5_back := by decide +kernel
set_option maxRecDepth 20000 in
theorem f_X5_back_76 : Cond.fieldLink RX5 76 (TX0 0).1 (TX0 0).2.1 (TX0 0).2.2.1 ∈ wsX5_back := by decide +kernel
set_option maxRecDepth 20000 in
theorem k_X5_back_0 : ∀ w ∈ u_ws RX0 TX0 2, w ∈ wsX5_back := fun _ h => List.mem_cons_of_mem _ (List.mem_append_left _ (List.mem_append_left _ (List.mem_append_right _ h)))
set_option maxRecDepth 20000 in
theorem f_X5_back_116 : Cond.fieldLink RX5 116 (TX1 0).1 (TX1 0).2.1 (TX1 0).2.2.1 ∈ wsX5_back := by decide +kernel
set_option maxRecDepth 20000 in
theorem k_X5_back_1 : ∀ w ∈ u_ws RX1 TX1 7, w ∈ wsX5_back := fun _ h => List.mem_cons_of_mem _ (List.mem_append_left _ (List.mem_append_right _ h))
set_option maxRecDepth 100000 in
set_option maxHeartbeats 4000000 in
theorem S_X5_back_0 {p : Program} {e : Env} {s : State} {m : MethodId} {args : Array Value} {below : List Frame} {meth : Method} {c : Code} {D : va_G} {cy : zY} {b n0 : Nat} {P : zPo} (la : Launch) (X : zX p la e (rm_X5_back) s m args below meth c 2 D cy b n0 cX5_back wsX5_back RX5) (hr : meth.sig.returnType = (some .int)) (h_X0_copyFrom : zMet la yX0_copyFrom wsX0_copyFrom rm_X0_copyFrom 0 0 sp_X0_copyFrom) (h_X5_isImage : zMet la yX5_isImage wsX5_isImage rm_X5_isImage 0 0 sp_X5_isImage) : zS p la e (rm_X5_back) s m args below meth c (MQ below (zQ D b (n0 + 0) P) args s 0 0 (fun q => b ≤ q)) 2 D b n0 0 (B_X5_back_0 b n0 cy P (zAt p la e (rm_X5_back) s m args below meth c (MQ below (zQ D b (n0 + 0) P) args s 0 0 (fun q => b ≤ q)) 2 D b n0)) := by
  unfold B_X5_back_0
  exact (s_iload_n X dX5_back_0 rfl (s_callS X h_X5_isImage dX5_back_1 gX5_back_X5_isImage rfl rfl rfl (by decide +kernel) ⟨by decide, by decide⟩ (s_if_ne X dX5_back_4 (by decide) (s_aload_n X dX5_back_9 rfl (s_get X dX5_back_10 rfl k_X5_back_5 (by decide) f_X5_back_228 (s_iload_n X dX5_back_13 rfl (s_ishr X dX5_back_14 (s_iconst X dX5_back_15 (by decide) (s_iand X dX5_back_16 (s_if_ne X dX5_back_17 (by decide) (s_aload_n X dX5_back_23 rfl (s_get X dX5_back_24 rfl k_X5_back_5 (by decide) f_X5_back_29 (s_aload_n X dX5_back_27 rfl (s_get X dX5_back_28 rfl k_X5_back_5 (by decide) f_X5_back_33 (s_iload_n X dX5_back_31 rfl (s_aald X dX5_back_32 (t0 := 3) rfl (s_callV X h_X0_copyFrom dX5_back_33 rfl gX5_back_X0_copyFrom rfl rfl rfl (by decide +kernel) ⟨by decide, by decide⟩ (s_aload_n X dX5_back_36 rfl (s_get X dX5_back_37 rfl k_X5_back_5 (by decide) f_X5_back_29 (s_get X dX5_back_40 rfl k_X5_back_0 (by decide) f_X5_back_76 (s_get X dX5_back_43 rfl k_X5_back_1 (by decide) f_X5_back_116 (s_iret X dX5_back_46 hr)))))))))))) (s_bipush X dX5_back_20 (by decide) (s_iret X dX5_back_22 hr))))))))) (s_iconst X dX5_back_7 (by decide) (s_iret X dX5_back_8 hr)))))
theorem w_X5_back (la : Launch) (h_X0_copyFrom : zMet la yX0_copyFrom wsX0_copyFrom rm_X0_copyFrom 0 0 sp_X0_copyFrom) (h_X5_isImage : zMet la yX5_isImage wsX5_isImage rm_X5_isImage 0 0 sp_X5_isImage) (sp : zSp) (vc : zVC_X5_back sp) : zMet la yX5_back wsX5_back (rm_X5_back) 0 0 sp :=
  z_of (cc := cX5_back) (maxL := 2) (ret := (some .int)) (by decide +kernel) rfl (fun p e s m args below meth c D cy b n as E P hsp X hr hin => by
    obtain ⟨h1, h2⟩ := vc b cy n as E P (zAt p la e (rm_X5_back) s m args below meth c (MQ below (zQ D b (n + 0) P) args s 0 0 (fun q => b ≤ q)) 2 D b n) hsp
    exact ⟨h1, S_X5_back_0 la X hr h_X0_copyFrom h_X5_isImage _ _ _ _ _ h2⟩)

theorem m_X5_back (la : Launch) : zMet la yX5_back wsX5_back rm_X5_back 0 0 sp_X5_back := w_X5_back la (m_X0_copyFrom la) (m_X5_isImage la) _ vc_X5_back
/-! anew -/
def zI0 : zIg := fun _ => none
def sp_X5_startAnew : zSp := fun b cy as N E P => ∃ (n : Nat) (lo la seat : Nat → Nat) (line : Nat) (items kept cnt : Int32) (tr : Int64) (n' many : Nat) (past : Nat → Nat → Nat), as = [.ref b] ∧ 159 ≤ N ∧ E 0 = zB0 b kept cnt tr ∧ zTo b cy E 3 n lo la seat line items ∧ E 11 = .inr (0, [.ref (b + 12), .ref (b + 16)]) ∧ zSh b cy E 12 ∧ zPa b cy E 16 n' many past ∧ (∀ E', E' 0 = zB0 b 0 0 tr → zMo b cy E' 12 n (zfresh n seat) → (∀ n2 past2, zPa b cy E' 16 n2 0 past2) → (∀ j, j ≠ 0 → (j < 12 ∨ 15 < j) → j ≠ 16 → E' j = E j) → P none E')
abbrev rm_X5_startAnew : Room := { frames := 2, cells := 0, slots := 0, locals := 62 }
def B_X5_startAnew_0 (b n0 : Nat) (cy : zY) (P : zPo) (A : Nat → zC) : zC :=
  z_aload 0 (z_get b n0 5 3 (z_get b n0 0 0 (z_aload 0 (z_get b n0 5 1 (z_callV b n0 0 0 cy 1 1 0 0 sp_X1_begin (z_aload 0 (z_get b n0 5 3 (z_get b n0 0 1 (z_const (0) (z_put b n0 2 0 0 (z_aload 0 (z_const (0) (z_put b n0 5 9 0 (z_aload 0 (z_const (0) (z_put b n0 5 5 0 (z_vret 0 0 P)))))))))))))))))
def zVC_X5_startAnew (sp : zSp) : Prop := ∀ (b : Nat) (cy : zY) (n : Nat) (as : List Value) (E : zE) (P : zPo) (A : Nat → zC), sp b cy as n E P → zgood as 1 ∧ B_X5_startAnew_0 b n cy P A (lv_args 0 as) [] 0 0 E

set_option maxRecDepth 100000 in
set_option maxHeartbeats 4000000 in
theorem vc_X5_startAnew : zVC_X5_startAnew sp_X5_startAnew := by
  intro b cy N as E P A hsp
  obtain ⟨n, lo, la, seat, line, items, kept, cnt, tr, n', many, past, rfl, hN, e0, hTo, e11, hsh, hpa, hP⟩ := hsp
  refine ⟨⟨Nat.le_of_ble_eq_true rfl, zg1 rfl (zg0)⟩, ?_⟩
  have N0 : 0 < N := by omega
  have N11 : 11 < N := by omega
  have N12 : 12 < N := by omega
  have N16 : 16 < N := by omega
  obtain ⟨s0, s1, s2, s3, f1, g1, k1, w0, w1, w2, w3⟩ := id hsh
  simp only [B_X5_startAnew_0, e_cut, e_iload, e_aload, e_istore, e_astore, e_iinc, e_const, e_lconst, e_bin, e_bin0, e_un, e_ladd, e_dupi, e_dupr, e_dup2, e_pop, e_if, e_icmp, e_sw, e_sw0, e_sw1, e_get, e_put, e_ald, e_ast, e_aald, e_aast, e_copy, e_new, e_newa, e_anewa, e_min, e_abs, e_oinit, e_callI, e_callV, e_callS, e_iret, e_zret, e_lret, e_vret, e_tl1, e_tl0, e_tl2, e_tl3, z10, Bool.false_eq_true, e_argi, e_argr, e_argn, zld_c, zst_n, zst_c, zpick_n, zpick_c, List.drop_succ_cons, List.drop_zero, List.take_succ_cons, List.take_zero, List.length_cons, List.length_nil, List.reverse_cons, List.reverse_nil, List.nil_append, List.cons_append, List.append_nil, List.getElem?_cons_zero, List.getElem?_cons_succ, List.set_cons_zero, List.set_cons_succ, Nat.add_sub_cancel_left, Nat.sub_self, Nat.add_zero, Nat.zero_add, Nat.le_add_right, Nat.le_refl, true_and, and_true, va_rf, zok, Nat.add_left_cancel_iff, Nat.add_eq_left, Nat.left_eq_add, eq_self, if_true, if_false, not_false_eq_true, not_true_eq_false, false_implies, true_implies, Nat.reduceEqDiff, Nat.reduceAdd, Nat.reduceLT, Nat.reduceLeDiff, reduceIte, zB0, e0, N0, N11, N12, e11, w0]
  refine ⟨12, 3, n, lo, la, seat, line, items, rfl, hsh, hTo, by omega, by omega, by omega, fun E1 hm1 hk1 => ?_⟩
  have f0 : E1 0 = zB0 b kept cnt tr := by rw [hk1 _ (by omega)]; exact e0
  have f11 : E1 11 = .inr (0, [.ref (b + 12), .ref (b + 16)]) := by rw [hk1 _ (by omega)]; exact e11
  obtain ⟨hm10, old, pf, ho, p0, p1, pf2, ps, _⟩ := hpa
  have f16 : E1 16 = .inr (2, [.int (nI many), .int (nI old), .ref (b + (16 + 1))]) := by rw [hk1 _ (by omega)]; exact p0
  have kE : ∀ j, 17 ≤ j → E1 j = E j := fun j hj => hk1 j (by omega)
  simp only [e_cut, e_iload, e_aload, e_istore, e_astore, e_iinc, e_const, e_lconst, e_bin, e_bin0, e_un, e_ladd, e_dupi, e_dupr, e_dup2, e_pop, e_if, e_icmp, e_sw, e_sw0, e_sw1, e_get, e_put, e_ald, e_ast, e_aald, e_aast, e_copy, e_new, e_newa, e_anewa, e_min, e_abs, e_oinit, e_callI, e_callV, e_callS, e_iret, e_zret, e_lret, e_vret, e_tl1, e_tl0, e_tl2, e_tl3, z10, Bool.false_eq_true, e_argi, e_argr, e_argn, zld_c, zst_n, zst_c, zpick_n, zpick_c, List.drop_succ_cons, List.drop_zero, List.take_succ_cons, List.take_zero, List.length_cons, List.length_nil, List.reverse_cons, List.reverse_nil, List.nil_append, List.cons_append, List.append_nil, List.getElem?_cons_zero, List.getElem?_cons_succ, List.set_cons_zero, List.set_cons_succ, Nat.add_sub_cancel_left, Nat.sub_self, Nat.add_zero, Nat.zero_add, Nat.le_add_right, Nat.le_refl, true_and, and_true, va_rf, zok, Nat.add_left_cancel_iff, Nat.add_eq_left, Nat.left_eq_add, eq_self, if_true, if_false, not_false_eq_true, not_true_eq_false, false_implies, true_implies, Nat.reduceEqDiff, Nat.reduceAdd, Nat.reduceLT, Nat.reduceLeDiff, reduceIte, zB0, f0, N0, N11, N16, f11, f16, e_up]
  refine hP _ (by simp [e_up, zB0]) (hm1.congr (fun j _ _ => ?_)) (fun n2 past2 => ⟨by omega, old, pf, ho, by simp [e_up, nI_0], ?_, pf2, fun j hj => (ps j hj).congr (fun k a1 a2 => ?_), fun t ht => absurd ht (Nat.not_lt_zero _)⟩) (fun j a1 a2 a3 => ?_)
  · simp only [e_up]; rw [if_neg (by omega), if_neg (by omega), if_neg (by omega)]
  · simp only [e_up]; rw [if_neg (by omega), if_neg (by omega), if_neg (by omega), kE _ (by omega)]; exact p1
  · simp only [e_up]; rw [if_neg (by omega), if_neg (by omega), if_neg (by omega)]; exact kE k (by omega)
  · simp only [e_up]; rw [if_neg a1, if_neg a1, if_neg a3]; exact hk1 j a2
set_option maxRecDepth 20000 in
theorem f_X5_startAnew_29 : Cond.fieldLink RX5 29 (TX5 3).1 (TX5 3).2.1 (TX5 3).2.2.1 ∈ wsX5_startAnew := by decide +kernel
set_option maxRecDepth 20000 in
theorem k_X5_startAnew_5 : ∀ w ∈ u_ws RX5 TX5 11, w ∈ wsX5_startAnew := fun _ h => List.mem_cons_of_mem _ (List.mem_append_left _ (List.mem_append_left _ (List.mem_append_left _ (List.mem_append_left _ (List.mem_append_right _ h)))))
set_option maxRecDepth 20000 in
theorem f_X5_startAnew_76 : Cond.fieldLink RX5 76 (TX0 0).1 (TX0 0).2.1 (TX0 0).2.2.1 ∈ wsX5_startAnew := by decide +kernel
set_option maxRecDepth 20000 in
theorem k_X5_startAnew_0 : ∀ w ∈ u_ws RX0 TX0 2, w ∈ wsX5_startAnew := fun _ h => List.mem_cons_of_mem _ (List.mem_append_left _ (List.mem_append_left _ (List.mem_append_left _ (List.mem_append_right _ h))))
set_option maxRecDepth 20000 in
theorem f_X5_startAnew_19 : Cond.fieldLink RX5 19 (TX5 1).1 (TX5 1).2.1 (TX5 1).2.2.1 ∈ wsX5_startAnew := by decide +kernel
set_option maxRecDepth 20000 in
theorem f_X5_startAnew_119 : Cond.fieldLink RX5 119 (TX0 1).1 (TX0 1).2.1 (TX0 1).2.2.1 ∈ wsX5_startAnew := by decide +kernel
set_option maxRecDepth 20000 in
theorem f_X5_startAnew_148 : Cond.fieldLink RX5 148 (TX2 0).1 (TX2 0).2.1 (TX2 0).2.2.1 ∈ wsX5_startAnew := by decide +kernel
set_option maxRecDepth 20000 in
theorem k_X5_startAnew_2 : ∀ w ∈ u_ws RX2 TX2 3, w ∈ wsX5_startAnew := fun _ h => List.mem_cons_of_mem _ (List.mem_append_left _ (List.mem_append_left _ (List.mem_append_right _ h)))
set_option maxRecDepth 20000 in
theorem f_X5_startAnew_194 : Cond.fieldLink RX5 194 (TX5 9).1 (TX5 9).2.1 (TX5 9).2.2.1 ∈ wsX5_startAnew := by decide +kernel
set_option maxRecDepth 20000 in
theorem f_X5_startAnew_228 : Cond.fieldLink RX5 228 (TX5 5).1 (TX5 5).2.1 (TX5 5).2.2.1 ∈ wsX5_startAnew := by decide +kernel
set_option maxRecDepth 100000 in
set_option maxHeartbeats 4000000 in
theorem S_X5_startAnew_0 {p : Program} {e : Env} {s : State} {m : MethodId} {args : Array Value} {below : List Frame} {meth : Method} {c : Code} {D : va_G} {cy : zY} {b n0 : Nat} {P : zPo} (la : Launch) (X : zX p la e (rm_X5_startAnew) s m args below meth c 1 D cy b n0 cX5_startAnew wsX5_startAnew RX5) (hr : meth.sig.returnType = none) (h_X1_begin : zMet la yX1_begin wsX1_begin rm_X1_begin 0 0 sp_X1_begin) : zS p la e (rm_X5_startAnew) s m args below meth c (MQ below (zQ D b (n0 + 0) P) args s 0 0 (fun q => b ≤ q)) 1 D b n0 0 (B_X5_startAnew_0 b n0 cy P (zAt p la e (rm_X5_startAnew) s m args below meth c (MQ below (zQ D b (n0 + 0) P) args s 0 0 (fun q => b ≤ q)) 1 D b n0)) := by
  unfold B_X5_startAnew_0
  exact (s_aload_n X dX5_startAnew_0 rfl (s_get X dX5_startAnew_1 rfl k_X5_startAnew_5 (by decide) f_X5_startAnew_29 (s_get X dX5_startAnew_4 rfl k_X5_startAnew_0 (by decide) f_X5_startAnew_76 (s_aload_n X dX5_startAnew_7 rfl (s_get X dX5_startAnew_8 rfl k_X5_startAnew_5 (by decide) f_X5_startAnew_19 (s_callV X h_X1_begin dX5_startAnew_11 rfl gX5_startAnew_X1_begin rfl rfl rfl (by decide +kernel) ⟨by decide, by decide⟩ (s_aload_n X dX5_startAnew_14 rfl (s_get X dX5_startAnew_15 rfl k_X5_startAnew_5 (by decide) f_X5_startAnew_29 (s_get X dX5_startAnew_18 rfl k_X5_startAnew_0 (by decide) f_X5_startAnew_119 (s_iconst X dX5_startAnew_21 (by decide) (s_put X dX5_startAnew_22 rfl k_X5_startAnew_2 tyX2_ok nmX2 (by decide) f_X5_startAnew_148 rfl (tyX2_ok 0 (by decide)) zok_int (s_aload_n X dX5_startAnew_25 rfl (s_iconst X dX5_startAnew_26 (by decide) (s_put X dX5_startAnew_27 rfl k_X5_startAnew_5 tyX5_ok nmX5 (by decide) f_X5_startAnew_194 rfl (tyX5_ok 9 (by decide)) zok_int (s_aload_n X dX5_startAnew_30 rfl (s_iconst X dX5_startAnew_31 (by decide) (s_put X dX5_startAnew_32 rfl k_X5_startAnew_5 tyX5_ok nmX5 (by decide) f_X5_startAnew_228 rfl (tyX5_ok 5 (by decide)) zok_int (s_vret X dX5_startAnew_35 hr))))))))))))))))))
theorem w_X5_startAnew (la : Launch) (h_X1_begin : zMet la yX1_begin wsX1_begin rm_X1_begin 0 0 sp_X1_begin) (sp : zSp) (vc : zVC_X5_startAnew sp) : zMet la yX5_startAnew wsX5_startAnew (rm_X5_startAnew) 0 0 sp :=
  z_of (cc := cX5_startAnew) (maxL := 1) (ret := none) (by decide +kernel) rfl (fun p e s m args below meth c D cy b n as E P hsp X hr hin => by
    obtain ⟨h1, h2⟩ := vc b cy n as E P (zAt p la e (rm_X5_startAnew) s m args below meth c (MQ below (zQ D b (n + 0) P) args s 0 0 (fun q => b ≤ q)) 1 D b n) hsp
    exact ⟨h1, S_X5_startAnew_0 la X hr h_X1_begin _ _ _ _ _ h2⟩)

theorem m_X5_startAnew (la : Launch) : zMet la yX5_startAnew wsX5_startAnew rm_X5_startAnew 0 0 sp_X5_startAnew := w_X5_startAnew la (m_X1_begin la) _ vc_X5_startAnew

