def sp_X5_rings : zSp := fun b cy as N E P => ∃ x : Int32, zPX (op_rings x) [.int x] b cy as N E P
abbrev rm_X5_rings : Room := { frames := 3, cells := 0, slots := 0, locals := 88 }
def B_X5_rings_0 (b n0 : Nat) (cy : zY) (P : zPo) (A : Nat → zC) : zC :=
  z_aload 0 (z_get b n0 5 3 (z_get b n0 0 0 (z_astore 2 (z_aload 0 (z_iload 1 (z_callV b n0 0 0 cy 5 1 0 0 sp_X5_isRider (z_if (fun x => x = 0) (z_const (-1) (z_iret 0 0 P)) (z_aload 2 (z_iload 1 (z_callV b n0 0 0 cy 1 1 0 0 sp_X1_isAboard (z_if (fun x => x = 0) (z_const (-2) (z_iret 0 0 P)) (z_aload 0 (z_get b n0 5 3 (z_get b n0 0 1 (z_aload 2 (z_callV b n0 0 0 cy 2 1 0 0 sp_X2_push (z_aload 2 (z_aload 2 (z_aload 2 (z_get b n0 1 1 (z_iload 1 (z_callS b n0 0 0 cy 3 0 0 sp_X5_downByRing (z_callV b n0 0 0 cy 1 1 0 0 sp_X1_getDown (z_iret 0 0 P))))))))))))))))))))))))
def zVC_X5_rings (sp : zSp) : Prop := ∀ (b : Nat) (cy : zY) (n : Nat) (as : List Value) (E : zE) (P : zPo) (A : Nat → zC), sp b cy as n E P → zgood as 3 ∧ B_X5_rings_0 b n cy P A (lv_args 0 as) [] 0 0 E

theorem zfo_lt6 {ok : Nat → Bool} {bt : Nat → Nat → Bool} {n : Nat} (hn : n ≤ 6) : ∀ q, zfo ok bt n = some q → q < 6 := fun q h => by have := (zfo_lt h).1; omega
set_option maxRecDepth 100000 in
set_option maxHeartbeats 4000000 in
theorem vc_X5_rings : zVC_X5_rings sp_X5_rings := by
  intro b cy N as E P A hsp
  obtain ⟨x, K, ⟨T, D, C, I, S, tr⟩, rfl, hbc, hok, hK, hN, hP⟩ := hsp
  refine ⟨⟨Nat.le_of_ble_eq_true rfl, zg1 rfl (zg1 rfl (zg0))⟩, ?_⟩
  obtain ⟨e0, hTx, ⟨seat, items, hTo⟩, hDr, hIm, hIs, hAh, hSn, hI0, hI1⟩ := id hbc
  have hp2 := hbc.p2 hok hN
  obtain ⟨hp1, e11⟩ := id hp2
  obtain ⟨hR, hmo, hmk, hi12, _⟩ := id hp1
  obtain ⟨hn1, mf, mg, mh, m0, m1, m2, m3, hmf, hmg, hmh⟩ := id hmo
  obtain ⟨_, tf, tg, th, t0, t1, t2, t3, htf, htg, hth⟩ := id hTo
  replace m1 : E 13 = _ := m1
  replace m2 : E 14 = _ := m2
  replace m3 : E 15 = _ := m3
  replace t1 : E 4 = _ := t1
  replace t2 : E 5 = _ := t2
  replace t3 : E 6 = _ := t3
  have hpa : zPa b cy E 16 D.1 C.2.1 C.2.2 := hIm.2.2
  have hlo := hok.2.1
  have N0 : 0 < N := by omega
  have N1 : 1 < N := by omega
  have N2 : 2 < N := by omega
  have N3 : 3 < N := by omega
  have N4 : 4 < N := by omega
  have N5 : 5 < N := by omega
  have N6 : 6 < N := by omega
  have N7 : 7 < N := by omega
  have N11 : 11 < N := by omega
  have N12 : 12 < N := by omega
  have N13 : 13 < N := by omega
  have N14 : 14 < N := by omega
  have N15 : 15 < N := by omega
  have N16 : 16 < N := by omega
  have N58 : 58 < N := by omega
  have N59 : 59 < N := by omega
  have N63 : 63 < N := by omega
  have N64 : 64 < N := by omega
  have N65 : 65 < N := by omega
  have N112 : 112 < N := by omega
  simp only [op_rings] at hP
  simp only [B_X5_rings_0, e_cut, e_iload, e_aload, e_istore, e_astore, e_iinc, e_const, e_lconst, e_bin, e_bin0, e_un, e_ladd, e_dupi, e_dupr, e_dup2, e_pop, e_if, e_icmp, e_sw, e_sw0, e_sw1, e_get, e_put, e_ald, e_ast, e_aald, e_aast, e_copy, e_new, e_newa, e_anewa, e_min, e_abs, e_oinit, e_callI, e_callV, e_callS, e_iret, e_zret, e_lret, e_vret, e_tl1, e_tl0, e_tl2, e_tl3, z10, Bool.false_eq_true, e_argi, e_argr, e_argn, zld_c, zst_n, zst_c, zpick_n, zpick_c, List.drop_succ_cons, List.drop_zero, List.take_succ_cons, List.take_zero, List.length_cons, List.length_nil, List.reverse_cons, List.reverse_nil, List.nil_append, List.cons_append, List.append_nil, List.getElem?_cons_zero, List.getElem?_cons_succ, List.set_cons_zero, List.set_cons_succ, Nat.add_sub_cancel_left, Nat.sub_self, Nat.add_zero, Nat.zero_add, Nat.le_add_right, Nat.le_refl, true_and, and_true, va_rf, zok, Nat.add_left_cancel_iff, Nat.add_eq_left, Nat.left_eq_add, eq_self, if_true, if_false, not_false_eq_true, not_true_eq_false, false_implies, true_implies, Nat.reduceEqDiff, Nat.reduceAdd, Nat.reduceLT, Nat.reduceLeDiff, reduceIte, zB0, e0, N0, N1, N2, N3, N4, N5, N6, N7, N11, N12, N13, N14, N15, N16, N58, N59, N63, N64, N65, N112, e11]
  refine ⟨_, _, _, x, rfl, hR, hN, ?_⟩
  by_cases q1 : zisB D.1 x = true
  · obtain ⟨r, hr, rfl⟩ := zisB_t q1 hn1
    simp only [q1, if_true, zcl_i (show r < 2 ^ 31 by omega)] at hP
    simp only [e_cut, e_iload, e_aload, e_istore, e_astore, e_iinc, e_const, e_lconst, e_bin, e_bin0, e_un, e_ladd, e_dupi, e_dupr, e_dup2, e_pop, e_if, e_icmp, e_sw, e_sw0, e_sw1, e_get, e_put, e_ald, e_ast, e_aald, e_aast, e_copy, e_new, e_newa, e_anewa, e_min, e_abs, e_oinit, e_callI, e_callV, e_callS, e_iret, e_zret, e_lret, e_vret, e_tl1, e_tl0, e_tl2, e_tl3, z10, Bool.false_eq_true, e_argi, e_argr, e_argn, zld_c, zst_n, zst_c, zpick_n, zpick_c, List.drop_succ_cons, List.drop_zero, List.take_succ_cons, List.take_zero, List.length_cons, List.length_nil, List.reverse_cons, List.reverse_nil, List.nil_append, List.cons_append, List.append_nil, List.getElem?_cons_zero, List.getElem?_cons_succ, List.set_cons_zero, List.set_cons_succ, Nat.add_sub_cancel_left, Nat.sub_self, Nat.add_zero, Nat.zero_add, Nat.le_add_right, Nat.le_refl, true_and, and_true, va_rf, zok, Nat.add_left_cancel_iff, Nat.add_eq_left, Nat.left_eq_add, eq_self, if_true, if_false, not_false_eq_true, not_true_eq_false, false_implies, true_implies, Nat.reduceEqDiff, Nat.reduceAdd, Nat.reduceLT, Nat.reduceLeDiff, reduceIte, q1, m0, N0, N1, N2, N3, N4, N5, N6, N7, N11, N12, N13, N14, N15, N16, N58, N59, N63, N64, N65, N112]
    refine ⟨12, r, _, _, rfl, hmo, hi12, by omega, hmk.l64, ?_⟩
    by_cases q2 : (C.1 1).testBit r = true
    · obtain ⟨_, old, pf, ho, p0, p1, _⟩ := id hpa
      rw [if_pos q2] at hP
      simp only [e_cut, e_iload, e_aload, e_istore, e_astore, e_iinc, e_const, e_lconst, e_bin, e_bin0, e_un, e_ladd, e_dupi, e_dupr, e_dup2, e_pop, e_if, e_icmp, e_sw, e_sw0, e_sw1, e_get, e_put, e_ald, e_ast, e_aald, e_aast, e_copy, e_new, e_newa, e_anewa, e_min, e_abs, e_oinit, e_callI, e_callV, e_callS, e_iret, e_zret, e_lret, e_vret, e_tl1, e_tl0, e_tl2, e_tl3, z10, Bool.false_eq_true, e_argi, e_argr, e_argn, zld_c, zst_n, zst_c, zpick_n, zpick_c, List.drop_succ_cons, List.drop_zero, List.take_succ_cons, List.take_zero, List.length_cons, List.length_nil, List.reverse_cons, List.reverse_nil, List.nil_append, List.cons_append, List.append_nil, List.getElem?_cons_zero, List.getElem?_cons_succ, List.set_cons_zero, List.set_cons_succ, Nat.add_sub_cancel_left, Nat.sub_self, Nat.add_zero, Nat.zero_add, Nat.le_add_right, Nat.le_refl, true_and, and_true, va_rf, zok, Nat.add_left_cancel_iff, Nat.add_eq_left, Nat.left_eq_add, eq_self, if_true, if_false, not_false_eq_true, not_true_eq_false, false_implies, true_implies, Nat.reduceEqDiff, Nat.reduceAdd, Nat.reduceLT, Nat.reduceLeDiff, reduceIte, q2, zB0, e0, e11, N0, N1, N2, N3, N4, N5, N6, N7, N11, N12, N13, N14, N15, N16, N58, N59, N63, N64, N65, N112, p0]
      refine ⟨16, 12, _, _, _, _, rfl, hpa, hmo, by omega, by omega, by omega, fun E1 hp1' hk1 => ?_⟩
      have hmo1 : zMo b cy E1 12 D.1 C.1 := hmo.congr (fun j _ _ => hk1 j (by omega))
      have e01 : E1 0 = zB0 b (nI (zkm I)) (nI S.1) tr := by rw [hk1 _ (by omega)]; exact e0
      obtain ⟨_, kf, kg, kh, k0, _⟩ := id hmo1
      simp only [e_cut, e_iload, e_aload, e_istore, e_astore, e_iinc, e_const, e_lconst, e_bin, e_bin0, e_un, e_ladd, e_dupi, e_dupr, e_dup2, e_pop, e_if, e_icmp, e_sw, e_sw0, e_sw1, e_get, e_put, e_ald, e_ast, e_aald, e_aast, e_copy, e_new, e_newa, e_anewa, e_min, e_abs, e_oinit, e_callI, e_callV, e_callS, e_iret, e_zret, e_lret, e_vret, e_tl1, e_tl0, e_tl2, e_tl3, z10, Bool.false_eq_true, e_argi, e_argr, e_argn, zld_c, zst_n, zst_c, zpick_n, zpick_c, List.drop_succ_cons, List.drop_zero, List.take_succ_cons, List.take_zero, List.length_cons, List.length_nil, List.reverse_cons, List.reverse_nil, List.nil_append, List.cons_append, List.append_nil, List.getElem?_cons_zero, List.getElem?_cons_succ, List.set_cons_zero, List.set_cons_succ, Nat.add_sub_cancel_left, Nat.sub_self, Nat.add_zero, Nat.zero_add, Nat.le_add_right, Nat.le_refl, true_and, and_true, va_rf, zok, Nat.add_left_cancel_iff, Nat.add_eq_left, Nat.left_eq_add, eq_self, if_true, if_false, not_false_eq_true, not_true_eq_false, false_implies, true_implies, Nat.reduceEqDiff, Nat.reduceAdd, Nat.reduceLT, Nat.reduceLeDiff, reduceIte, k0, N0, N1, N2, N3, N4, N5, N6, N7, N11, N12, N13, N14, N15, N16, N58, N59, N63, N64, N65, N112, zB0, e01]
      refine ⟨_, _, _, 12, _, _, r, rfl, ⟨hR.congr (fun j _ => hk1 j (by omega)), hmo1, hmk, hi12, hN⟩, hmk.l64, hmk.2.1, by omega, ?_⟩
      simp only [e_cut, e_iload, e_aload, e_istore, e_astore, e_iinc, e_const, e_lconst, e_bin, e_bin0, e_un, e_ladd, e_dupi, e_dupr, e_dup2, e_pop, e_if, e_icmp, e_sw, e_sw0, e_sw1, e_get, e_put, e_ald, e_ast, e_aald, e_aast, e_copy, e_new, e_newa, e_anewa, e_min, e_abs, e_oinit, e_callI, e_callV, e_callS, e_iret, e_zret, e_lret, e_vret, e_tl1, e_tl0, e_tl2, e_tl3, z10, Bool.false_eq_true, e_argi, e_argr, e_argn, zld_c, zst_n, zst_c, zpick_n, zpick_c, List.drop_succ_cons, List.drop_zero, List.take_succ_cons, List.take_zero, List.length_cons, List.length_nil, List.reverse_cons, List.reverse_nil, List.nil_append, List.cons_append, List.append_nil, List.getElem?_cons_zero, List.getElem?_cons_succ, List.set_cons_zero, List.set_cons_succ, Nat.add_sub_cancel_left, Nat.sub_self, Nat.add_zero, Nat.zero_add, Nat.le_add_right, Nat.le_refl, true_and, and_true, va_rf, zok, Nat.add_left_cancel_iff, Nat.add_eq_left, Nat.left_eq_add, eq_self, if_true, if_false, not_false_eq_true, not_true_eq_false, false_implies, true_implies, Nat.reduceEqDiff, Nat.reduceAdd, Nat.reduceLT, Nat.reduceLeDiff, reduceIte, k0, N0, N1, N2, N3, N4, N5, N6, N7, N11, N12, N13, N14, N15, N16, N58, N59, N63, N64, N65, N112]
      refine ⟨12, _, zring D.1 C.1 (C.1 1) r, _, rfl, hmo1, hi12, hmk.l64, zfo_lt6 hn1, fun E2 hm2 hk2 => ?_⟩
      simp only [e_cut, e_iload, e_aload, e_istore, e_astore, e_iinc, e_const, e_lconst, e_bin, e_bin0, e_un, e_ladd, e_dupi, e_dupr, e_dup2, e_pop, e_if, e_icmp, e_sw, e_sw0, e_sw1, e_get, e_put, e_ald, e_ast, e_aald, e_aast, e_copy, e_new, e_newa, e_anewa, e_min, e_abs, e_oinit, e_callI, e_callV, e_callS, e_iret, e_zret, e_lret, e_vret, e_tl1, e_tl0, e_tl2, e_tl3, z10, Bool.false_eq_true, e_argi, e_argr, e_argn, zld_c, zst_n, zst_c, zpick_n, zpick_c, List.drop_succ_cons, List.drop_zero, List.take_succ_cons, List.take_zero, List.length_cons, List.length_nil, List.reverse_cons, List.reverse_nil, List.nil_append, List.cons_append, List.append_nil, List.getElem?_cons_zero, List.getElem?_cons_succ, List.set_cons_zero, List.set_cons_succ, Nat.add_sub_cancel_left, Nat.sub_self, Nat.add_zero, Nat.zero_add, Nat.le_add_right, Nat.le_refl, true_and, and_true, va_rf, zok, Nat.add_left_cancel_iff, Nat.add_eq_left, Nat.left_eq_add, eq_self, if_true, if_false, not_false_eq_true, not_true_eq_false, false_implies, true_implies, Nat.reduceEqDiff, Nat.reduceAdd, Nat.reduceLT, Nat.reduceLeDiff, reduceIte]
      refine hP E2 (hbc.cur ⟨?_, hm2, ?_⟩ (fun j hj => ?_)) (fun j hj => ?_)
      · rw [hk2 _ (by omega), hk1 _ (by omega)]; exact e11
      · exact hp1'.congr (fun j _ _ => hk2 j (by omega))
      · rw [hk2 _ (by omega), hk1 _ (by omega)]
      · rw [hk2 _ (by omega), hk1 _ (by omega)]
    · rw [if_neg q2] at hP
      simp only [e_cut, e_iload, e_aload, e_istore, e_astore, e_iinc, e_const, e_lconst, e_bin, e_bin0, e_un, e_ladd, e_dupi, e_dupr, e_dup2, e_pop, e_if, e_icmp, e_sw, e_sw0, e_sw1, e_get, e_put, e_ald, e_ast, e_aald, e_aast, e_copy, e_new, e_newa, e_anewa, e_min, e_abs, e_oinit, e_callI, e_callV, e_callS, e_iret, e_zret, e_lret, e_vret, e_tl1, e_tl0, e_tl2, e_tl3, z10, Bool.false_eq_true, e_argi, e_argr, e_argn, zld_c, zst_n, zst_c, zpick_n, zpick_c, List.drop_succ_cons, List.drop_zero, List.take_succ_cons, List.take_zero, List.length_cons, List.length_nil, List.reverse_cons, List.reverse_nil, List.nil_append, List.cons_append, List.append_nil, List.getElem?_cons_zero, List.getElem?_cons_succ, List.set_cons_zero, List.set_cons_succ, Nat.add_sub_cancel_left, Nat.sub_self, Nat.add_zero, Nat.zero_add, Nat.le_add_right, Nat.le_refl, true_and, and_true, va_rf, zok, Nat.add_left_cancel_iff, Nat.add_eq_left, Nat.left_eq_add, eq_self, if_true, if_false, not_false_eq_true, not_true_eq_false, false_implies, true_implies, Nat.reduceEqDiff, Nat.reduceAdd, Nat.reduceLT, Nat.reduceLeDiff, reduceIte, q2]
      exact hP E hbc (fun _ _ => rfl)
  · simp only [q1] at hP
    simp only [e_cut, e_iload, e_aload, e_istore, e_astore, e_iinc, e_const, e_lconst, e_bin, e_bin0, e_un, e_ladd, e_dupi, e_dupr, e_dup2, e_pop, e_if, e_icmp, e_sw, e_sw0, e_sw1, e_get, e_put, e_ald, e_ast, e_aald, e_aast, e_copy, e_new, e_newa, e_anewa, e_min, e_abs, e_oinit, e_callI, e_callV, e_callS, e_iret, e_zret, e_lret, e_vret, e_tl1, e_tl0, e_tl2, e_tl3, z10, Bool.false_eq_true, e_argi, e_argr, e_argn, zld_c, zst_n, zst_c, zpick_n, zpick_c, List.drop_succ_cons, List.drop_zero, List.take_succ_cons, List.take_zero, List.length_cons, List.length_nil, List.reverse_cons, List.reverse_nil, List.nil_append, List.cons_append, List.append_nil, List.getElem?_cons_zero, List.getElem?_cons_succ, List.set_cons_zero, List.set_cons_succ, Nat.add_sub_cancel_left, Nat.sub_self, Nat.add_zero, Nat.zero_add, Nat.le_add_right, Nat.le_refl, true_and, and_true, va_rf, zok, Nat.add_left_cancel_iff, Nat.add_eq_left, Nat.left_eq_add, eq_self, if_true, if_false, not_false_eq_true, not_true_eq_false, false_implies, true_implies, Nat.reduceEqDiff, Nat.reduceAdd, Nat.reduceLT, Nat.reduceLeDiff, reduceIte, q1]
    exact hP E hbc (fun _ _ => rfl)
set_option maxRecDepth 20000 in
theorem f_X5_rings_29 : Cond.fieldLink RX5 29 (TX5 3).1 (TX5 3).2.1 (TX5 3).2.2.1 ∈ wsX5_rings := by decide +kernel
set_option maxRecDepth 20000 in
theorem k_X5_rings_5 : ∀ w ∈ u_ws RX5 TX5 11, w ∈ wsX5_rings := fun _ h => List.mem_cons_of_mem _ (List.mem_append_left _ (List.mem_append_left _ (List.mem_append_left _ (List.mem_append_left _ (List.mem_append_right _ h)))))
set_option maxRecDepth 20000 in
theorem f_X5_rings_76 : Cond.fieldLink RX5 76 (TX0 0).1 (TX0 0).2.1 (TX0 0).2.2.1 ∈ wsX5_rings := by decide +kernel
set_option maxRecDepth 20000 in
theorem k_X5_rings_0 : ∀ w ∈ u_ws RX0 TX0 2, w ∈ wsX5_rings := fun _ h => List.mem_cons_of_mem _ (List.mem_append_left _ (List.mem_append_left _ (List.mem_append_left _ (List.mem_append_right _ h))))
set_option maxRecDepth 20000 in
theorem f_X5_rings_119 : Cond.fieldLink RX5 119 (TX0 1).1 (TX0 1).2.1 (TX0 1).2.2.1 ∈ wsX5_rings := by decide +kernel
set_option maxRecDepth 20000 in
theorem f_X5_rings_98 : Cond.fieldLink RX5 98 (TX1 1).1 (TX1 1).2.1 (TX1 1).2.2.1 ∈ wsX5_rings := by decide +kernel
set_option maxRecDepth 20000 in
theorem k_X5_rings_1 : ∀ w ∈ u_ws RX1 TX1 7, w ∈ wsX5_rings := fun _ h => List.mem_cons_of_mem _ (List.mem_append_left _ (List.mem_append_left _ (List.mem_append_right _ h)))
set_option maxRecDepth 100000 in
set_option maxHeartbeats 4000000 in
theorem S_X5_rings_0 {p : Program} {e : Env} {s : State} {m : MethodId} {args : Array Value} {below : List Frame} {meth : Method} {c : Code} {D : va_G} {cy : zY} {b n0 : Nat} {P : zPo} (la : Launch) (X : zX p la e (rm_X5_rings) s m args below meth c 3 D cy b n0 cX5_rings wsX5_rings RX5) (hr : meth.sig.returnType = (some .int)) (h_X1_getDown : zMet la yX1_getDown wsX1_getDown rm_X1_getDown 0 0 sp_X1_getDown) (h_X1_isAboard : zMet la yX1_isAboard wsX1_isAboard rm_X1_isAboard 0 0 sp_X1_isAboard) (h_X2_push : zMet la yX2_push wsX2_push rm_X2_push 0 0 sp_X2_push) (h_X5_downByRing : zMet la yX5_downByRing wsX5_downByRing rm_X5_downByRing 0 0 sp_X5_downByRing) (h_X5_isRider : zMet la yX5_isRider wsX5_isRider rm_X5_isRider 0 0 sp_X5_isRider) : zS p la e (rm_X5_rings) s m args below meth c (MQ below (zQ D b (n0 + 0) P) args s 0 0 (fun q => b ≤ q)) 3 D b n0 0 (B_X5_rings_0 b n0 cy P (zAt p la e (rm_X5_rings) s m args below meth c (MQ below (zQ D b (n0 + 0) P) args s 0 0 (fun q => b ≤ q)) 3 D b n0)) := by
  unfold B_X5_rings_0
  exact (s_aload_n X dX5_rings_0 rfl (s_get X dX5_rings_1 rfl k_X5_rings_5 (by decide) f_X5_rings_29 (s_get X dX5_rings_4 rfl k_X5_rings_0 (by decide) f_X5_rings_76 (s_astore_n X dX5_rings_7 rfl (by decide) (s_aload_n X dX5_rings_8 rfl (s_iload_n X dX5_rings_9 rfl (s_callV X h_X5_isRider dX5_rings_10 rfl gX5_rings_X5_isRider rfl rfl rfl (by decide +kernel) ⟨by decide, by decide⟩ (s_if_ne X dX5_rings_13 (by decide) (s_aload_n X dX5_rings_18 rfl (s_iload_n X dX5_rings_19 rfl (s_callV X h_X1_isAboard dX5_rings_20 rfl gX5_rings_X1_isAboard rfl rfl rfl (by decide +kernel) ⟨by decide, by decide⟩ (s_if_ne X dX5_rings_23 (by decide) (s_aload_n X dX5_rings_29 rfl (s_get X dX5_rings_30 rfl k_X5_rings_5 (by decide) f_X5_rings_29 (s_get X dX5_rings_33 rfl k_X5_rings_0 (by decide) f_X5_rings_119 (s_aload_n X dX5_rings_36 rfl (s_callV X h_X2_push dX5_rings_37 rfl gX5_rings_X2_push rfl rfl rfl (by decide +kernel) ⟨by decide, by decide⟩ (s_aload_n X dX5_rings_40 rfl (s_aload_n X dX5_rings_41 rfl (s_aload_n X dX5_rings_42 rfl (s_get X dX5_rings_43 rfl k_X5_rings_1 (by decide) f_X5_rings_98 (s_iload_n X dX5_rings_46 rfl (s_callS X h_X5_downByRing dX5_rings_47 gX5_rings_X5_downByRing rfl rfl rfl (by decide +kernel) ⟨by decide, by decide⟩ (s_callV X h_X1_getDown dX5_rings_50 rfl gX5_rings_X1_getDown rfl rfl rfl (by decide +kernel) ⟨by decide, by decide⟩ (s_iret X dX5_rings_53 hr))))))))))))) (s_bipush X dX5_rings_26 (by decide) (s_iret X dX5_rings_28 hr)))))) (s_iconst X dX5_rings_16 (by decide) (s_iret X dX5_rings_17 hr))))))))))
theorem w_X5_rings (la : Launch) (h_X1_getDown : zMet la yX1_getDown wsX1_getDown rm_X1_getDown 0 0 sp_X1_getDown) (h_X1_isAboard : zMet la yX1_isAboard wsX1_isAboard rm_X1_isAboard 0 0 sp_X1_isAboard) (h_X2_push : zMet la yX2_push wsX2_push rm_X2_push 0 0 sp_X2_push) (h_X5_downByRing : zMet la yX5_downByRing wsX5_downByRing rm_X5_downByRing 0 0 sp_X5_downByRing) (h_X5_isRider : zMet la yX5_isRider wsX5_isRider rm_X5_isRider 0 0 sp_X5_isRider) (sp : zSp) (vc : zVC_X5_rings sp) : zMet la yX5_rings wsX5_rings (rm_X5_rings) 0 0 sp :=
  z_of (cc := cX5_rings) (maxL := 3) (ret := (some .int)) (by decide +kernel) rfl (fun p e s m args below meth c D cy b n as E P hsp X hr hin => by
    obtain ⟨h1, h2⟩ := vc b cy n as E P (zAt p la e (rm_X5_rings) s m args below meth c (MQ below (zQ D b (n + 0) P) args s 0 0 (fun q => b ≤ q)) 3 D b n) hsp
    exact ⟨h1, S_X5_rings_0 la X hr h_X1_getDown h_X1_isAboard h_X2_push h_X5_downByRing h_X5_isRider _ _ _ _ _ h2⟩)

theorem m_X5_rings (la : Launch) : zMet la yX5_rings wsX5_rings rm_X5_rings 0 0 sp_X5_rings := w_X5_rings la (m_X1_getDown la) (m_X1_isAboard la) (m_X2_push la) (m_X5_downByRing la) (m_X5_isRider la) _ vc_X5_rings
def sp_X5_twice : zSp := fun b cy as N E P => ∃ x : Int32, zPX (op_twice x) [.int x] b cy as N E P
abbrev rm_X5_twice : Room := { frames := 3, cells := 0, slots := 0, locals := 87 }
def B_X5_twice_0 (b n0 : Nat) (cy : zY) (P : zPo) (A : Nat → zC) : zC :=
  z_aload 0 (z_get b n0 5 3 (z_get b n0 0 0 (z_astore 2 (z_aload 0 (z_iload 1 (z_callV b n0 0 0 cy 5 1 0 0 sp_X5_isRider (z_if (fun x => x = 0) (z_const (-1) (z_iret 0 0 P)) (z_aload 2 (z_iload 1 (z_callV b n0 0 0 cy 1 1 0 0 sp_X1_isAboard (z_if (fun x => x = 0) (z_const (-2) (z_iret 0 0 P)) (z_aload 0 (z_get b n0 5 3 (z_get b n0 0 1 (z_aload 2 (z_callV b n0 0 0 cy 2 1 0 0 sp_X2_push (z_aload 2 (z_aload 2 (z_iload 1 (z_callS b n0 0 0 cy 2 0 0 sp_X5_downByDoubleRing (z_callV b n0 0 0 cy 1 1 0 0 sp_X1_getDown (z_iret 0 0 P))))))))))))))))))))))
def zVC_X5_twice (sp : zSp) : Prop := ∀ (b : Nat) (cy : zY) (n : Nat) (as : List Value) (E : zE) (P : zPo) (A : Nat → zC), sp b cy as n E P → zgood as 3 ∧ B_X5_twice_0 b n cy P A (lv_args 0 as) [] 0 0 E

set_option maxRecDepth 100000 in
set_option maxHeartbeats 4000000 in
theorem vc_X5_twice : zVC_X5_twice sp_X5_twice := by
  intro b cy N as E P A hsp
  obtain ⟨x, K, ⟨T, D, C, I, S, tr⟩, rfl, hbc, hok, hK, hN, hP⟩ := hsp
  refine ⟨⟨Nat.le_of_ble_eq_true rfl, zg1 rfl (zg1 rfl (zg0))⟩, ?_⟩
  obtain ⟨e0, hTx, ⟨seat, items, hTo⟩, hDr, hIm, hIs, hAh, hSn, hI0, hI1⟩ := id hbc
  have hp2 := hbc.p2 hok hN
  obtain ⟨hp1, e11⟩ := id hp2
  obtain ⟨hR, hmo, hmk, hi12, _⟩ := id hp1
  obtain ⟨hn1, mf, mg, mh, m0, m1, m2, m3, hmf, hmg, hmh⟩ := id hmo
  obtain ⟨_, tf, tg, th, t0, t1, t2, t3, htf, htg, hth⟩ := id hTo
  replace m1 : E 13 = _ := m1
  replace m2 : E 14 = _ := m2
  replace m3 : E 15 = _ := m3
  replace t1 : E 4 = _ := t1
  replace t2 : E 5 = _ := t2
  replace t3 : E 6 = _ := t3
  have hpa : zPa b cy E 16 D.1 C.2.1 C.2.2 := hIm.2.2
  have hlo := hok.2.1
  have N0 : 0 < N := by omega
  have N1 : 1 < N := by omega
  have N2 : 2 < N := by omega
  have N3 : 3 < N := by omega
  have N4 : 4 < N := by omega
  have N5 : 5 < N := by omega
  have N6 : 6 < N := by omega
  have N7 : 7 < N := by omega
  have N11 : 11 < N := by omega
  have N12 : 12 < N := by omega
  have N13 : 13 < N := by omega
  have N14 : 14 < N := by omega
  have N15 : 15 < N := by omega
  have N16 : 16 < N := by omega
  have N58 : 58 < N := by omega
  have N59 : 59 < N := by omega
  have N63 : 63 < N := by omega
  have N64 : 64 < N := by omega
  have N65 : 65 < N := by omega
  have N112 : 112 < N := by omega
  simp only [op_twice] at hP
  simp only [B_X5_twice_0, e_cut, e_iload, e_aload, e_istore, e_astore, e_iinc, e_const, e_lconst, e_bin, e_bin0, e_un, e_ladd, e_dupi, e_dupr, e_dup2, e_pop, e_if, e_icmp, e_sw, e_sw0, e_sw1, e_get, e_put, e_ald, e_ast, e_aald, e_aast, e_copy, e_new, e_newa, e_anewa, e_min, e_abs, e_oinit, e_callI, e_callV, e_callS, e_iret, e_zret, e_lret, e_vret, e_tl1, e_tl0, e_tl2, e_tl3, z10, Bool.false_eq_true, e_argi, e_argr, e_argn, zld_c, zst_n, zst_c, zpick_n, zpick_c, List.drop_succ_cons, List.drop_zero, List.take_succ_cons, List.take_zero, List.length_cons, List.length_nil, List.reverse_cons, List.reverse_nil, List.nil_append, List.cons_append, List.append_nil, List.getElem?_cons_zero, List.getElem?_cons_succ, List.set_cons_zero, List.set_cons_succ, Nat.add_sub_cancel_left, Nat.sub_self, Nat.add_zero, Nat.zero_add, Nat.le_add_right, Nat.le_refl, true_and, and_true, va_rf, zok, Nat.add_left_cancel_iff, Nat.add_eq_left, Nat.left_eq_add, eq_self, if_true, if_false, not_false_eq_true, not_true_eq_false, false_implies, true_implies, Nat.reduceEqDiff, Nat.reduceAdd, Nat.reduceLT, Nat.reduceLeDiff, reduceIte, zB0, e0, N0, N1, N2, N3, N4, N5, N6, N7, N11, N12, N13, N14, N15, N16, N58, N59, N63, N64, N65, N112, e11]
  refine ⟨_, _, _, x, rfl, hR, hN, ?_⟩
  by_cases q1 : zisB D.1 x = true
  · obtain ⟨r, hr, rfl⟩ := zisB_t q1 hn1
    simp only [q1, if_true, zcl_i (show r < 2 ^ 31 by omega)] at hP
    simp only [e_cut, e_iload, e_aload, e_istore, e_astore, e_iinc, e_const, e_lconst, e_bin, e_bin0, e_un, e_ladd, e_dupi, e_dupr, e_dup2, e_pop, e_if, e_icmp, e_sw, e_sw0, e_sw1, e_get, e_put, e_ald, e_ast, e_aald, e_aast, e_copy, e_new, e_newa, e_anewa, e_min, e_abs, e_oinit, e_callI, e_callV, e_callS, e_iret, e_zret, e_lret, e_vret, e_tl1, e_tl0, e_tl2, e_tl3, z10, Bool.false_eq_true, e_argi, e_argr, e_argn, zld_c, zst_n, zst_c, zpick_n, zpick_c, List.drop_succ_cons, List.drop_zero, List.take_succ_cons, List.take_zero, List.length_cons, List.length_nil, List.reverse_cons, List.reverse_nil, List.nil_append, List.cons_append, List.append_nil, List.getElem?_cons_zero, List.getElem?_cons_succ, List.set_cons_zero, List.set_cons_succ, Nat.add_sub_cancel_left, Nat.sub_self, Nat.add_zero, Nat.zero_add, Nat.le_add_right, Nat.le_refl, true_and, and_true, va_rf, zok, Nat.add_left_cancel_iff, Nat.add_eq_left, Nat.left_eq_add, eq_self, if_true, if_false, not_false_eq_true, not_true_eq_false, false_implies, true_implies, Nat.reduceEqDiff, Nat.reduceAdd, Nat.reduceLT, Nat.reduceLeDiff, reduceIte, q1, m0, N0, N1, N2, N3, N4, N5, N6, N7, N11, N12, N13, N14, N15, N16, N58, N59, N63, N64, N65, N112]
    refine ⟨12, r, _, _, rfl, hmo, hi12, by omega, hmk.l64, ?_⟩
    by_cases q2 : (C.1 1).testBit r = true
    · obtain ⟨_, old, pf, ho, p0, p1, _⟩ := id hpa
      rw [if_pos q2] at hP
      simp only [e_cut, e_iload, e_aload, e_istore, e_astore, e_iinc, e_const, e_lconst, e_bin, e_bin0, e_un, e_ladd, e_dupi, e_dupr, e_dup2, e_pop, e_if, e_icmp, e_sw, e_sw0, e_sw1, e_get, e_put, e_ald, e_ast, e_aald, e_aast, e_copy, e_new, e_newa, e_anewa, e_min, e_abs, e_oinit, e_callI, e_callV, e_callS, e_iret, e_zret, e_lret, e_vret, e_tl1, e_tl0, e_tl2, e_tl3, z10, Bool.false_eq_true, e_argi, e_argr, e_argn, zld_c, zst_n, zst_c, zpick_n, zpick_c, List.drop_succ_cons, List.drop_zero, List.take_succ_cons, List.take_zero, List.length_cons, List.length_nil, List.reverse_cons, List.reverse_nil, List.nil_append, List.cons_append, List.append_nil, List.getElem?_cons_zero, List.getElem?_cons_succ, List.set_cons_zero, List.set_cons_succ, Nat.add_sub_cancel_left, Nat.sub_self, Nat.add_zero, Nat.zero_add, Nat.le_add_right, Nat.le_refl, true_and, and_true, va_rf, zok, Nat.add_left_cancel_iff, Nat.add_eq_left, Nat.left_eq_add, eq_self, if_true, if_false, not_false_eq_true, not_true_eq_false, false_implies, true_implies, Nat.reduceEqDiff, Nat.reduceAdd, Nat.reduceLT, Nat.reduceLeDiff, reduceIte, q2, zB0, e0, e11, N0, N1, N2, N3, N4, N5, N6, N7, N11, N12, N13, N14, N15, N16, N58, N59, N63, N64, N65, N112, p0]
      refine ⟨16, 12, _, _, _, _, rfl, hpa, hmo, by omega, by omega, by omega, fun E1 hp1' hk1 => ?_⟩
      have hmo1 : zMo b cy E1 12 D.1 C.1 := hmo.congr (fun j _ _ => hk1 j (by omega))
      have e01 : E1 0 = zB0 b (nI (zkm I)) (nI S.1) tr := by rw [hk1 _ (by omega)]; exact e0
      obtain ⟨_, kf, kg, kh, k0, _⟩ := id hmo1
      simp only [e_cut, e_iload, e_aload, e_istore, e_astore, e_iinc, e_const, e_lconst, e_bin, e_bin0, e_un, e_ladd, e_dupi, e_dupr, e_dup2, e_pop, e_if, e_icmp, e_sw, e_sw0, e_sw1, e_get, e_put, e_ald, e_ast, e_aald, e_aast, e_copy, e_new, e_newa, e_anewa, e_min, e_abs, e_oinit, e_callI, e_callV, e_callS, e_iret, e_zret, e_lret, e_vret, e_tl1, e_tl0, e_tl2, e_tl3, z10, Bool.false_eq_true, e_argi, e_argr, e_argn, zld_c, zst_n, zst_c, zpick_n, zpick_c, List.drop_succ_cons, List.drop_zero, List.take_succ_cons, List.take_zero, List.length_cons, List.length_nil, List.reverse_cons, List.reverse_nil, List.nil_append, List.cons_append, List.append_nil, List.getElem?_cons_zero, List.getElem?_cons_succ, List.set_cons_zero, List.set_cons_succ, Nat.add_sub_cancel_left, Nat.sub_self, Nat.add_zero, Nat.zero_add, Nat.le_add_right, Nat.le_refl, true_and, and_true, va_rf, zok, Nat.add_left_cancel_iff, Nat.add_eq_left, Nat.left_eq_add, eq_self, if_true, if_false, not_false_eq_true, not_true_eq_false, false_implies, true_implies, Nat.reduceEqDiff, Nat.reduceAdd, Nat.reduceLT, Nat.reduceLeDiff, reduceIte, k0, N0, N1, N2, N3, N4, N5, N6, N7, N11, N12, N13, N14, N15, N16, N58, N59, N63, N64, N65, N112, zB0, e01]
      refine ⟨_, _, _, 12, _, r, rfl, ⟨hR.congr (fun j _ => hk1 j (by omega)), hmo1, hmk, hi12, hN⟩, by omega, ?_⟩
      simp only [e_cut, e_iload, e_aload, e_istore, e_astore, e_iinc, e_const, e_lconst, e_bin, e_bin0, e_un, e_ladd, e_dupi, e_dupr, e_dup2, e_pop, e_if, e_icmp, e_sw, e_sw0, e_sw1, e_get, e_put, e_ald, e_ast, e_aald, e_aast, e_copy, e_new, e_newa, e_anewa, e_min, e_abs, e_oinit, e_callI, e_callV, e_callS, e_iret, e_zret, e_lret, e_vret, e_tl1, e_tl0, e_tl2, e_tl3, z10, Bool.false_eq_true, e_argi, e_argr, e_argn, zld_c, zst_n, zst_c, zpick_n, zpick_c, List.drop_succ_cons, List.drop_zero, List.take_succ_cons, List.take_zero, List.length_cons, List.length_nil, List.reverse_cons, List.reverse_nil, List.nil_append, List.cons_append, List.append_nil, List.getElem?_cons_zero, List.getElem?_cons_succ, List.set_cons_zero, List.set_cons_succ, Nat.add_sub_cancel_left, Nat.sub_self, Nat.add_zero, Nat.zero_add, Nat.le_add_right, Nat.le_refl, true_and, and_true, va_rf, zok, Nat.add_left_cancel_iff, Nat.add_eq_left, Nat.left_eq_add, eq_self, if_true, if_false, not_false_eq_true, not_true_eq_false, false_implies, true_implies, Nat.reduceEqDiff, Nat.reduceAdd, Nat.reduceLT, Nat.reduceLeDiff, reduceIte, k0, N0, N1, N2, N3, N4, N5, N6, N7, N11, N12, N13, N14, N15, N16, N58, N59, N63, N64, N65, N112]
      refine ⟨12, _, ztwo D.1 C.1 r, _, rfl, hmo1, hi12, hmk.l64, zfo_lt6 hn1, fun E2 hm2 hk2 => ?_⟩
      simp only [e_cut, e_iload, e_aload, e_istore, e_astore, e_iinc, e_const, e_lconst, e_bin, e_bin0, e_un, e_ladd, e_dupi, e_dupr, e_dup2, e_pop, e_if, e_icmp, e_sw, e_sw0, e_sw1, e_get, e_put, e_ald, e_ast, e_aald, e_aast, e_copy, e_new, e_newa, e_anewa, e_min, e_abs, e_oinit, e_callI, e_callV, e_callS, e_iret, e_zret, e_lret, e_vret, e_tl1, e_tl0, e_tl2, e_tl3, z10, Bool.false_eq_true, e_argi, e_argr, e_argn, zld_c, zst_n, zst_c, zpick_n, zpick_c, List.drop_succ_cons, List.drop_zero, List.take_succ_cons, List.take_zero, List.length_cons, List.length_nil, List.reverse_cons, List.reverse_nil, List.nil_append, List.cons_append, List.append_nil, List.getElem?_cons_zero, List.getElem?_cons_succ, List.set_cons_zero, List.set_cons_succ, Nat.add_sub_cancel_left, Nat.sub_self, Nat.add_zero, Nat.zero_add, Nat.le_add_right, Nat.le_refl, true_and, and_true, va_rf, zok, Nat.add_left_cancel_iff, Nat.add_eq_left, Nat.left_eq_add, eq_self, if_true, if_false, not_false_eq_true, not_true_eq_false, false_implies, true_implies, Nat.reduceEqDiff, Nat.reduceAdd, Nat.reduceLT, Nat.reduceLeDiff, reduceIte]
      refine hP E2 (hbc.cur ⟨?_, hm2, ?_⟩ (fun j hj => ?_)) (fun j hj => ?_)
      · rw [hk2 _ (by omega), hk1 _ (by omega)]; exact e11
      · exact hp1'.congr (fun j _ _ => hk2 j (by omega))
      · rw [hk2 _ (by omega), hk1 _ (by omega)]
      · rw [hk2 _ (by omega), hk1 _ (by omega)]
    · rw [if_neg q2] at hP
      simp only [e_cut, e_iload, e_aload, e_istore, e_astore, e_iinc, e_const, e_lconst, e_bin, e_bin0, e_un, e_ladd, e_dupi, e_dupr, e_dup2, e_pop, e_if, e_icmp, e_sw, e_sw0, e_sw1, e_get, e_put, e_ald, e_ast, e_aald, e_aast, e_copy, e_new, e_newa, e_anewa, e_min, e_abs, e_oinit, e_callI, e_callV, e_callS, e_iret, e_zret, e_lret, e_vret, e_tl1, e_tl0, e_tl2, e_tl3, z10, Bool.false_eq_true, e_argi, e_argr, e_argn, zld_c, zst_n, zst_c, zpick_n, zpick_c, List.drop_succ_cons, List.drop_zero, List.take_succ_cons, List.take_zero, List.length_cons, List.length_nil, List.reverse_cons, List.reverse_nil, List.nil_append, List.cons_append, List.append_nil, List.getElem?_cons_zero, List.getElem?_cons_succ, List.set_cons_zero, List.set_cons_succ, Nat.add_sub_cancel_left, Nat.sub_self, Nat.add_zero, Nat.zero_add, Nat.le_add_right, Nat.le_refl, true_and, and_true, va_rf, zok, Nat.add_left_cancel_iff, Nat.add_eq_left, Nat.left_eq_add, eq_self, if_true, if_false, not_false_eq_true, not_true_eq_false, false_implies, true_implies, Nat.reduceEqDiff, Nat.reduceAdd, Nat.reduceLT, Nat.reduceLeDiff, reduceIte, q2]
      exact hP E hbc (fun _ _ => rfl)
  · simp only [q1] at hP
    simp only [e_cut, e_iload, e_aload, e_istore, e_astore, e_iinc, e_const, e_lconst, e_bin, e_bin0, e_un, e_ladd, e_dupi, e_dupr, e_dup2, e_pop, e_if, e_icmp, e_sw, e_sw0, e_sw1, e_get, e_put, e_ald, e_ast, e_aald, e_aast, e_copy, e_new, e_newa, e_anewa, e_min, e_abs, e_oinit, e_callI, e_callV, e_callS, e_iret, e_zret, e_lret, e_vret, e_tl1, e_tl0, e_tl2, e_tl3, z10, Bool.false_eq_true, e_argi, e_argr, e_argn, zld_c, zst_n, zst_c, zpick_n, zpick_c, List.drop_succ_cons, List.drop_zero, List.take_succ_cons, List.take_zero, List.length_cons, List.length_nil, List.reverse_cons, List.reverse_nil, List.nil_append, List.cons_append, List.append_nil, List.getElem?_cons_zero, List.getElem?_cons_succ, List.set_cons_zero, List.set_cons_succ, Nat.add_sub_cancel_left, Nat.sub_self, Nat.add_zero, Nat.zero_add, Nat.le_add_right, Nat.le_refl, true_and, and_true, va_rf, zok, Nat.add_left_cancel_iff, Nat.add_eq_left, Nat.left_eq_add, eq_self, if_true, if_false, not_false_eq_true, not_true_eq_false, false_implies, true_implies, Nat.reduceEqDiff, Nat.reduceAdd, Nat.reduceLT, Nat.reduceLeDiff, reduceIte, q1]
    exact hP E hbc (fun _ _ => rfl)
set_option maxRecDepth 20000 in
theorem f_X5_twice_29 : Cond.fieldLink RX5 29 (TX5 3).1 (TX5 3).2.1 (TX5 3).2.2.1 ∈ wsX5_twice := by decide +kernel
set_option maxRecDepth 20000 in
theorem k_X5_twice_5 : ∀ w ∈ u_ws RX5 TX5 11, w ∈ wsX5_twice := fun _ h => List.mem_cons_of_mem _ (List.mem_append_left _ (List.mem_append_left _ (List.mem_append_left _ (List.mem_append_left _ (List.mem_append_right _ h)))))
set_option maxRecDepth 20000 in
theorem f_X5_twice_76 : Cond.fieldLink RX5 76 (TX0 0).1 (TX0 0).2.1 (TX0 0).2.2.1 ∈ wsX5_twice := by decide +kernel
set_option maxRecDepth 20000 in
theorem k_X5_twice_0 : ∀ w ∈ u_ws RX0 TX0 2, w ∈ wsX5_twice := fun _ h => List.mem_cons_of_mem _ (List.mem_append_left _ (List.mem_append_left _ (List.mem_append_left _ (List.mem_append_right _ h))))
set_option maxRecDepth 20000 in
theorem f_X5_twice_119 : Cond.fieldLink RX5 119 (TX0 1).1 (TX0 1).2.1 (TX0 1).2.2.1 ∈ wsX5_twice := by decide +kernel
set_option maxRecDepth 100000 in
set_option maxHeartbeats 4000000 in
theorem S_X5_twice_0 {p : Program} {e : Env} {s : State} {m : MethodId} {args : Array Value} {below : List Frame} {meth : Method} {c : Code} {D : va_G} {cy : zY} {b n0 : Nat} {P : zPo} (la : Launch) (X : zX p la e (rm_X5_twice) s m args below meth c 3 D cy b n0 cX5_twice wsX5_twice RX5) (hr : meth.sig.returnType = (some .int)) (h_X1_getDown : zMet la yX1_getDown wsX1_getDown rm_X1_getDown 0 0 sp_X1_getDown) (h_X1_isAboard : zMet la yX1_isAboard wsX1_isAboard rm_X1_isAboard 0 0 sp_X1_isAboard) (h_X2_push : zMet la yX2_push wsX2_push rm_X2_push 0 0 sp_X2_push) (h_X5_downByDoubleRing : zMet la yX5_downByDoubleRing wsX5_downByDoubleRing rm_X5_downByDoubleRing 0 0 sp_X5_downByDoubleRing) (h_X5_isRider : zMet la yX5_isRider wsX5_isRider rm_X5_isRider 0 0 sp_X5_isRider) : zS p la e (rm_X5_twice) s m args below meth c (MQ below (zQ D b (n0 + 0) P) args s 0 0 (fun q => b ≤ q)) 3 D b n0 0 (B_X5_twice_0 b n0 cy P (zAt p la e (rm_X5_twice) s m args below meth c (MQ below (zQ D b (n0 + 0) P) args s 0 0 (fun q => b ≤ q)) 3 D b n0)) := by
  unfold B_X5_twice_0
  exact (s_aload_n X dX5_twice_0 rfl (s_get X dX5_twice_1 rfl k_X5_twice_5 (by decide) f_X5_twice_29 (s_get X dX5_twice_4 rfl k_X5_twice_0 (by decide) f_X5_twice_76 (s_astore_n X dX5_twice_7 rfl (by decide) (s_aload_n X dX5_twice_8 rfl (s_iload_n X dX5_twice_9 rfl (s_callV X h_X5_isRider dX5_twice_10 rfl gX5_twice_X5_isRider rfl rfl rfl (by decide +kernel) ⟨by decide, by decide⟩ (s_if_ne X dX5_twice_13 (by decide) (s_aload_n X dX5_twice_18 rfl (s_iload_n X dX5_twice_19 rfl (s_callV X h_X1_isAboard dX5_twice_20 rfl gX5_twice_X1_isAboard rfl rfl rfl (by decide +kernel) ⟨by decide, by decide⟩ (s_if_ne X dX5_twice_23 (by decide) (s_aload_n X dX5_twice_29 rfl (s_get X dX5_twice_30 rfl k_X5_twice_5 (by decide) f_X5_twice_29 (s_get X dX5_twice_33 rfl k_X5_twice_0 (by decide) f_X5_twice_119 (s_aload_n X dX5_twice_36 rfl (s_callV X h_X2_push dX5_twice_37 rfl gX5_twice_X2_push rfl rfl rfl (by decide +kernel) ⟨by decide, by decide⟩ (s_aload_n X dX5_twice_40 rfl (s_aload_n X dX5_twice_41 rfl (s_iload_n X dX5_twice_42 rfl (s_callS X h_X5_downByDoubleRing dX5_twice_43 gX5_twice_X5_downByDoubleRing rfl rfl rfl (by decide +kernel) ⟨by decide, by decide⟩ (s_callV X h_X1_getDown dX5_twice_46 rfl gX5_twice_X1_getDown rfl rfl rfl (by decide +kernel) ⟨by decide, by decide⟩ (s_iret X dX5_twice_49 hr))))))))))) (s_bipush X dX5_twice_26 (by decide) (s_iret X dX5_twice_28 hr)))))) (s_iconst X dX5_twice_16 (by decide) (s_iret X dX5_twice_17 hr))))))))))
theorem w_X5_twice (la : Launch) (h_X1_getDown : zMet la yX1_getDown wsX1_getDown rm_X1_getDown 0 0 sp_X1_getDown) (h_X1_isAboard : zMet la yX1_isAboard wsX1_isAboard rm_X1_isAboard 0 0 sp_X1_isAboard) (h_X2_push : zMet la yX2_push wsX2_push rm_X2_push 0 0 sp_X2_push) (h_X5_downByDoubleRing : zMet la yX5_downByDoubleRing wsX5_downByDoubleRing rm_X5_downByDoubleRing 0 0 sp_X5_downByDoubleRing) (h_X5_isRider : zMet la yX5_isRider wsX5_isRider rm_X5_isRider 0 0 sp_X5_isRider) (sp : zSp) (vc : zVC_X5_twice sp) : zMet la yX5_twice wsX5_twice (rm_X5_twice) 0 0 sp :=
  z_of (cc := cX5_twice) (maxL := 3) (ret := (some .int)) (by decide +kernel) rfl (fun p e s m args below meth c D cy b n as E P hsp X hr hin => by
    obtain ⟨h1, h2⟩ := vc b cy n as E P (zAt p la e (rm_X5_twice) s m args below meth c (MQ below (zQ D b (n + 0) P) args s 0 0 (fun q => b ≤ q)) 3 D b n) hsp
    exact ⟨h1, S_X5_twice_0 la X hr h_X1_getDown h_X1_isAboard h_X2_push h_X5_downByDoubleRing h_X5_isRider _ _ _ _ _ h2⟩)

theorem m_X5_twice (la : Launch) : zMet la yX5_twice wsX5_twice rm_X5_twice 0 0 sp_X5_twice := w_X5_twice la (m_X1_getDown la) (m_X1_isAboard la) (m_X2_push la) (m_X5_downByDoubleRing la) (m_X5_isRider la) _ vc_X5_twice
def sp_X5_seats : zSp := fun b cy as N E P => ∃ x s : Int32, zPX (op_seats x s) [.int x, .int s] b cy as N E P
abbrev rm_X5_seats : Room := { frames := 3, cells := 0, slots := 0, locals := 82 }
def B_X5_seats_50 (b n0 : Nat) (cy : zY) (P : zPo) (A : Nat → zC) : zC :=
  z_const (-2) (z_iret 0 0 P)
def B_X5_seats_26 (b n0 : Nat) (cy : zY) (P : zPo) (A : Nat → zC) : zC :=
  z_const (-1) (z_iret 0 0 P)
def B_X5_seats_0 (b n0 : Nat) (cy : zY) (P : zPo) (A : Nat → zC) : zC :=
  z_aload 0 (z_get b n0 5 3 (z_get b n0 0 0 (z_astore 3 (z_aload 0 (z_iload 1 (z_callV b n0 0 0 cy 5 1 0 0 sp_X5_isRider (z_if (fun x => x = 0) (B_X5_seats_26 b n0 cy P A) (z_iload 2 (z_if (fun x => x < 0) (B_X5_seats_26 b n0 cy P A) (z_iload 2 (z_const (9) (z_icmp (fun x y => x ≤ y) (z_aload 3 (z_get b n0 1 4 (z_iload 1 (z_ald b n0 (cy 1) (z_istore 4 (z_aload 3 (z_iload 1 (z_callV b n0 0 0 cy 1 1 0 0 sp_X1_isAboard (z_if (fun x => x = 0) (B_X5_seats_50 b n0 cy P A) (z_iload 4 (z_iload 2 (z_icmp (fun x y => x = y) (B_X5_seats_50 b n0 cy P A) (z_aload 0 (z_get b n0 5 3 (z_get b n0 0 1 (z_aload 3 (z_callV b n0 0 0 cy 2 1 0 0 sp_X2_push (z_aload 3 (z_get b n0 1 4 (z_iload 1 (z_iload 2 (z_ast b n0 (cy 1) (fun x => x) (z_iload 4 (z_iret 0 0 P)))))))))))))))))))))))) (B_X5_seats_26 b n0 cy P A)))))))))))))
def zVC_X5_seats (sp : zSp) : Prop := ∀ (b : Nat) (cy : zY) (n : Nat) (as : List Value) (E : zE) (P : zPo) (A : Nat → zC), sp b cy as n E P → zgood as 5 ∧ B_X5_seats_0 b n cy P A (lv_args 0 as) [] 0 0 E

set_option maxRecDepth 100000 in
set_option maxHeartbeats 4000000 in
theorem vc_X5_seats : zVC_X5_seats sp_X5_seats := by
  intro b cy N as E P A hsp
  obtain ⟨x, s, K, ⟨T, D, C, I, S, tr⟩, rfl, hbc, hok, hK, hN, hP⟩ := hsp
  refine ⟨⟨Nat.le_of_ble_eq_true rfl, zg1 rfl (zg1 rfl (zg1 rfl (zg0)))⟩, ?_⟩
  obtain ⟨e0, hTx, ⟨seat, items, hTo⟩, hDr, hIm, hIs, hAh, hSn, hI0, hI1⟩ := id hbc
  have hp2 := hbc.p2 hok hN
  obtain ⟨hp1, e11⟩ := id hp2
  obtain ⟨hR, hmo, hmk, hi12, _⟩ := id hp1
  obtain ⟨hn1, mf, mg, mh, m0, m1, m2, m3, hmf, hmg, hmh⟩ := id hmo
  obtain ⟨_, tf, tg, th, t0, t1, t2, t3, htf, htg, hth⟩ := id hTo
  replace m1 : E 13 = _ := m1
  replace m2 : E 14 = _ := m2
  replace m3 : E 15 = _ := m3
  replace t1 : E 4 = _ := t1
  replace t2 : E 5 = _ := t2
  replace t3 : E 6 = _ := t3
  have hpa : zPa b cy E 16 D.1 C.2.1 C.2.2 := hIm.2.2
  have hlo := hok.2.1
  have N0 : 0 < N := by omega
  have N1 : 1 < N := by omega
  have N2 : 2 < N := by omega
  have N3 : 3 < N := by omega
  have N4 : 4 < N := by omega
  have N5 : 5 < N := by omega
  have N6 : 6 < N := by omega
  have N7 : 7 < N := by omega
  have N11 : 11 < N := by omega
  have N12 : 12 < N := by omega
  have N13 : 13 < N := by omega
  have N14 : 14 < N := by omega
  have N15 : 15 < N := by omega
  have N16 : 16 < N := by omega
  have N58 : 58 < N := by omega
  have N59 : 59 < N := by omega
  have N63 : 63 < N := by omega
  have N64 : 64 < N := by omega
  have N65 : 65 < N := by omega
  have N112 : 112 < N := by omega
  have k9 : (9 : Int32) = nI 9 := rfl
  simp only [op_seats] at hP
  simp only [B_X5_seats_0, B_X5_seats_26, B_X5_seats_50, e_cut, e_iload, e_aload, e_istore, e_astore, e_iinc, e_const, e_lconst, e_bin, e_bin0, e_un, e_ladd, e_dupi, e_dupr, e_dup2, e_pop, e_if, e_icmp, e_sw, e_sw0, e_sw1, e_get, e_put, e_ald, e_ast, e_aald, e_aast, e_copy, e_new, e_newa, e_anewa, e_min, e_abs, e_oinit, e_callI, e_callV, e_callS, e_iret, e_zret, e_lret, e_vret, e_tl1, e_tl0, e_tl2, e_tl3, z10, Bool.false_eq_true, e_argi, e_argr, e_argn, zld_c, zst_n, zst_c, zpick_n, zpick_c, List.drop_succ_cons, List.drop_zero, List.take_succ_cons, List.take_zero, List.length_cons, List.length_nil, List.reverse_cons, List.reverse_nil, List.nil_append, List.cons_append, List.append_nil, List.getElem?_cons_zero, List.getElem?_cons_succ, List.set_cons_zero, List.set_cons_succ, Nat.add_sub_cancel_left, Nat.sub_self, Nat.add_zero, Nat.zero_add, Nat.le_add_right, Nat.le_refl, true_and, and_true, va_rf, zok, Nat.add_left_cancel_iff, Nat.add_eq_left, Nat.left_eq_add, eq_self, if_true, if_false, not_false_eq_true, not_true_eq_false, false_implies, true_implies, Nat.reduceEqDiff, Nat.reduceAdd, Nat.reduceLT, Nat.reduceLeDiff, reduceIte, zB0, e0, N0, N1, N2, N3, N4, N5, N6, N7, N11, N12, N13, N14, N15, N16, N58, N59, N63, N64, N65, N112, e11]
  refine ⟨_, _, _, x, rfl, hR, hN, ?_⟩
  by_cases q1 : zisB D.1 x = true
  · obtain ⟨r, hr, rfl⟩ := zisB_t q1 hn1
    have hin : vp_in (nI r) 6 := vp_in_nI (by omega) (by omega)
    have hcl : (nI r).toNatClampNeg = r := nI_clamp (by omega)
    simp only [q1, true_and, zcl_i (show r < 2 ^ 31 by omega)] at hP
    simp only [e_cut, e_iload, e_aload, e_istore, e_astore, e_iinc, e_const, e_lconst, e_bin, e_bin0, e_un, e_ladd, e_dupi, e_dupr, e_dup2, e_pop, e_if, e_icmp, e_sw, e_sw0, e_sw1, e_get, e_put, e_ald, e_ast, e_aald, e_aast, e_copy, e_new, e_newa, e_anewa, e_min, e_abs, e_oinit, e_callI, e_callV, e_callS, e_iret, e_zret, e_lret, e_vret, e_tl1, e_tl0, e_tl2, e_tl3, z10, Bool.false_eq_true, e_argi, e_argr, e_argn, zld_c, zst_n, zst_c, zpick_n, zpick_c, List.drop_succ_cons, List.drop_zero, List.take_succ_cons, List.take_zero, List.length_cons, List.length_nil, List.reverse_cons, List.reverse_nil, List.nil_append, List.cons_append, List.append_nil, List.getElem?_cons_zero, List.getElem?_cons_succ, List.set_cons_zero, List.set_cons_succ, Nat.add_sub_cancel_left, Nat.sub_self, Nat.add_zero, Nat.zero_add, Nat.le_add_right, Nat.le_refl, true_and, and_true, va_rf, zok, Nat.add_left_cancel_iff, Nat.add_eq_left, Nat.left_eq_add, eq_self, if_true, if_false, not_false_eq_true, not_true_eq_false, false_implies, true_implies, Nat.reduceEqDiff, Nat.reduceAdd, Nat.reduceLT, Nat.reduceLeDiff, reduceIte, q1, m0, m1, N0, N1, N2, N3, N4, N5, N6, N7, N11, N12, N13, N14, N15, N16, N58, N59, N63, N64, N65, N112, hin, hcl, hmf r hr, k9]
    refine ⟨fun c1 => ?_, fun c1 => ⟨fun c2 => ?_, fun c2 => ?_⟩⟩
    · rw [if_neg (zisB_f1 c1)] at hP
      exact hP E hbc (fun _ _ => rfl)
    · have q2 := zisB_le c1 c2 (by omega)
      obtain ⟨sv, hs, rfl⟩ := zisB_u q2 (by omega)
      have hseat := hmk.2.2.2.2.1 r hr
      rw [if_pos q2] at hP
      simp only [zcl_i (show sv < 2 ^ 31 by omega)] at hP
      refine ⟨12, r, _, _, rfl, hmo, hi12, by omega, hmk.l64, ?_⟩
      by_cases q3 : (C.1 1).testBit r = true
      · simp only [q3, true_and] at hP
        simp only [e_cut, e_iload, e_aload, e_istore, e_astore, e_iinc, e_const, e_lconst, e_bin, e_bin0, e_un, e_ladd, e_dupi, e_dupr, e_dup2, e_pop, e_if, e_icmp, e_sw, e_sw0, e_sw1, e_get, e_put, e_ald, e_ast, e_aald, e_aast, e_copy, e_new, e_newa, e_anewa, e_min, e_abs, e_oinit, e_callI, e_callV, e_callS, e_iret, e_zret, e_lret, e_vret, e_tl1, e_tl0, e_tl2, e_tl3, z10, Bool.false_eq_true, e_argi, e_argr, e_argn, zld_c, zst_n, zst_c, zpick_n, zpick_c, List.drop_succ_cons, List.drop_zero, List.take_succ_cons, List.take_zero, List.length_cons, List.length_nil, List.reverse_cons, List.reverse_nil, List.nil_append, List.cons_append, List.append_nil, List.getElem?_cons_zero, List.getElem?_cons_succ, List.set_cons_zero, List.set_cons_succ, Nat.add_sub_cancel_left, Nat.sub_self, Nat.add_zero, Nat.zero_add, Nat.le_add_right, Nat.le_refl, true_and, and_true, va_rf, zok, Nat.add_left_cancel_iff, Nat.add_eq_left, Nat.left_eq_add, eq_self, if_true, if_false, not_false_eq_true, not_true_eq_false, false_implies, true_implies, Nat.reduceEqDiff, Nat.reduceAdd, Nat.reduceLT, Nat.reduceLeDiff, reduceIte, q3, nI_eq (show C.1 (4 + r) < 2 ^ 31 by omega) (show sv < 2 ^ 31 by omega)]
        refine ⟨fun c3 => ?_, fun c3 => ?_⟩
        · rw [if_neg (fun h => h c3)] at hP
          exact hP E hbc (fun _ _ => rfl)
        · rw [if_pos c3] at hP
          obtain ⟨_, old, pf, ho, p0, p1, _⟩ := id hpa
          simp only [e_cut, e_iload, e_aload, e_istore, e_astore, e_iinc, e_const, e_lconst, e_bin, e_bin0, e_un, e_ladd, e_dupi, e_dupr, e_dup2, e_pop, e_if, e_icmp, e_sw, e_sw0, e_sw1, e_get, e_put, e_ald, e_ast, e_aald, e_aast, e_copy, e_new, e_newa, e_anewa, e_min, e_abs, e_oinit, e_callI, e_callV, e_callS, e_iret, e_zret, e_lret, e_vret, e_tl1, e_tl0, e_tl2, e_tl3, z10, Bool.false_eq_true, e_argi, e_argr, e_argn, zld_c, zst_n, zst_c, zpick_n, zpick_c, List.drop_succ_cons, List.drop_zero, List.take_succ_cons, List.take_zero, List.length_cons, List.length_nil, List.reverse_cons, List.reverse_nil, List.nil_append, List.cons_append, List.append_nil, List.getElem?_cons_zero, List.getElem?_cons_succ, List.set_cons_zero, List.set_cons_succ, Nat.add_sub_cancel_left, Nat.sub_self, Nat.add_zero, Nat.zero_add, Nat.le_add_right, Nat.le_refl, true_and, and_true, va_rf, zok, Nat.add_left_cancel_iff, Nat.add_eq_left, Nat.left_eq_add, eq_self, if_true, if_false, not_false_eq_true, not_true_eq_false, false_implies, true_implies, Nat.reduceEqDiff, Nat.reduceAdd, Nat.reduceLT, Nat.reduceLeDiff, reduceIte, zB0, e0, e11, N0, N1, N2, N3, N4, N5, N6, N7, N11, N12, N13, N14, N15, N16, N58, N59, N63, N64, N65, N112, p0]
          refine ⟨16, 12, _, _, _, _, rfl, hpa, hmo, by omega, by omega, by omega, fun E1 hp1' hk1 => ?_⟩
          have hmo1 : zMo b cy E1 12 D.1 C.1 := hmo.congr (fun j _ _ => hk1 j (by omega))
          obtain ⟨_, kf, kg, kh, k0, k1, k2, k3, hkf, hkg, hkh⟩ := id hmo1
          replace k1 : E1 13 = _ := k1
          replace k2 : E1 14 = _ := k2
          replace k3 : E1 15 = _ := k3
          simp only [e_cut, e_iload, e_aload, e_istore, e_astore, e_iinc, e_const, e_lconst, e_bin, e_bin0, e_un, e_ladd, e_dupi, e_dupr, e_dup2, e_pop, e_if, e_icmp, e_sw, e_sw0, e_sw1, e_get, e_put, e_ald, e_ast, e_aald, e_aast, e_copy, e_new, e_newa, e_anewa, e_min, e_abs, e_oinit, e_callI, e_callV, e_callS, e_iret, e_zret, e_lret, e_vret, e_tl1, e_tl0, e_tl2, e_tl3, z10, Bool.false_eq_true, e_argi, e_argr, e_argn, zld_c, zst_n, zst_c, zpick_n, zpick_c, List.drop_succ_cons, List.drop_zero, List.take_succ_cons, List.take_zero, List.length_cons, List.length_nil, List.reverse_cons, List.reverse_nil, List.nil_append, List.cons_append, List.append_nil, List.getElem?_cons_zero, List.getElem?_cons_succ, List.set_cons_zero, List.set_cons_succ, Nat.add_sub_cancel_left, Nat.sub_self, Nat.add_zero, Nat.zero_add, Nat.le_add_right, Nat.le_refl, true_and, and_true, va_rf, zok, Nat.add_left_cancel_iff, Nat.add_eq_left, Nat.left_eq_add, eq_self, if_true, if_false, not_false_eq_true, not_true_eq_false, false_implies, true_implies, Nat.reduceEqDiff, Nat.reduceAdd, Nat.reduceLT, Nat.reduceLeDiff, reduceIte, k0, k1, N0, N1, N2, N3, N4, N5, N6, N7, N11, N12, N13, N14, N15, N16, N58, N59, N63, N64, N65, N112, hin, hcl]
          refine hP _ (hbc.cur ⟨?_, ⟨hn1, upd kf r (nI sv), kg, kh, ?_, ?_, ?_, ?_, ?_, ?_, ?_⟩, ?_⟩ (fun j hj => ?_)) (fun j hj => ?_)
          · simp only [e_up]; rw [if_neg (by omega), hk1 _ (by omega)]; exact e11
          · simp only [e_up]; rw [if_neg (by omega), k0]
            simp only [zpush, zup]
            rw [if_neg (by omega), if_neg (by omega), if_neg (by omega), if_neg (by omega)]
          · simp [e_up]
          · simp only [e_up]; rw [if_neg (by omega)]; exact k2
          · simp only [e_up]; rw [if_neg (by omega)]; exact k3
          · intro j hj
            show upd kf r (nI sv) j = nI (zup C.1 (4 + r) sv (4 + j))
            simp only [zup, upd]
            by_cases h : j = r
            · rw [if_pos h, if_pos (by omega)]
            · rw [if_neg h, if_neg (by omega)]; exact hkf j hj
          · intro j hj
            show kg j = zdn (zup C.1 (4 + r) sv (10 + j))
            simp only [zup]; rw [if_neg (by omega)]; exact hkg j hj
          · intro j hj
            show kh j = nI (zup C.1 (4 + r) sv (16 + j))
            simp only [zup]; rw [if_neg (by omega)]; exact hkh j hj
          · exact hp1'.congr (fun j _ _ => by simp only [e_up]; rw [if_neg (by omega)])
          · simp only [e_up]; rw [if_neg (by omega)]; exact hk1 _ (by omega)
          · simp only [e_up]; rw [if_neg (by omega)]; exact hk1 _ (by omega)
      · rw [if_neg (fun h => q3 h.1)] at hP
        simp only [e_cut, e_iload, e_aload, e_istore, e_astore, e_iinc, e_const, e_lconst, e_bin, e_bin0, e_un, e_ladd, e_dupi, e_dupr, e_dup2, e_pop, e_if, e_icmp, e_sw, e_sw0, e_sw1, e_get, e_put, e_ald, e_ast, e_aald, e_aast, e_copy, e_new, e_newa, e_anewa, e_min, e_abs, e_oinit, e_callI, e_callV, e_callS, e_iret, e_zret, e_lret, e_vret, e_tl1, e_tl0, e_tl2, e_tl3, z10, Bool.false_eq_true, e_argi, e_argr, e_argn, zld_c, zst_n, zst_c, zpick_n, zpick_c, List.drop_succ_cons, List.drop_zero, List.take_succ_cons, List.take_zero, List.length_cons, List.length_nil, List.reverse_cons, List.reverse_nil, List.nil_append, List.cons_append, List.append_nil, List.getElem?_cons_zero, List.getElem?_cons_succ, List.set_cons_zero, List.set_cons_succ, Nat.add_sub_cancel_left, Nat.sub_self, Nat.add_zero, Nat.zero_add, Nat.le_add_right, Nat.le_refl, true_and, and_true, va_rf, zok, Nat.add_left_cancel_iff, Nat.add_eq_left, Nat.left_eq_add, eq_self, if_true, if_false, not_false_eq_true, not_true_eq_false, false_implies, true_implies, Nat.reduceEqDiff, Nat.reduceAdd, Nat.reduceLT, Nat.reduceLeDiff, reduceIte, q3, B_X5_seats_0, B_X5_seats_26, B_X5_seats_50]
        exact hP E hbc (fun _ _ => rfl)
    · rw [if_neg (zisB_nle c2 (by omega))] at hP
      exact hP E hbc (fun _ _ => rfl)
  · rw [if_neg (fun h => q1 h.1)] at hP
    simp only [e_cut, e_iload, e_aload, e_istore, e_astore, e_iinc, e_const, e_lconst, e_bin, e_bin0, e_un, e_ladd, e_dupi, e_dupr, e_dup2, e_pop, e_if, e_icmp, e_sw, e_sw0, e_sw1, e_get, e_put, e_ald, e_ast, e_aald, e_aast, e_copy, e_new, e_newa, e_anewa, e_min, e_abs, e_oinit, e_callI, e_callV, e_callS, e_iret, e_zret, e_lret, e_vret, e_tl1, e_tl0, e_tl2, e_tl3, z10, Bool.false_eq_true, e_argi, e_argr, e_argn, zld_c, zst_n, zst_c, zpick_n, zpick_c, List.drop_succ_cons, List.drop_zero, List.take_succ_cons, List.take_zero, List.length_cons, List.length_nil, List.reverse_cons, List.reverse_nil, List.nil_append, List.cons_append, List.append_nil, List.getElem?_cons_zero, List.getElem?_cons_succ, List.set_cons_zero, List.set_cons_succ, Nat.add_sub_cancel_left, Nat.sub_self, Nat.add_zero, Nat.zero_add, Nat.le_add_right, Nat.le_refl, true_and, and_true, va_rf, zok, Nat.add_left_cancel_iff, Nat.add_eq_left, Nat.left_eq_add, eq_self, if_true, if_false, not_false_eq_true, not_true_eq_false, false_implies, true_implies, Nat.reduceEqDiff, Nat.reduceAdd, Nat.reduceLT, Nat.reduceLeDiff, reduceIte, q1, B_X5_seats_0, B_X5_seats_26, B_X5_seats_50]
    exact hP E hbc (fun _ _ => rfl)
set_option maxRecDepth 20000 in
theorem f_X5_seats_29 : Cond.fieldLink RX5 29 (TX5 3).1 (TX5 3).2.1 (TX5 3).2.2.1 ∈ wsX5_seats := by decide +kernel
set_option maxRecDepth 20000 in
theorem k_X5_seats_5 : ∀ w ∈ u_ws RX5 TX5 11, w ∈ wsX5_seats := fun _ h => List.mem_cons_of_mem _ (List.mem_append_left _ (List.mem_append_left _ (List.mem_append_left _ (List.mem_append_left _ (List.mem_append_right _ h)))))
set_option maxRecDepth 20000 in
theorem f_X5_seats_76 : Cond.fieldLink RX5 76 (TX0 0).1 (TX0 0).2.1 (TX0 0).2.2.1 ∈ wsX5_seats := by decide +kernel
set_option maxRecDepth 20000 in
theorem k_X5_seats_0 : ∀ w ∈ u_ws RX0 TX0 2, w ∈ wsX5_seats := fun _ h => List.mem_cons_of_mem _ (List.mem_append_left _ (List.mem_append_left _ (List.mem_append_left _ (List.mem_append_right _ h))))
set_option maxRecDepth 20000 in
theorem f_X5_seats_79 : Cond.fieldLink RX5 79 (TX1 4).1 (TX1 4).2.1 (TX1 4).2.2.1 ∈ wsX5_seats := by decide +kernel
set_option maxRecDepth 20000 in
theorem k_X5_seats_1 : ∀ w ∈ u_ws RX1 TX1 7, w ∈ wsX5_seats := fun _ h => List.mem_cons_of_mem _ (List.mem_append_left _ (List.mem_append_left _ (List.mem_append_right _ h)))
set_option maxRecDepth 20000 in
theorem f_X5_seats_119 : Cond.fieldLink RX5 119 (TX0 1).1 (TX0 1).2.1 (TX0 1).2.2.1 ∈ wsX5_seats := by decide +kernel
set_option maxRecDepth 100000 in
set_option maxHeartbeats 4000000 in
theorem S_X5_seats_50 {p : Program} {e : Env} {s : State} {m : MethodId} {args : Array Value} {below : List Frame} {meth : Method} {c : Code} {D : va_G} {cy : zY} {b n0 : Nat} {P : zPo} (la : Launch) (X : zX p la e (rm_X5_seats) s m args below meth c 5 D cy b n0 cX5_seats wsX5_seats RX5) (hr : meth.sig.returnType = (some .int)) (h_X1_isAboard : zMet la yX1_isAboard wsX1_isAboard rm_X1_isAboard 0 0 sp_X1_isAboard) (h_X2_push : zMet la yX2_push wsX2_push rm_X2_push 0 0 sp_X2_push) (h_X5_isRider : zMet la yX5_isRider wsX5_isRider rm_X5_isRider 0 0 sp_X5_isRider) : zS p la e (rm_X5_seats) s m args below meth c (MQ below (zQ D b (n0 + 0) P) args s 0 0 (fun q => b ≤ q)) 5 D b n0 50 (B_X5_seats_50 b n0 cy P (zAt p la e (rm_X5_seats) s m args below meth c (MQ below (zQ D b (n0 + 0) P) args s 0 0 (fun q => b ≤ q)) 5 D b n0)) := by
  unfold B_X5_seats_50
  exact (s_bipush X dX5_seats_50 (by decide) (s_iret X dX5_seats_52 hr))
set_option maxRecDepth 100000 in
set_option maxHeartbeats 4000000 in
theorem S_X5_seats_26 {p : Program} {e : Env} {s : State} {m : MethodId} {args : Array Value} {below : List Frame} {meth : Method} {c : Code} {D : va_G} {cy : zY} {b n0 : Nat} {P : zPo} (la : Launch) (X : zX p la e (rm_X5_seats) s m args below meth c 5 D cy b n0 cX5_seats wsX5_seats RX5) (hr : meth.sig.returnType = (some .int)) (h_X1_isAboard : zMet la yX1_isAboard wsX1_isAboard rm_X1_isAboard 0 0 sp_X1_isAboard) (h_X2_push : zMet la yX2_push wsX2_push rm_X2_push 0 0 sp_X2_push) (h_X5_isRider : zMet la yX5_isRider wsX5_isRider rm_X5_isRider 0 0 sp_X5_isRider) : zS p la e (rm_X5_seats) s m args below meth c (MQ below (zQ D b (n0 + 0) P) args s 0 0 (fun q => b ≤ q)) 5 D b n0 26 (B_X5_seats_26 b n0 cy P (zAt p la e (rm_X5_seats) s m args below meth c (MQ below (zQ D b (n0 + 0) P) args s 0 0 (fun q => b ≤ q)) 5 D b n0)) := by
  unfold B_X5_seats_26
  exact (s_iconst X dX5_seats_26 (by decide) (s_iret X dX5_seats_27 hr))
set_option maxRecDepth 100000 in
set_option maxHeartbeats 4000000 in
theorem S_X5_seats_0 {p : Program} {e : Env} {s : State} {m : MethodId} {args : Array Value} {below : List Frame} {meth : Method} {c : Code} {D : va_G} {cy : zY} {b n0 : Nat} {P : zPo} (la : Launch) (X : zX p la e (rm_X5_seats) s m args below meth c 5 D cy b n0 cX5_seats wsX5_seats RX5) (hr : meth.sig.returnType = (some .int)) (h_X1_isAboard : zMet la yX1_isAboard wsX1_isAboard rm_X1_isAboard 0 0 sp_X1_isAboard) (h_X2_push : zMet la yX2_push wsX2_push rm_X2_push 0 0 sp_X2_push) (h_X5_isRider : zMet la yX5_isRider wsX5_isRider rm_X5_isRider 0 0 sp_X5_isRider) : zS p la e (rm_X5_seats) s m args below meth c (MQ below (zQ D b (n0 + 0) P) args s 0 0 (fun q => b ≤ q)) 5 D b n0 0 (B_X5_seats_0 b n0 cy P (zAt p la e (rm_X5_seats) s m args below meth c (MQ below (zQ D b (n0 + 0) P) args s 0 0 (fun q => b ≤ q)) 5 D b n0)) := by
  unfold B_X5_seats_0
  exact (s_aload_n X dX5_seats_0 rfl (s_get X dX5_seats_1 rfl k_X5_seats_5 (by decide) f_X5_seats_29 (s_get X dX5_seats_4 rfl k_X5_seats_0 (by decide) f_X5_seats_76 (s_astore_n X dX5_seats_7 rfl (by decide) (s_aload_n X dX5_seats_8 rfl (s_iload_n X dX5_seats_9 rfl (s_callV X h_X5_isRider dX5_seats_10 rfl gX5_seats_X5_isRider rfl rfl rfl (by decide +kernel) ⟨by decide, by decide⟩ (s_if_eq X dX5_seats_13 (by decide) (S_X5_seats_26 la X hr h_X1_isAboard h_X2_push h_X5_isRider) (s_iload_n X dX5_seats_16 rfl (s_if_lt X dX5_seats_17 (by decide) (S_X5_seats_26 la X hr h_X1_isAboard h_X2_push h_X5_isRider) (s_iload_n X dX5_seats_20 rfl (s_bipush X dX5_seats_21 (by decide) (s_icmp_le X dX5_seats_23 (by decide) (s_aload_n X dX5_seats_28 rfl (s_get X dX5_seats_29 rfl k_X5_seats_1 (by decide) f_X5_seats_79 (s_iload_n X dX5_seats_32 rfl (s_iald X dX5_seats_33 (s_istore X dX5_seats_34 (by decide) (s_aload_n X dX5_seats_36 rfl (s_iload_n X dX5_seats_37 rfl (s_callV X h_X1_isAboard dX5_seats_38 rfl gX5_seats_X1_isAboard rfl rfl rfl (by decide +kernel) ⟨by decide, by decide⟩ (s_if_eq X dX5_seats_41 (by decide) (S_X5_seats_50 la X hr h_X1_isAboard h_X2_push h_X5_isRider) (s_iload X dX5_seats_44 (s_iload_n X dX5_seats_46 rfl (s_icmp_ne X dX5_seats_47 (by decide) (s_aload_n X dX5_seats_53 rfl (s_get X dX5_seats_54 rfl k_X5_seats_5 (by decide) f_X5_seats_29 (s_get X dX5_seats_57 rfl k_X5_seats_0 (by decide) f_X5_seats_119 (s_aload_n X dX5_seats_60 rfl (s_callV X h_X2_push dX5_seats_61 rfl gX5_seats_X2_push rfl rfl rfl (by decide +kernel) ⟨by decide, by decide⟩ (s_aload_n X dX5_seats_64 rfl (s_get X dX5_seats_65 rfl k_X5_seats_1 (by decide) f_X5_seats_79 (s_iload_n X dX5_seats_68 rfl (s_iload_n X dX5_seats_69 rfl (s_iast X dX5_seats_70 (s_iload X dX5_seats_71 (s_iret X dX5_seats_73 hr)))))))))))) (S_X5_seats_50 la X hr h_X1_isAboard h_X2_push h_X5_isRider))))))))))))) (S_X5_seats_26 la X hr h_X1_isAboard h_X2_push h_X5_isRider))))))))))))))
theorem w_X5_seats (la : Launch) (h_X1_isAboard : zMet la yX1_isAboard wsX1_isAboard rm_X1_isAboard 0 0 sp_X1_isAboard) (h_X2_push : zMet la yX2_push wsX2_push rm_X2_push 0 0 sp_X2_push) (h_X5_isRider : zMet la yX5_isRider wsX5_isRider rm_X5_isRider 0 0 sp_X5_isRider) (sp : zSp) (vc : zVC_X5_seats sp) : zMet la yX5_seats wsX5_seats (rm_X5_seats) 0 0 sp :=
  z_of (cc := cX5_seats) (maxL := 5) (ret := (some .int)) (by decide +kernel) rfl (fun p e s m args below meth c D cy b n as E P hsp X hr hin => by
    obtain ⟨h1, h2⟩ := vc b cy n as E P (zAt p la e (rm_X5_seats) s m args below meth c (MQ below (zQ D b (n + 0) P) args s 0 0 (fun q => b ≤ q)) 5 D b n) hsp
    exact ⟨h1, S_X5_seats_0 la X hr h_X1_isAboard h_X2_push h_X5_isRider _ _ _ _ _ h2⟩)

theorem m_X5_seats (la : Launch) : zMet la yX5_seats wsX5_seats rm_X5_seats 0 0 sp_X5_seats := w_X5_seats la (m_X1_isAboard la) (m_X2_push la) (m_X5_isRider la) _ vc_X5_seats
theorem zboard_v {c : Nat → Nat} {r : Nat} : zboard c r 0 = c 0 ∧ zboard c r 1 = zset (c 1) r ∧ zboard c r 2 = c 2 ∧ zboard c r 3 = c 3 := by
  have a0 : ¬ 0 = 10 + r := by omega
  have a1 : ¬ 1 = 10 + r := by omega
  have a2 : ¬ 2 = 10 + r := by omega
  have a3 : ¬ 3 = 10 + r := by omega
  simp [zboard, zup, a0, a1, a2, a3]
def sp_X5_boards : zSp := fun b cy as N E P => ∃ x : Int32, zPX (op_boards x) [.int x] b cy as N E P
abbrev rm_X5_boards : Room := { frames := 3, cells := 0, slots := 0, locals := 82 }
def B_X5_boards_0 (b n0 : Nat) (cy : zY) (P : zPo) (A : Nat → zC) : zC :=
  z_aload 0 (z_get b n0 5 3 (z_get b n0 0 0 (z_astore 2 (z_aload 0 (z_iload 1 (z_callV b n0 0 0 cy 5 1 0 0 sp_X5_isRider (z_if (fun x => x = 0) (z_const (-1) (z_iret 0 0 P)) (z_aload 2 (z_iload 1 (z_callV b n0 0 0 cy 1 1 0 0 sp_X1_isAboard (z_if (fun x => x = 0) (z_aload 0 (z_get b n0 5 3 (z_get b n0 0 1 (z_aload 2 (z_callV b n0 0 0 cy 2 1 0 0 sp_X2_push (z_aload 2 (z_dup (z_get b n0 1 1 (z_const (1) (z_iload 1 (z_bin (fun x y => x <<< (y &&& 31)) (z_bin (fun x y => x ||| y) (z_put b n0 1 1 0 (z_aload 2 (z_get b n0 1 5 (z_iload 1 (z_const (-9) (z_ast b n0 (cy 1) (fun x => x) (z_aload 2 (z_get b n0 1 1 (z_callS b n0 0 0 cy 1 0 0 sp_J6_bitCount_0f7a4 (z_iret 0 0 P)))))))))))))))))))))) (z_const (-2) (z_iret 0 0 P)))))))))))))
def zVC_X5_boards (sp : zSp) : Prop := ∀ (b : Nat) (cy : zY) (n : Nat) (as : List Value) (E : zE) (P : zPo) (A : Nat → zC), sp b cy as n E P → zgood as 3 ∧ B_X5_boards_0 b n cy P A (lv_args 0 as) [] 0 0 E

set_option maxRecDepth 100000 in
set_option maxHeartbeats 4000000 in
theorem vc_X5_boards : zVC_X5_boards sp_X5_boards := by
  intro b cy N as E P A hsp
  obtain ⟨x, K, ⟨T, D, C, I, S, tr⟩, rfl, hbc, hok, hK, hN, hP⟩ := hsp
  refine ⟨⟨Nat.le_of_ble_eq_true rfl, zg1 rfl (zg1 rfl (zg0))⟩, ?_⟩
  obtain ⟨e0, hTx, ⟨seat, items, hTo⟩, hDr, hIm, hIs, hAh, hSn, hI0, hI1⟩ := id hbc
  have hp2 := hbc.p2 hok hN
  obtain ⟨hp1, e11⟩ := id hp2
  obtain ⟨hR, hmo, hmk, hi12, _⟩ := id hp1
  obtain ⟨hn1, mf, mg, mh, m0, m1, m2, m3, hmf, hmg, hmh⟩ := id hmo
  obtain ⟨_, tf, tg, th, t0, t1, t2, t3, htf, htg, hth⟩ := id hTo
  replace m1 : E 13 = _ := m1
  replace m2 : E 14 = _ := m2
  replace m3 : E 15 = _ := m3
  replace t1 : E 4 = _ := t1
  replace t2 : E 5 = _ := t2
  replace t3 : E 6 = _ := t3
  have hpa : zPa b cy E 16 D.1 C.2.1 C.2.2 := hIm.2.2
  have hlo := hok.2.1
  have N0 : 0 < N := by omega
  have N1 : 1 < N := by omega
  have N2 : 2 < N := by omega
  have N3 : 3 < N := by omega
  have N4 : 4 < N := by omega
  have N5 : 5 < N := by omega
  have N6 : 6 < N := by omega
  have N7 : 7 < N := by omega
  have N11 : 11 < N := by omega
  have N12 : 12 < N := by omega
  have N13 : 13 < N := by omega
  have N14 : 14 < N := by omega
  have N15 : 15 < N := by omega
  have N16 : 16 < N := by omega
  have N58 : 58 < N := by omega
  have N59 : 59 < N := by omega
  have N63 : 63 < N := by omega
  have N64 : 64 < N := by omega
  have N65 : 65 < N := by omega
  have N112 : 112 < N := by omega
  simp only [op_boards] at hP
  simp only [B_X5_boards_0, e_cut, e_iload, e_aload, e_istore, e_astore, e_iinc, e_const, e_lconst, e_bin, e_bin0, e_un, e_ladd, e_dupi, e_dupr, e_dup2, e_pop, e_if, e_icmp, e_sw, e_sw0, e_sw1, e_get, e_put, e_ald, e_ast, e_aald, e_aast, e_copy, e_new, e_newa, e_anewa, e_min, e_abs, e_oinit, e_callI, e_callV, e_callS, e_iret, e_zret, e_lret, e_vret, e_tl1, e_tl0, e_tl2, e_tl3, z10, Bool.false_eq_true, e_argi, e_argr, e_argn, zld_c, zst_n, zst_c, zpick_n, zpick_c, List.drop_succ_cons, List.drop_zero, List.take_succ_cons, List.take_zero, List.length_cons, List.length_nil, List.reverse_cons, List.reverse_nil, List.nil_append, List.cons_append, List.append_nil, List.getElem?_cons_zero, List.getElem?_cons_succ, List.set_cons_zero, List.set_cons_succ, Nat.add_sub_cancel_left, Nat.sub_self, Nat.add_zero, Nat.zero_add, Nat.le_add_right, Nat.le_refl, true_and, and_true, va_rf, zok, Nat.add_left_cancel_iff, Nat.add_eq_left, Nat.left_eq_add, eq_self, if_true, if_false, not_false_eq_true, not_true_eq_false, false_implies, true_implies, Nat.reduceEqDiff, Nat.reduceAdd, Nat.reduceLT, Nat.reduceLeDiff, reduceIte, zB0, e0, N0, N1, N2, N3, N4, N5, N6, N7, N11, N12, N13, N14, N15, N16, N58, N59, N63, N64, N65, N112, e11]
  refine ⟨_, _, _, x, rfl, hR, hN, ?_⟩
  by_cases q1 : zisB D.1 x = true
  · obtain ⟨r, hr, rfl⟩ := zisB_t q1 hn1
    have hin : vp_in (nI r) 6 := vp_in_nI (by omega) (by omega)
    have hcl : (nI r).toNatClampNeg = r := nI_clamp (by omega)
    have hr6 : r < 6 := by omega
    simp only [q1, if_true, zcl_i (show r < 2 ^ 31 by omega)] at hP
    simp only [e_cut, e_iload, e_aload, e_istore, e_astore, e_iinc, e_const, e_lconst, e_bin, e_bin0, e_un, e_ladd, e_dupi, e_dupr, e_dup2, e_pop, e_if, e_icmp, e_sw, e_sw0, e_sw1, e_get, e_put, e_ald, e_ast, e_aald, e_aast, e_copy, e_new, e_newa, e_anewa, e_min, e_abs, e_oinit, e_callI, e_callV, e_callS, e_iret, e_zret, e_lret, e_vret, e_tl1, e_tl0, e_tl2, e_tl3, z10, Bool.false_eq_true, e_argi, e_argr, e_argn, zld_c, zst_n, zst_c, zpick_n, zpick_c, List.drop_succ_cons, List.drop_zero, List.take_succ_cons, List.take_zero, List.length_cons, List.length_nil, List.reverse_cons, List.reverse_nil, List.nil_append, List.cons_append, List.append_nil, List.getElem?_cons_zero, List.getElem?_cons_succ, List.set_cons_zero, List.set_cons_succ, Nat.add_sub_cancel_left, Nat.sub_self, Nat.add_zero, Nat.zero_add, Nat.le_add_right, Nat.le_refl, true_and, and_true, va_rf, zok, Nat.add_left_cancel_iff, Nat.add_eq_left, Nat.left_eq_add, eq_self, if_true, if_false, not_false_eq_true, not_true_eq_false, false_implies, true_implies, Nat.reduceEqDiff, Nat.reduceAdd, Nat.reduceLT, Nat.reduceLeDiff, reduceIte, q1, m0, N0, N1, N2, N3, N4, N5, N6, N7, N11, N12, N13, N14, N15, N16, N58, N59, N63, N64, N65, N112]
    refine ⟨12, r, _, _, rfl, hmo, hi12, by omega, hmk.l64, ?_⟩
    by_cases q2 : (C.1 1).testBit r = true
    · rw [if_pos q2] at hP
      simp only [e_cut, e_iload, e_aload, e_istore, e_astore, e_iinc, e_const, e_lconst, e_bin, e_bin0, e_un, e_ladd, e_dupi, e_dupr, e_dup2, e_pop, e_if, e_icmp, e_sw, e_sw0, e_sw1, e_get, e_put, e_ald, e_ast, e_aald, e_aast, e_copy, e_new, e_newa, e_anewa, e_min, e_abs, e_oinit, e_callI, e_callV, e_callS, e_iret, e_zret, e_lret, e_vret, e_tl1, e_tl0, e_tl2, e_tl3, z10, Bool.false_eq_true, e_argi, e_argr, e_argn, zld_c, zst_n, zst_c, zpick_n, zpick_c, List.drop_succ_cons, List.drop_zero, List.take_succ_cons, List.take_zero, List.length_cons, List.length_nil, List.reverse_cons, List.reverse_nil, List.nil_append, List.cons_append, List.append_nil, List.getElem?_cons_zero, List.getElem?_cons_succ, List.set_cons_zero, List.set_cons_succ, Nat.add_sub_cancel_left, Nat.sub_self, Nat.add_zero, Nat.zero_add, Nat.le_add_right, Nat.le_refl, true_and, and_true, va_rf, zok, Nat.add_left_cancel_iff, Nat.add_eq_left, Nat.left_eq_add, eq_self, if_true, if_false, not_false_eq_true, not_true_eq_false, false_implies, true_implies, Nat.reduceEqDiff, Nat.reduceAdd, Nat.reduceLT, Nat.reduceLeDiff, reduceIte, q2]
      exact hP E hbc (fun _ _ => rfl)
    · rw [if_neg q2] at hP
      obtain ⟨_, old, pf, ho, p0, p1, _⟩ := id hpa
      simp only [e_cut, e_iload, e_aload, e_istore, e_astore, e_iinc, e_const, e_lconst, e_bin, e_bin0, e_un, e_ladd, e_dupi, e_dupr, e_dup2, e_pop, e_if, e_icmp, e_sw, e_sw0, e_sw1, e_get, e_put, e_ald, e_ast, e_aald, e_aast, e_copy, e_new, e_newa, e_anewa, e_min, e_abs, e_oinit, e_callI, e_callV, e_callS, e_iret, e_zret, e_lret, e_vret, e_tl1, e_tl0, e_tl2, e_tl3, z10, Bool.false_eq_true, e_argi, e_argr, e_argn, zld_c, zst_n, zst_c, zpick_n, zpick_c, List.drop_succ_cons, List.drop_zero, List.take_succ_cons, List.take_zero, List.length_cons, List.length_nil, List.reverse_cons, List.reverse_nil, List.nil_append, List.cons_append, List.append_nil, List.getElem?_cons_zero, List.getElem?_cons_succ, List.set_cons_zero, List.set_cons_succ, Nat.add_sub_cancel_left, Nat.sub_self, Nat.add_zero, Nat.zero_add, Nat.le_add_right, Nat.le_refl, true_and, and_true, va_rf, zok, Nat.add_left_cancel_iff, Nat.add_eq_left, Nat.left_eq_add, eq_self, if_true, if_false, not_false_eq_true, not_true_eq_false, false_implies, true_implies, Nat.reduceEqDiff, Nat.reduceAdd, Nat.reduceLT, Nat.reduceLeDiff, reduceIte, q2, zB0, e0, e11, N0, N1, N2, N3, N4, N5, N6, N7, N11, N12, N13, N14, N15, N16, N58, N59, N63, N64, N65, N112, p0]
      refine ⟨16, 12, _, _, _, _, rfl, hpa, hmo, by omega, by omega, by omega, fun E1 hp1' hk1 => ?_⟩
      have hmo1 : zMo b cy E1 12 D.1 C.1 := hmo.congr (fun j _ _ => hk1 j (by omega))
      obtain ⟨_, kf, kg, kh, k0, k1, k2, k3, hkf, hkg, hkh⟩ := id hmo1
      replace k1 : E1 13 = _ := k1
      replace k2 : E1 14 = _ := k2
      replace k3 : E1 15 = _ := k3
      simp only [e_cut, e_iload, e_aload, e_istore, e_astore, e_iinc, e_const, e_lconst, e_bin, e_bin0, e_un, e_ladd, e_dupi, e_dupr, e_dup2, e_pop, e_if, e_icmp, e_sw, e_sw0, e_sw1, e_get, e_put, e_ald, e_ast, e_aald, e_aast, e_copy, e_new, e_newa, e_anewa, e_min, e_abs, e_oinit, e_callI, e_callV, e_callS, e_iret, e_zret, e_lret, e_vret, e_tl1, e_tl0, e_tl2, e_tl3, z10, Bool.false_eq_true, e_argi, e_argr, e_argn, zld_c, zst_n, zst_c, zpick_n, zpick_c, List.drop_succ_cons, List.drop_zero, List.take_succ_cons, List.take_zero, List.length_cons, List.length_nil, List.reverse_cons, List.reverse_nil, List.nil_append, List.cons_append, List.append_nil, List.getElem?_cons_zero, List.getElem?_cons_succ, List.set_cons_zero, List.set_cons_succ, Nat.add_sub_cancel_left, Nat.sub_self, Nat.add_zero, Nat.zero_add, Nat.le_add_right, Nat.le_refl, true_and, and_true, va_rf, zok, Nat.add_left_cancel_iff, Nat.add_eq_left, Nat.left_eq_add, eq_self, if_true, if_false, not_false_eq_true, not_true_eq_false, false_implies, true_implies, Nat.reduceEqDiff, Nat.reduceAdd, Nat.reduceLT, Nat.reduceLeDiff, reduceIte, k0, k1, k2, N0, N1, N2, N3, N4, N5, N6, N7, N11, N12, N13, N14, N15, N16, N58, N59, N63, N64, N65, N112, hin, hcl, e_up, zset_i hmk.l64 hr6]
      refine ⟨zset (C.1 1) r, rfl, zset_lt hmk.l64 hr6, ?_⟩
      simp only [e_cut, e_iload, e_aload, e_istore, e_astore, e_iinc, e_const, e_lconst, e_bin, e_bin0, e_un, e_ladd, e_dupi, e_dupr, e_dup2, e_pop, e_if, e_icmp, e_sw, e_sw0, e_sw1, e_get, e_put, e_ald, e_ast, e_aald, e_aast, e_copy, e_new, e_newa, e_anewa, e_min, e_abs, e_oinit, e_callI, e_callV, e_callS, e_iret, e_zret, e_lret, e_vret, e_tl1, e_tl0, e_tl2, e_tl3, z10, Bool.false_eq_true, e_argi, e_argr, e_argn, zld_c, zst_n, zst_c, zpick_n, zpick_c, List.drop_succ_cons, List.drop_zero, List.take_succ_cons, List.take_zero, List.length_cons, List.length_nil, List.reverse_cons, List.reverse_nil, List.nil_append, List.cons_append, List.append_nil, List.getElem?_cons_zero, List.getElem?_cons_succ, List.set_cons_zero, List.set_cons_succ, Nat.add_sub_cancel_left, Nat.sub_self, Nat.add_zero, Nat.zero_add, Nat.le_add_right, Nat.le_refl, true_and, and_true, va_rf, zok, Nat.add_left_cancel_iff, Nat.add_eq_left, Nat.left_eq_add, eq_self, if_true, if_false, not_false_eq_true, not_true_eq_false, false_implies, true_implies, Nat.reduceEqDiff, Nat.reduceAdd, Nat.reduceLT, Nat.reduceLeDiff, reduceIte]
      refine hP _ (hbc.cur ⟨?_, ⟨hn1, kf, upd kg r (-9), kh, ?_, ?_, ?_, ?_, ?_, ?_, ?_⟩, ?_⟩ (fun j hj => ?_)) (fun j hj => ?_)
      · simp only [e_up]; rw [if_neg (by omega), if_neg (by omega), hk1 _ (by omega)]; exact e11
      · simp only [e_up]
        rw [if_neg (by omega), if_pos (by simp)]
        simp only [zpush, zboard_v.1, zboard_v.2.1, zboard_v.2.2.1, zboard_v.2.2.2]
      · simp only [e_up]; rw [if_neg (by omega), if_neg (by omega)]; exact k1
      · simp [e_up]
      · simp only [e_up]; rw [if_neg (by omega), if_neg (by omega)]; exact k3
      · intro j hj
        show kf j = nI (zboard C.1 r (4 + j))
        simp only [zboard, zup]; rw [if_neg (by omega), if_neg (by omega)]; exact hkf j hj
      · intro j hj
        show upd kg r (-9) j = zdn (zboard C.1 r (10 + j))
        simp only [zboard, zup, upd]
        by_cases h : j = r
        · rw [if_pos h, if_pos (by omega)]; rfl
        · rw [if_neg h, if_neg (by omega), if_neg (by omega)]; exact hkg j hj
      · intro j hj
        show kh j = nI (zboard C.1 r (16 + j))
        simp only [zboard, zup]; rw [if_neg (by omega), if_neg (by omega)]; exact hkh j hj
      · exact hp1'.congr (fun j _ _ => by simp only [e_up]; rw [if_neg (by omega), if_neg (by omega)])
      · simp only [e_up]; rw [if_neg (by omega), if_neg (by omega)]; exact hk1 _ (by omega)
      · simp only [e_up]; rw [if_neg (by omega), if_neg (by omega)]; exact hk1 _ (by omega)
  · simp only [q1] at hP
    simp only [e_cut, e_iload, e_aload, e_istore, e_astore, e_iinc, e_const, e_lconst, e_bin, e_bin0, e_un, e_ladd, e_dupi, e_dupr, e_dup2, e_pop, e_if, e_icmp, e_sw, e_sw0, e_sw1, e_get, e_put, e_ald, e_ast, e_aald, e_aast, e_copy, e_new, e_newa, e_anewa, e_min, e_abs, e_oinit, e_callI, e_callV, e_callS, e_iret, e_zret, e_lret, e_vret, e_tl1, e_tl0, e_tl2, e_tl3, z10, Bool.false_eq_true, e_argi, e_argr, e_argn, zld_c, zst_n, zst_c, zpick_n, zpick_c, List.drop_succ_cons, List.drop_zero, List.take_succ_cons, List.take_zero, List.length_cons, List.length_nil, List.reverse_cons, List.reverse_nil, List.nil_append, List.cons_append, List.append_nil, List.getElem?_cons_zero, List.getElem?_cons_succ, List.set_cons_zero, List.set_cons_succ, Nat.add_sub_cancel_left, Nat.sub_self, Nat.add_zero, Nat.zero_add, Nat.le_add_right, Nat.le_refl, true_and, and_true, va_rf, zok, Nat.add_left_cancel_iff, Nat.add_eq_left, Nat.left_eq_add, eq_self, if_true, if_false, not_false_eq_true, not_true_eq_false, false_implies, true_implies, Nat.reduceEqDiff, Nat.reduceAdd, Nat.reduceLT, Nat.reduceLeDiff, reduceIte, q1]
    exact hP E hbc (fun _ _ => rfl)
set_option maxRecDepth 20000 in
theorem f_X5_boards_29 : Cond.fieldLink RX5 29 (TX5 3).1 (TX5 3).2.1 (TX5 3).2.2.1 ∈ wsX5_boards := by decide +kernel
set_option maxRecDepth 20000 in
theorem k_X5_boards_5 : ∀ w ∈ u_ws RX5 TX5 11, w ∈ wsX5_boards := fun _ h => List.mem_cons_of_mem _ (List.mem_append_left _ (List.mem_append_left _ (List.mem_append_left _ (List.mem_append_left _ (List.mem_append_right _ h)))))
set_option maxRecDepth 20000 in
theorem f_X5_boards_76 : Cond.fieldLink RX5 76 (TX0 0).1 (TX0 0).2.1 (TX0 0).2.2.1 ∈ wsX5_boards := by decide +kernel
set_option maxRecDepth 20000 in
theorem k_X5_boards_0 : ∀ w ∈ u_ws RX0 TX0 2, w ∈ wsX5_boards := fun _ h => List.mem_cons_of_mem _ (List.mem_append_left _ (List.mem_append_left _ (List.mem_append_left _ (List.mem_append_right _ h))))
set_option maxRecDepth 20000 in
theorem f_X5_boards_119 : Cond.fieldLink RX5 119 (TX0 1).1 (TX0 1).2.1 (TX0 1).2.2.1 ∈ wsX5_boards := by decide +kernel
set_option maxRecDepth 20000 in
theorem f_X5_boards_98 : Cond.fieldLink RX5 98 (TX1 1).1 (TX1 1).2.1 (TX1 1).2.2.1 ∈ wsX5_boards := by decide +kernel
set_option maxRecDepth 20000 in
theorem k_X5_boards_1 : ∀ w ∈ u_ws RX1 TX1 7, w ∈ wsX5_boards := fun _ h => List.mem_cons_of_mem _ (List.mem_append_left _ (List.mem_append_left _ (List.mem_append_right _ h)))
set_option maxRecDepth 20000 in
theorem f_X5_boards_91 : Cond.fieldLink RX5 91 (TX1 5).1 (TX1 5).2.1 (TX1 5).2.2.1 ∈ wsX5_boards := by decide +kernel
set_option maxRecDepth 100000 in
set_option maxHeartbeats 4000000 in
theorem S_X5_boards_0 {p : Program} {e : Env} {s : State} {m : MethodId} {args : Array Value} {below : List Frame} {meth : Method} {c : Code} {D : va_G} {cy : zY} {b n0 : Nat} {P : zPo} (la : Launch) (X : zX p la e (rm_X5_boards) s m args below meth c 3 D cy b n0 cX5_boards wsX5_boards RX5) (hr : meth.sig.returnType = (some .int)) (h_J6_bitCount_0f7a4 : zMet la yJ6_bitCount_0f7a4 wsJ6_bitCount_0f7a4 rm_J6_bitCount_0f7a4 0 0 sp_J6_bitCount_0f7a4) (h_X1_isAboard : zMet la yX1_isAboard wsX1_isAboard rm_X1_isAboard 0 0 sp_X1_isAboard) (h_X2_push : zMet la yX2_push wsX2_push rm_X2_push 0 0 sp_X2_push) (h_X5_isRider : zMet la yX5_isRider wsX5_isRider rm_X5_isRider 0 0 sp_X5_isRider) : zS p la e (rm_X5_boards) s m args below meth c (MQ below (zQ D b (n0 + 0) P) args s 0 0 (fun q => b ≤ q)) 3 D b n0 0 (B_X5_boards_0 b n0 cy P (zAt p la e (rm_X5_boards) s m args below meth c (MQ below (zQ D b (n0 + 0) P) args s 0 0 (fun q => b ≤ q)) 3 D b n0)) := by
  unfold B_X5_boards_0
  exact (s_aload_n X dX5_boards_0 rfl (s_get X dX5_boards_1 rfl k_X5_boards_5 (by decide) f_X5_boards_29 (s_get X dX5_boards_4 rfl k_X5_boards_0 (by decide) f_X5_boards_76 (s_astore_n X dX5_boards_7 rfl (by decide) (s_aload_n X dX5_boards_8 rfl (s_iload_n X dX5_boards_9 rfl (s_callV X h_X5_isRider dX5_boards_10 rfl gX5_boards_X5_isRider rfl rfl rfl (by decide +kernel) ⟨by decide, by decide⟩ (s_if_ne X dX5_boards_13 (by decide) (s_aload_n X dX5_boards_18 rfl (s_iload_n X dX5_boards_19 rfl (s_callV X h_X1_isAboard dX5_boards_20 rfl gX5_boards_X1_isAboard rfl rfl rfl (by decide +kernel) ⟨by decide, by decide⟩ (s_if_eq X dX5_boards_23 (by decide) (s_aload_n X dX5_boards_29 rfl (s_get X dX5_boards_30 rfl k_X5_boards_5 (by decide) f_X5_boards_29 (s_get X dX5_boards_33 rfl k_X5_boards_0 (by decide) f_X5_boards_119 (s_aload_n X dX5_boards_36 rfl (s_callV X h_X2_push dX5_boards_37 rfl gX5_boards_X2_push rfl rfl rfl (by decide +kernel) ⟨by decide, by decide⟩ (s_aload_n X dX5_boards_40 rfl (s_dup X dX5_boards_41 (s_get X dX5_boards_42 rfl k_X5_boards_1 (by decide) f_X5_boards_98 (s_iconst X dX5_boards_45 (by decide) (s_iload_n X dX5_boards_46 rfl (s_ishl X dX5_boards_47 (s_ior X dX5_boards_48 (s_put X dX5_boards_49 rfl k_X5_boards_1 tyX1_ok nmX1 (by decide) f_X5_boards_98 rfl (tyX1_ok 1 (by decide)) zok_int (s_aload_n X dX5_boards_52 rfl (s_get X dX5_boards_53 rfl k_X5_boards_1 (by decide) f_X5_boards_91 (s_iload_n X dX5_boards_56 rfl (s_bipush X dX5_boards_57 (by decide) (s_iast X dX5_boards_59 (s_aload_n X dX5_boards_60 rfl (s_get X dX5_boards_61 rfl k_X5_boards_1 (by decide) f_X5_boards_98 (s_callS X h_J6_bitCount_0f7a4 dX5_boards_64 gX5_boards_J6_bitCount_0f7a4 rfl rfl rfl (by decide +kernel) ⟨by decide, by decide⟩ (s_iret X dX5_boards_67 hr)))))))))))))))))))))) (s_bipush X dX5_boards_26 (by decide) (s_iret X dX5_boards_28 hr)))))) (s_iconst X dX5_boards_16 (by decide) (s_iret X dX5_boards_17 hr))))))))))
theorem w_X5_boards (la : Launch) (h_J6_bitCount_0f7a4 : zMet la yJ6_bitCount_0f7a4 wsJ6_bitCount_0f7a4 rm_J6_bitCount_0f7a4 0 0 sp_J6_bitCount_0f7a4) (h_X1_isAboard : zMet la yX1_isAboard wsX1_isAboard rm_X1_isAboard 0 0 sp_X1_isAboard) (h_X2_push : zMet la yX2_push wsX2_push rm_X2_push 0 0 sp_X2_push) (h_X5_isRider : zMet la yX5_isRider wsX5_isRider rm_X5_isRider 0 0 sp_X5_isRider) (sp : zSp) (vc : zVC_X5_boards sp) : zMet la yX5_boards wsX5_boards (rm_X5_boards) 0 0 sp :=
  z_of (cc := cX5_boards) (maxL := 3) (ret := (some .int)) (by decide +kernel) rfl (fun p e s m args below meth c D cy b n as E P hsp X hr hin => by
    obtain ⟨h1, h2⟩ := vc b cy n as E P (zAt p la e (rm_X5_boards) s m args below meth c (MQ below (zQ D b (n + 0) P) args s 0 0 (fun q => b ≤ q)) 3 D b n) hsp
    exact ⟨h1, S_X5_boards_0 la X hr h_J6_bitCount_0f7a4 h_X1_isAboard h_X2_push h_X5_isRider _ _ _ _ _ h2⟩)

theorem m_X5_boards (la : Launch) : zMet la yX5_boards wsX5_boards rm_X5_boards 0 0 sp_X5_boards := w_X5_boards la (m_J6_bitCount_0f7a4 la) (m_X1_isAboard la) (m_X2_push la) (m_X5_isRider la) _ vc_X5_boards
def sp_X5_undo : zSp := fun b cy as N E P => zPX op_undo [] b cy as N E P
abbrev rm_X5_undo : Room := { frames := 3, cells := 0, slots := 0, locals := 82 }
def B_X5_undo_0 (b n0 : Nat) (cy : zY) (P : zPo) (A : Nat → zC) : zC :=
  z_aload 0 (z_get b n0 5 3 (z_get b n0 0 1 (z_get b n0 2 0 (z_if (fun x => x = 0) (z_const (-2) (z_iret 0 0 P)) (z_aload 0 (z_get b n0 5 3 (z_get b n0 0 1 (z_aload 0 (z_get b n0 5 3 (z_get b n0 0 0 (z_callV b n0 0 0 cy 2 1 0 0 sp_X2_popInto (z_aload 0 (z_get b n0 5 3 (z_get b n0 0 1 (z_get b n0 2 0 (z_iret 0 0 P))))))))))))))))
def zVC_X5_undo (sp : zSp) : Prop := ∀ (b : Nat) (cy : zY) (n : Nat) (as : List Value) (E : zE) (P : zPo) (A : Nat → zC), sp b cy as n E P → zgood as 1 ∧ B_X5_undo_0 b n cy P A (lv_args 0 as) [] 0 0 E

set_option maxRecDepth 100000 in
set_option maxHeartbeats 4000000 in
theorem vc_X5_undo : zVC_X5_undo sp_X5_undo := by
  intro b cy N as E P A hsp
  obtain ⟨K, ⟨T, D, ⟨c, many, past⟩, I, S, tr⟩, rfl, hbc, hok, hK, hN, hP⟩ := hsp
  refine ⟨⟨Nat.le_of_ble_eq_true rfl, zg1 rfl (zg0)⟩, ?_⟩
  obtain ⟨C, hCe⟩ : ∃ C : zCar, C = (c, many, past) := ⟨_, rfl⟩
  rw [← hCe] at hbc hok
  obtain ⟨e0, hTx, ⟨seat, items, hTo⟩, hDr, hIm, hIs, hAh, hSn, hI0, hI1⟩ := id hbc
  have hp2 := hbc.p2 hok hN
  obtain ⟨hp1, e11⟩ := id hp2
  obtain ⟨hR, hmo, hmk, hi12, _⟩ := id hp1
  obtain ⟨hn1, mf, mg, mh, m0, m1, m2, m3, hmf, hmg, hmh⟩ := id hmo
  obtain ⟨_, tf, tg, th, t0, t1, t2, t3, htf, htg, hth⟩ := id hTo
  replace m1 : E 13 = _ := m1
  replace m2 : E 14 = _ := m2
  replace m3 : E 15 = _ := m3
  replace t1 : E 4 = _ := t1
  replace t2 : E 5 = _ := t2
  replace t3 : E 6 = _ := t3
  have hpa : zPa b cy E 16 D.1 C.2.1 C.2.2 := hIm.2.2
  have hlo := hok.2.1
  have N0 : 0 < N := by omega
  have N1 : 1 < N := by omega
  have N2 : 2 < N := by omega
  have N3 : 3 < N := by omega
  have N4 : 4 < N := by omega
  have N5 : 5 < N := by omega
  have N6 : 6 < N := by omega
  have N7 : 7 < N := by omega
  have N11 : 11 < N := by omega
  have N12 : 12 < N := by omega
  have N13 : 13 < N := by omega
  have N14 : 14 < N := by omega
  have N15 : 15 < N := by omega
  have N16 : 16 < N := by omega
  have N58 : 58 < N := by omega
  have N59 : 59 < N := by omega
  have N63 : 63 < N := by omega
  have N64 : 64 < N := by omega
  have N65 : 65 < N := by omega
  have N112 : 112 < N := by omega
  simp only [op_undo] at hP
  obtain ⟨hm10, old, pf, ho, p0, p1, _⟩ := id hpa
  subst hCe
  replace hm10 : many ≤ 10 := hm10
  simp only [B_X5_undo_0, e_cut, e_iload, e_aload, e_istore, e_astore, e_iinc, e_const, e_lconst, e_bin, e_bin0, e_un, e_ladd, e_dupi, e_dupr, e_dup2, e_pop, e_if, e_icmp, e_sw, e_sw0, e_sw1, e_get, e_put, e_ald, e_ast, e_aald, e_aast, e_copy, e_new, e_newa, e_anewa, e_min, e_abs, e_oinit, e_callI, e_callV, e_callS, e_iret, e_zret, e_lret, e_vret, e_tl1, e_tl0, e_tl2, e_tl3, z10, Bool.false_eq_true, e_argi, e_argr, e_argn, zld_c, zst_n, zst_c, zpick_n, zpick_c, List.drop_succ_cons, List.drop_zero, List.take_succ_cons, List.take_zero, List.length_cons, List.length_nil, List.reverse_cons, List.reverse_nil, List.nil_append, List.cons_append, List.append_nil, List.getElem?_cons_zero, List.getElem?_cons_succ, List.set_cons_zero, List.set_cons_succ, Nat.add_sub_cancel_left, Nat.sub_self, Nat.add_zero, Nat.zero_add, Nat.le_add_right, Nat.le_refl, true_and, and_true, va_rf, zok, Nat.add_left_cancel_iff, Nat.add_eq_left, Nat.left_eq_add, eq_self, if_true, if_false, not_false_eq_true, not_true_eq_false, false_implies, true_implies, Nat.reduceEqDiff, Nat.reduceAdd, Nat.reduceLT, Nat.reduceLeDiff, reduceIte, zB0, e0, N0, N1, N2, N3, N4, N5, N6, N7, N11, N12, N13, N14, N15, N16, N58, N59, N63, N64, N65, N112, e11, p0]
  cases many with
  | zero =>
    have z0 : (nI 0 = 0) := rfl
    refine ⟨fun _ => ?_, fun w => absurd z0 w⟩
    exact hP E hbc (fun _ _ => rfl)
  | succ many =>
    refine ⟨fun w => absurd w (nI_ne0 (by omega) (by omega)), fun _ => ?_⟩
    simp only [Nat.succ_ne_zero, if_false, Nat.add_sub_cancel] at hP
    refine ⟨16, 12, _, many, past, rfl, hpa, hmo.sh, by omega, by omega, by omega, fun E1 hpa1 hm1 hk1 => ?_⟩
    have f0 : E1 0 = zB0 b (nI (zkm I)) (nI S.1) tr := by rw [hk1 _ (by omega) (by omega)]; exact e0
    have f11 : E1 11 = .inr (0, [.ref (b + 12), .ref (b + 16)]) := by rw [hk1 _ (by omega) (by omega)]; exact e11
    obtain ⟨_, old1, pf1, ho1, g0, g1, _⟩ := id hpa1
    simp only [e_cut, e_iload, e_aload, e_istore, e_astore, e_iinc, e_const, e_lconst, e_bin, e_bin0, e_un, e_ladd, e_dupi, e_dupr, e_dup2, e_pop, e_if, e_icmp, e_sw, e_sw0, e_sw1, e_get, e_put, e_ald, e_ast, e_aald, e_aast, e_copy, e_new, e_newa, e_anewa, e_min, e_abs, e_oinit, e_callI, e_callV, e_callS, e_iret, e_zret, e_lret, e_vret, e_tl1, e_tl0, e_tl2, e_tl3, z10, Bool.false_eq_true, e_argi, e_argr, e_argn, zld_c, zst_n, zst_c, zpick_n, zpick_c, List.drop_succ_cons, List.drop_zero, List.take_succ_cons, List.take_zero, List.length_cons, List.length_nil, List.reverse_cons, List.reverse_nil, List.nil_append, List.cons_append, List.append_nil, List.getElem?_cons_zero, List.getElem?_cons_succ, List.set_cons_zero, List.set_cons_succ, Nat.add_sub_cancel_left, Nat.sub_self, Nat.add_zero, Nat.zero_add, Nat.le_add_right, Nat.le_refl, true_and, and_true, va_rf, zok, Nat.add_left_cancel_iff, Nat.add_eq_left, Nat.left_eq_add, eq_self, if_true, if_false, not_false_eq_true, not_true_eq_false, false_implies, true_implies, Nat.reduceEqDiff, Nat.reduceAdd, Nat.reduceLT, Nat.reduceLeDiff, reduceIte, zB0, f0, N0, N1, N2, N3, N4, N5, N6, N7, N11, N12, N13, N14, N15, N16, N58, N59, N63, N64, N65, N112, f11, g0]
    exact hP E1 (hbc.cur (C' := (past many, many, past)) ⟨f11, hm1, hpa1⟩ (fun j hj => hk1 j (by omega) (by omega))) (fun j hj => hk1 j (by omega) (by omega))
set_option maxRecDepth 20000 in
theorem f_X5_undo_29 : Cond.fieldLink RX5 29 (TX5 3).1 (TX5 3).2.1 (TX5 3).2.2.1 ∈ wsX5_undo := by decide +kernel
set_option maxRecDepth 20000 in
theorem k_X5_undo_5 : ∀ w ∈ u_ws RX5 TX5 11, w ∈ wsX5_undo := fun _ h => List.mem_cons_of_mem _ (List.mem_append_left _ (List.mem_append_left _ (List.mem_append_left _ (List.mem_append_right _ h))))
set_option maxRecDepth 20000 in
theorem f_X5_undo_119 : Cond.fieldLink RX5 119 (TX0 1).1 (TX0 1).2.1 (TX0 1).2.2.1 ∈ wsX5_undo := by decide +kernel
set_option maxRecDepth 20000 in
theorem k_X5_undo_0 : ∀ w ∈ u_ws RX0 TX0 2, w ∈ wsX5_undo := fun _ h => List.mem_cons_of_mem _ (List.mem_append_left _ (List.mem_append_left _ (List.mem_append_right _ h)))
set_option maxRecDepth 20000 in
theorem f_X5_undo_148 : Cond.fieldLink RX5 148 (TX2 0).1 (TX2 0).2.1 (TX2 0).2.2.1 ∈ wsX5_undo := by decide +kernel
set_option maxRecDepth 20000 in
theorem k_X5_undo_2 : ∀ w ∈ u_ws RX2 TX2 3, w ∈ wsX5_undo := fun _ h => List.mem_cons_of_mem _ (List.mem_append_left _ (List.mem_append_right _ h))
set_option maxRecDepth 20000 in
theorem f_X5_undo_76 : Cond.fieldLink RX5 76 (TX0 0).1 (TX0 0).2.1 (TX0 0).2.2.1 ∈ wsX5_undo := by decide +kernel
set_option maxRecDepth 100000 in
set_option maxHeartbeats 4000000 in
theorem S_X5_undo_0 {p : Program} {e : Env} {s : State} {m : MethodId} {args : Array Value} {below : List Frame} {meth : Method} {c : Code} {D : va_G} {cy : zY} {b n0 : Nat} {P : zPo} (la : Launch) (X : zX p la e (rm_X5_undo) s m args below meth c 1 D cy b n0 cX5_undo wsX5_undo RX5) (hr : meth.sig.returnType = (some .int)) (h_X2_popInto : zMet la yX2_popInto wsX2_popInto rm_X2_popInto 0 0 sp_X2_popInto) : zS p la e (rm_X5_undo) s m args below meth c (MQ below (zQ D b (n0 + 0) P) args s 0 0 (fun q => b ≤ q)) 1 D b n0 0 (B_X5_undo_0 b n0 cy P (zAt p la e (rm_X5_undo) s m args below meth c (MQ below (zQ D b (n0 + 0) P) args s 0 0 (fun q => b ≤ q)) 1 D b n0)) := by
  unfold B_X5_undo_0
  exact (s_aload_n X dX5_undo_0 rfl (s_get X dX5_undo_1 rfl k_X5_undo_5 (by decide) f_X5_undo_29 (s_get X dX5_undo_4 rfl k_X5_undo_0 (by decide) f_X5_undo_119 (s_get X dX5_undo_7 rfl k_X5_undo_2 (by decide) f_X5_undo_148 (s_if_ne X dX5_undo_10 (by decide) (s_aload_n X dX5_undo_16 rfl (s_get X dX5_undo_17 rfl k_X5_undo_5 (by decide) f_X5_undo_29 (s_get X dX5_undo_20 rfl k_X5_undo_0 (by decide) f_X5_undo_119 (s_aload_n X dX5_undo_23 rfl (s_get X dX5_undo_24 rfl k_X5_undo_5 (by decide) f_X5_undo_29 (s_get X dX5_undo_27 rfl k_X5_undo_0 (by decide) f_X5_undo_76 (s_callV X h_X2_popInto dX5_undo_30 rfl gX5_undo_X2_popInto rfl rfl rfl (by decide +kernel) ⟨by decide, by decide⟩ (s_aload_n X dX5_undo_33 rfl (s_get X dX5_undo_34 rfl k_X5_undo_5 (by decide) f_X5_undo_29 (s_get X dX5_undo_37 rfl k_X5_undo_0 (by decide) f_X5_undo_119 (s_get X dX5_undo_40 rfl k_X5_undo_2 (by decide) f_X5_undo_148 (s_iret X dX5_undo_43 hr)))))))))))) (s_bipush X dX5_undo_13 (by decide) (s_iret X dX5_undo_15 hr)))))))
theorem w_X5_undo (la : Launch) (h_X2_popInto : zMet la yX2_popInto wsX2_popInto rm_X2_popInto 0 0 sp_X2_popInto) (sp : zSp) (vc : zVC_X5_undo sp) : zMet la yX5_undo wsX5_undo (rm_X5_undo) 0 0 sp :=
  z_of (cc := cX5_undo) (maxL := 1) (ret := (some .int)) (by decide +kernel) rfl (fun p e s m args below meth c D cy b n as E P hsp X hr hin => by
    obtain ⟨h1, h2⟩ := vc b cy n as E P (zAt p la e (rm_X5_undo) s m args below meth c (MQ below (zQ D b (n + 0) P) args s 0 0 (fun q => b ≤ q)) 1 D b n) hsp
    exact ⟨h1, S_X5_undo_0 la X hr h_X2_popInto _ _ _ _ _ h2⟩)

theorem m_X5_undo (la : Launch) : zMet la yX5_undo wsX5_undo rm_X5_undo 0 0 sp_X5_undo := w_X5_undo la (m_X2_popInto la) _ vc_X5_undo

