def sp_X5_latest : zSp := fun b cy as N E P => ∃ x y : Int32, zPX (op_latest x y) [.int x, .int y] b cy as N E P
abbrev rm_X5_latest : Room := { frames := 3, cells := 0, slots := 0, locals := 83 }
def B_X5_latest_25 (b n0 : Nat) (cy : zY) (P : zPo) (A : Nat → zC) : zC :=
  z_iret 0 0 P
def B_X5_latest_0 (b n0 : Nat) (cy : zY) (P : zPo) (A : Nat → zC) : zC :=
  z_aload 0 (z_iload 1 (z_iload 2 (z_callV b n0 0 0 cy 5 2 0 0 sp_X5_isPair (z_if (fun x => x = 0) (z_const (-1) (B_X5_latest_25 b n0 cy P A)) (z_aload 0 (z_get b n0 5 3 (z_get b n0 0 0 (z_iload 1 (z_iload 2 (z_callV b n0 0 0 cy 1 2 0 0 sp_X1_thoughtOf (B_X5_latest_25 b n0 cy P A)))))))))))
def zVC_X5_latest (sp : zSp) : Prop := ∀ (b : Nat) (cy : zY) (n : Nat) (as : List Value) (E : zE) (P : zPo) (A : Nat → zC), sp b cy as n E P → zgood as 3 ∧ B_X5_latest_0 b n cy P A (lv_args 0 as) [] 0 0 E

set_option maxRecDepth 100000 in
set_option maxHeartbeats 4000000 in
theorem vc_X5_latest : zVC_X5_latest sp_X5_latest := by
  intro b cy N as E P A hsp
  obtain ⟨x, y, K, ⟨T, D, C, I, S, tr⟩, rfl, hbc, hok, hK, hN, hP⟩ := hsp
  refine ⟨⟨Nat.le_of_ble_eq_true rfl, zg1 rfl (zg1 rfl (zg1 rfl (zg0)))⟩, ?_⟩
  obtain ⟨e0, hTx, ⟨seat, items, hTo⟩, hDr, hIm, hIs, hAh, hSn, hI0, hI1⟩ := id hbc
  have hp2 := hbc.p2 hok hN
  obtain ⟨hp1, e11⟩ := id hp2
  obtain ⟨hR, hmo, hmk, hi12, _⟩ := id hp1
  obtain ⟨hn1, mf, mg, mh, m0, m1, m2, m3, hmf, hmg, hmh⟩ := id hmo
  obtain ⟨_, tf, tg, th, t0, t1, t2, t3, htf, htg, hth⟩ := id hTo
  replace m1 : E 13 = _ := m1
  replace m2 : E 14 = _ := m2
  replace m3 : E 15 = _ := m3
  replace t1 : E 4 = _ := t1
  replace t2 : E 5 = _ := t2
  replace t3 : E 6 = _ := t3
  have hpa : zPa b cy E 16 D.1 C.2.1 C.2.2 := hIm.2.2
  have hlo := hok.2.1
  have N0 : 0 < N := by omega
  have N1 : 1 < N := by omega
  have N2 : 2 < N := by omega
  have N3 : 3 < N := by omega
  have N4 : 4 < N := by omega
  have N5 : 5 < N := by omega
  have N6 : 6 < N := by omega
  have N7 : 7 < N := by omega
  have N11 : 11 < N := by omega
  have N12 : 12 < N := by omega
  have N13 : 13 < N := by omega
  have N14 : 14 < N := by omega
  have N15 : 15 < N := by omega
  have N16 : 16 < N := by omega
  have N58 : 58 < N := by omega
  have N59 : 59 < N := by omega
  have N63 : 63 < N := by omega
  have N64 : 64 < N := by omega
  have N65 : 65 < N := by omega
  have N112 : 112 < N := by omega
  replace hP := hP E hbc (fun _ _ => rfl)
  simp only [op_latest] at hP
  simp only [B_X5_latest_0, B_X5_latest_25, e_cut, e_iload, e_aload, e_istore, e_astore, e_iinc, e_const, e_lconst, e_bin, e_bin0, e_un, e_ladd, e_dupi, e_dupr, e_dup2, e_pop, e_if, e_icmp, e_sw, e_sw0, e_sw1, e_get, e_put, e_ald, e_ast, e_aald, e_aast, e_copy, e_new, e_newa, e_anewa, e_min, e_abs, e_oinit, e_callI, e_callV, e_callS, e_iret, e_zret, e_lret, e_vret, e_tl1, e_tl0, e_tl2, e_tl3, z10, Bool.false_eq_true, e_argi, e_argr, e_argn, zld_c, zst_n, zst_c, zpick_n, zpick_c, List.drop_succ_cons, List.drop_zero, List.take_succ_cons, List.take_zero, List.length_cons, List.length_nil, List.reverse_cons, List.reverse_nil, List.nil_append, List.cons_append, List.append_nil, List.getElem?_cons_zero, List.getElem?_cons_succ, List.set_cons_zero, List.set_cons_succ, Nat.add_sub_cancel_left, Nat.sub_self, Nat.add_zero, Nat.zero_add, Nat.le_add_right, Nat.le_refl, true_and, and_true, va_rf, zok, Nat.add_left_cancel_iff, Nat.add_eq_left, Nat.left_eq_add, eq_self, if_true, if_false, not_false_eq_true, not_true_eq_false, false_implies, true_implies, Nat.reduceEqDiff, Nat.reduceAdd, Nat.reduceLT, Nat.reduceLeDiff, reduceIte, zB0, e0, N0, N1, N2, N3, N4, N5, N6, N7, N11, N12, N13, N14, N15, N16, N58, N59, N63, N64, N65, N112]
  refine ⟨_, _, _, x, y, rfl, hR, hN, ?_⟩
  by_cases q1 : zisP D.1 x y = true
  · obtain ⟨r, q, hr, hq, hne, rfl, rfl⟩ := zisP_t q1 hn1
    simp only [q1, if_true, zcl_i (show r < 2 ^ 31 by omega), zcl_i (show q < 2 ^ 31 by omega)] at hP
    simp only [e_cut, e_iload, e_aload, e_istore, e_astore, e_iinc, e_const, e_lconst, e_bin, e_bin0, e_un, e_ladd, e_dupi, e_dupr, e_dup2, e_pop, e_if, e_icmp, e_sw, e_sw0, e_sw1, e_get, e_put, e_ald, e_ast, e_aald, e_aast, e_copy, e_new, e_newa, e_anewa, e_min, e_abs, e_oinit, e_callI, e_callV, e_callS, e_iret, e_zret, e_lret, e_vret, e_tl1, e_tl0, e_tl2, e_tl3, z10, Bool.false_eq_true, e_argi, e_argr, e_argn, zld_c, zst_n, zst_c, zpick_n, zpick_c, List.drop_succ_cons, List.drop_zero, List.take_succ_cons, List.take_zero, List.length_cons, List.length_nil, List.reverse_cons, List.reverse_nil, List.nil_append, List.cons_append, List.append_nil, List.getElem?_cons_zero, List.getElem?_cons_succ, List.set_cons_zero, List.set_cons_succ, Nat.add_sub_cancel_left, Nat.sub_self, Nat.add_zero, Nat.zero_add, Nat.le_add_right, Nat.le_refl, true_and, and_true, va_rf, zok, Nat.add_left_cancel_iff, Nat.add_eq_left, Nat.left_eq_add, eq_self, if_true, if_false, not_false_eq_true, not_true_eq_false, false_implies, true_implies, Nat.reduceEqDiff, Nat.reduceAdd, Nat.reduceLT, Nat.reduceLeDiff, reduceIte, q1, zB0, e0, N0, N1, N2, N3, N4, N5, N6, N7, N11, N12, N13, N14, N15, N16, N58, N59, N63, N64, N65, N112, e11, m0]
    refine ⟨12, r, q, _, _, rfl, hmo, by omega, by omega, by omega, ?_⟩
    simp only [e_cut, e_iload, e_aload, e_istore, e_astore, e_iinc, e_const, e_lconst, e_bin, e_bin0, e_un, e_ladd, e_dupi, e_dupr, e_dup2, e_pop, e_if, e_icmp, e_sw, e_sw0, e_sw1, e_get, e_put, e_ald, e_ast, e_aald, e_aast, e_copy, e_new, e_newa, e_anewa, e_min, e_abs, e_oinit, e_callI, e_callV, e_callS, e_iret, e_zret, e_lret, e_vret, e_tl1, e_tl0, e_tl2, e_tl3, z10, Bool.false_eq_true, e_argi, e_argr, e_argn, zld_c, zst_n, zst_c, zpick_n, zpick_c, List.drop_succ_cons, List.drop_zero, List.take_succ_cons, List.take_zero, List.length_cons, List.length_nil, List.reverse_cons, List.reverse_nil, List.nil_append, List.cons_append, List.append_nil, List.getElem?_cons_zero, List.getElem?_cons_succ, List.set_cons_zero, List.set_cons_succ, Nat.add_sub_cancel_left, Nat.sub_self, Nat.add_zero, Nat.zero_add, Nat.le_add_right, Nat.le_refl, true_and, and_true, va_rf, zok, Nat.add_left_cancel_iff, Nat.add_eq_left, Nat.left_eq_add, eq_self, if_true, if_false, not_false_eq_true, not_true_eq_false, false_implies, true_implies, Nat.reduceEqDiff, Nat.reduceAdd, Nat.reduceLT, Nat.reduceLeDiff, reduceIte, B_X5_latest_0, B_X5_latest_25]
    exact hP
  · simp only [q1] at hP
    simp only [e_cut, e_iload, e_aload, e_istore, e_astore, e_iinc, e_const, e_lconst, e_bin, e_bin0, e_un, e_ladd, e_dupi, e_dupr, e_dup2, e_pop, e_if, e_icmp, e_sw, e_sw0, e_sw1, e_get, e_put, e_ald, e_ast, e_aald, e_aast, e_copy, e_new, e_newa, e_anewa, e_min, e_abs, e_oinit, e_callI, e_callV, e_callS, e_iret, e_zret, e_lret, e_vret, e_tl1, e_tl0, e_tl2, e_tl3, z10, Bool.false_eq_true, e_argi, e_argr, e_argn, zld_c, zst_n, zst_c, zpick_n, zpick_c, List.drop_succ_cons, List.drop_zero, List.take_succ_cons, List.take_zero, List.length_cons, List.length_nil, List.reverse_cons, List.reverse_nil, List.nil_append, List.cons_append, List.append_nil, List.getElem?_cons_zero, List.getElem?_cons_succ, List.set_cons_zero, List.set_cons_succ, Nat.add_sub_cancel_left, Nat.sub_self, Nat.add_zero, Nat.zero_add, Nat.le_add_right, Nat.le_refl, true_and, and_true, va_rf, zok, Nat.add_left_cancel_iff, Nat.add_eq_left, Nat.left_eq_add, eq_self, if_true, if_false, not_false_eq_true, not_true_eq_false, false_implies, true_implies, Nat.reduceEqDiff, Nat.reduceAdd, Nat.reduceLT, Nat.reduceLeDiff, reduceIte, q1, B_X5_latest_0, B_X5_latest_25]
    exact hP
set_option maxRecDepth 20000 in
theorem f_X5_latest_29 : Cond.fieldLink RX5 29 (TX5 3).1 (TX5 3).2.1 (TX5 3).2.2.1 ∈ wsX5_latest := by decide +kernel
set_option maxRecDepth 20000 in
theorem k_X5_latest_5 : ∀ w ∈ u_ws RX5 TX5 11, w ∈ wsX5_latest := fun _ h => List.mem_cons_of_mem _ (List.mem_append_left _ (List.mem_append_left _ (List.mem_append_left _ (List.mem_append_right _ h))))
set_option maxRecDepth 20000 in
theorem f_X5_latest_76 : Cond.fieldLink RX5 76 (TX0 0).1 (TX0 0).2.1 (TX0 0).2.2.1 ∈ wsX5_latest := by decide +kernel
set_option maxRecDepth 20000 in
theorem k_X5_latest_0 : ∀ w ∈ u_ws RX0 TX0 2, w ∈ wsX5_latest := fun _ h => List.mem_cons_of_mem _ (List.mem_append_left _ (List.mem_append_left _ (List.mem_append_right _ h)))
set_option maxRecDepth 100000 in
set_option maxHeartbeats 4000000 in
theorem S_X5_latest_25 {p : Program} {e : Env} {s : State} {m : MethodId} {args : Array Value} {below : List Frame} {meth : Method} {c : Code} {D : va_G} {cy : zY} {b n0 : Nat} {P : zPo} (la : Launch) (X : zX p la e (rm_X5_latest) s m args below meth c 3 D cy b n0 cX5_latest wsX5_latest RX5) (hr : meth.sig.returnType = (some .int)) (h_X1_thoughtOf : zMet la yX1_thoughtOf wsX1_thoughtOf rm_X1_thoughtOf 0 0 sp_X1_thoughtOf) (h_X5_isPair : zMet la yX5_isPair wsX5_isPair rm_X5_isPair 0 0 sp_X5_isPair) : zS p la e (rm_X5_latest) s m args below meth c (MQ below (zQ D b (n0 + 0) P) args s 0 0 (fun q => b ≤ q)) 3 D b n0 25 (B_X5_latest_25 b n0 cy P (zAt p la e (rm_X5_latest) s m args below meth c (MQ below (zQ D b (n0 + 0) P) args s 0 0 (fun q => b ≤ q)) 3 D b n0)) := by
  unfold B_X5_latest_25
  exact (s_iret X dX5_latest_25 hr)
set_option maxRecDepth 100000 in
set_option maxHeartbeats 4000000 in
theorem S_X5_latest_0 {p : Program} {e : Env} {s : State} {m : MethodId} {args : Array Value} {below : List Frame} {meth : Method} {c : Code} {D : va_G} {cy : zY} {b n0 : Nat} {P : zPo} (la : Launch) (X : zX p la e (rm_X5_latest) s m args below meth c 3 D cy b n0 cX5_latest wsX5_latest RX5) (hr : meth.sig.returnType = (some .int)) (h_X1_thoughtOf : zMet la yX1_thoughtOf wsX1_thoughtOf rm_X1_thoughtOf 0 0 sp_X1_thoughtOf) (h_X5_isPair : zMet la yX5_isPair wsX5_isPair rm_X5_isPair 0 0 sp_X5_isPair) : zS p la e (rm_X5_latest) s m args below meth c (MQ below (zQ D b (n0 + 0) P) args s 0 0 (fun q => b ≤ q)) 3 D b n0 0 (B_X5_latest_0 b n0 cy P (zAt p la e (rm_X5_latest) s m args below meth c (MQ below (zQ D b (n0 + 0) P) args s 0 0 (fun q => b ≤ q)) 3 D b n0)) := by
  unfold B_X5_latest_0
  exact (s_aload_n X dX5_latest_0 rfl (s_iload_n X dX5_latest_1 rfl (s_iload_n X dX5_latest_2 rfl (s_callV X h_X5_isPair dX5_latest_3 rfl gX5_latest_X5_isPair rfl rfl rfl (by decide +kernel) ⟨by decide, by decide⟩ (s_if_eq X dX5_latest_6 (by decide) (s_iconst X dX5_latest_24 (by decide) (S_X5_latest_25 la X hr h_X1_thoughtOf h_X5_isPair)) (s_aload_n X dX5_latest_9 rfl (s_get X dX5_latest_10 rfl k_X5_latest_5 (by decide) f_X5_latest_29 (s_get X dX5_latest_13 rfl k_X5_latest_0 (by decide) f_X5_latest_76 (s_iload_n X dX5_latest_16 rfl (s_iload_n X dX5_latest_17 rfl (s_callV X h_X1_thoughtOf dX5_latest_18 rfl gX5_latest_X1_thoughtOf rfl rfl rfl (by decide +kernel) ⟨by decide, by decide⟩ (s_goto X dX5_latest_21 (by decide) (S_X5_latest_25 la X hr h_X1_thoughtOf h_X5_isPair)))))))))))))
theorem w_X5_latest (la : Launch) (h_X1_thoughtOf : zMet la yX1_thoughtOf wsX1_thoughtOf rm_X1_thoughtOf 0 0 sp_X1_thoughtOf) (h_X5_isPair : zMet la yX5_isPair wsX5_isPair rm_X5_isPair 0 0 sp_X5_isPair) (sp : zSp) (vc : zVC_X5_latest sp) : zMet la yX5_latest wsX5_latest (rm_X5_latest) 0 0 sp :=
  z_of (cc := cX5_latest) (maxL := 3) (ret := (some .int)) (by decide +kernel) rfl (fun p e s m args below meth c D cy b n as E P hsp X hr hin => by
    obtain ⟨h1, h2⟩ := vc b cy n as E P (zAt p la e (rm_X5_latest) s m args below meth c (MQ below (zQ D b (n + 0) P) args s 0 0 (fun q => b ≤ q)) 3 D b n) hsp
    exact ⟨h1, S_X5_latest_0 la X hr h_X1_thoughtOf h_X5_isPair _ _ _ _ _ h2⟩)

theorem m_X5_latest (la : Launch) : zMet la yX5_latest wsX5_latest rm_X5_latest 0 0 sp_X5_latest := w_X5_latest la (m_X1_thoughtOf la) (m_X5_isPair la) _ vc_X5_latest
def sp_X5_rider : zSp := fun b cy as N E P => ∃ x w : Int32, zPX (op_rider x w) [.int x, .int w] b cy as N E P
abbrev rm_X5_rider : Room := { frames := 4, cells := 0, slots := 0, locals := 111 }
def B_X5_rider_169 (b n0 : Nat) (cy : zY) (P : zPo) (A : Nat → zC) : zC :=
  z_iret 0 0 P
def B_X5_rider_150 (b n0 : Nat) (cy : zY) (P : zPo) (A : Nat → zC) : zC :=
  z_iret 0 0 P
def B_X5_rider_104 (b n0 : Nat) (cy : zY) (P : zPo) (A : Nat → zC) : zC :=
  z_iret 0 0 P
def B_X5_rider_0 (b n0 : Nat) (cy : zY) (P : zPo) (A : Nat → zC) : zC :=
  z_aload 0 (z_iload 1 (z_callV b n0 0 0 cy 5 1 0 0 sp_X5_isRider (z_if (fun x => x = 0) (z_const (-1) (z_iret 0 0 P)) (z_aload 0 (z_get b n0 5 3 (z_get b n0 0 0 (z_astore 3 (z_iload 2 (z_switch [(0, (z_aload 3 (z_get b n0 1 4 (z_iload 1 (z_ald b n0 (cy 1) (z_iret 0 0 P)))))), (1, (z_aload 0 (z_get b n0 5 1 (z_get b n0 4 4 (z_iload 1 (z_ald b n0 (cy 1) (z_iret 0 0 P))))))), (2, (z_aload 0 (z_get b n0 5 1 (z_get b n0 4 5 (z_iload 1 (z_ald b n0 (cy 1) (z_iret 0 0 P))))))), (3, (z_aload 3 (z_iload 1 (z_callV b n0 0 0 cy 1 1 0 0 sp_X1_isAboard (z_if (fun x => x = 0) (z_const (0) (B_X5_rider_104 b n0 cy P A)) (z_const (1) (B_X5_rider_104 b n0 cy P A))))))), (4, (z_aload 3 (z_get b n0 1 5 (z_iload 1 (z_ald b n0 (cy 1) (z_iret 0 0 P)))))), (5, (z_aload 0 (z_aload 3 (z_iload 1 (z_aload 0 (z_get b n0 5 1 (z_get b n0 4 5 (z_iload 1 (z_ald b n0 (cy 1) (z_callV b n0 0 0 cy 5 3 0 0 sp_X5_whom (z_iret 0 0 P))))))))))), (6, (z_aload 3 (z_iload 1 (z_callV b n0 0 0 cy 1 1 0 0 sp_X1_isAboard (z_if (fun x => x = 0) (z_const (-9) (B_X5_rider_150 b n0 cy P A)) (z_aload 3 (z_aload 3 (z_get b n0 1 1 (z_iload 1 (z_callS b n0 0 0 cy 3 0 0 sp_X5_downByRing (B_X5_rider_150 b n0 cy P A))))))))))), (7, (z_aload 3 (z_iload 1 (z_callV b n0 0 0 cy 1 1 0 0 sp_X1_isAboard (z_if (fun x => x = 0) (z_const (-9) (B_X5_rider_169 b n0 cy P A)) (z_aload 3 (z_iload 1 (z_callS b n0 0 0 cy 2 0 0 sp_X5_downByDoubleRing (B_X5_rider_169 b n0 cy P A)))))))))] (z_const (-1) (z_iret 0 0 P)))))))))))
def zVC_X5_rider (sp : zSp) : Prop := ∀ (b : Nat) (cy : zY) (n : Nat) (as : List Value) (E : zE) (P : zPo) (A : Nat → zC), sp b cy as n E P → zgood as 4 ∧ B_X5_rider_0 b n cy P A (lv_args 0 as) [] 0 0 E

set_option maxRecDepth 100000 in
set_option maxHeartbeats 4000000 in
theorem vc_X5_rider : zVC_X5_rider sp_X5_rider := by
  intro b cy N as E P A hsp
  obtain ⟨x, w, K, ⟨T, D, C, I, S, tr⟩, rfl, hbc, hok, hK, hN, hP⟩ := hsp
  refine ⟨⟨Nat.le_of_ble_eq_true rfl, zg1 rfl (zg1 rfl (zg1 rfl (zg0)))⟩, ?_⟩
  obtain ⟨e0, hTx, ⟨seat, items, hTo⟩, hDr, hIm, hIs, hAh, hSn, hI0, hI1⟩ := id hbc
  have hp2 := hbc.p2 hok hN
  obtain ⟨hp1, e11⟩ := id hp2
  obtain ⟨hR, hmo, hmk, hi12, _⟩ := id hp1
  obtain ⟨hn1, mf, mg, mh, m0, m1, m2, m3, hmf, hmg, hmh⟩ := id hmo
  obtain ⟨_, tf, tg, th, t0, t1, t2, t3, htf, htg, hth⟩ := id hTo
  replace m1 : E 13 = _ := m1
  replace m2 : E 14 = _ := m2
  replace m3 : E 15 = _ := m3
  replace t1 : E 4 = _ := t1
  replace t2 : E 5 = _ := t2
  replace t3 : E 6 = _ := t3
  have hpa : zPa b cy E 16 D.1 C.2.1 C.2.2 := hIm.2.2
  have hlo := hok.2.1
  have N0 : 0 < N := by omega
  have N1 : 1 < N := by omega
  have N2 : 2 < N := by omega
  have N3 : 3 < N := by omega
  have N4 : 4 < N := by omega
  have N5 : 5 < N := by omega
  have N6 : 6 < N := by omega
  have N7 : 7 < N := by omega
  have N11 : 11 < N := by omega
  have N12 : 12 < N := by omega
  have N13 : 13 < N := by omega
  have N14 : 14 < N := by omega
  have N15 : 15 < N := by omega
  have N16 : 16 < N := by omega
  have N58 : 58 < N := by omega
  have N59 : 59 < N := by omega
  have N63 : 63 < N := by omega
  have N64 : 64 < N := by omega
  have N65 : 65 < N := by omega
  have N112 : 112 < N := by omega
  replace hP := hP E hbc (fun _ _ => rfl)
  simp only [op_rider] at hP
  simp only [B_X5_rider_0, B_X5_rider_104, B_X5_rider_150, B_X5_rider_169, e_cut, e_iload, e_aload, e_istore, e_astore, e_iinc, e_const, e_lconst, e_bin, e_bin0, e_un, e_ladd, e_dupi, e_dupr, e_dup2, e_pop, e_if, e_icmp, e_sw, e_sw0, e_sw1, e_get, e_put, e_ald, e_ast, e_aald, e_aast, e_copy, e_new, e_newa, e_anewa, e_min, e_abs, e_oinit, e_callI, e_callV, e_callS, e_iret, e_zret, e_lret, e_vret, e_tl1, e_tl0, e_tl2, e_tl3, z10, Bool.false_eq_true, e_argi, e_argr, e_argn, zld_c, zst_n, zst_c, zpick_n, zpick_c, List.drop_succ_cons, List.drop_zero, List.take_succ_cons, List.take_zero, List.length_cons, List.length_nil, List.reverse_cons, List.reverse_nil, List.nil_append, List.cons_append, List.append_nil, List.getElem?_cons_zero, List.getElem?_cons_succ, List.set_cons_zero, List.set_cons_succ, Nat.add_sub_cancel_left, Nat.sub_self, Nat.add_zero, Nat.zero_add, Nat.le_add_right, Nat.le_refl, true_and, and_true, va_rf, zok, Nat.add_left_cancel_iff, Nat.add_eq_left, Nat.left_eq_add, eq_self, if_true, if_false, not_false_eq_true, not_true_eq_false, false_implies, true_implies, Nat.reduceEqDiff, Nat.reduceAdd, Nat.reduceLT, Nat.reduceLeDiff, reduceIte, zB0, e0, N0, N1, N2, N3, N4, N5, N6, N7, N11, N12, N13, N14, N15, N16, N58, N59, N63, N64, N65, N112]
  refine ⟨_, _, _, x, rfl, hR, hN, ?_⟩
  by_cases q1 : zisB D.1 x = true
  · obtain ⟨r, hr, rfl⟩ := zisB_t q1 hn1
    have hin : vp_in (nI r) 6 := vp_in_nI (by omega) (by omega)
    have hcl : (nI r).toNatClampNeg = r := nI_clamp (by omega)
    have hr6 : r < 6 := by omega
    simp only [q1, if_true, zcl_i (show r < 2 ^ 31 by omega)] at hP
    simp only [e_cut, e_iload, e_aload, e_istore, e_astore, e_iinc, e_const, e_lconst, e_bin, e_bin0, e_un, e_ladd, e_dupi, e_dupr, e_dup2, e_pop, e_if, e_icmp, e_sw, e_sw0, e_sw1, e_get, e_put, e_ald, e_ast, e_aald, e_aast, e_copy, e_new, e_newa, e_anewa, e_min, e_abs, e_oinit, e_callI, e_callV, e_callS, e_iret, e_zret, e_lret, e_vret, e_tl1, e_tl0, e_tl2, e_tl3, z10, Bool.false_eq_true, e_argi, e_argr, e_argn, zld_c, zst_n, zst_c, zpick_n, zpick_c, List.drop_succ_cons, List.drop_zero, List.take_succ_cons, List.take_zero, List.length_cons, List.length_nil, List.reverse_cons, List.reverse_nil, List.nil_append, List.cons_append, List.append_nil, List.getElem?_cons_zero, List.getElem?_cons_succ, List.set_cons_zero, List.set_cons_succ, Nat.add_sub_cancel_left, Nat.sub_self, Nat.add_zero, Nat.zero_add, Nat.le_add_right, Nat.le_refl, true_and, and_true, va_rf, zok, Nat.add_left_cancel_iff, Nat.add_eq_left, Nat.left_eq_add, eq_self, if_true, if_false, not_false_eq_true, not_true_eq_false, false_implies, true_implies, Nat.reduceEqDiff, Nat.reduceAdd, Nat.reduceLT, Nat.reduceLeDiff, reduceIte, q1, zB0, e0, N0, N1, N2, N3, N4, N5, N6, N7, N11, N12, N13, N14, N15, N16, N58, N59, N63, N64, N65, N112, e11, m0, m1, m2, m3, t0, t1, t2, t3, hin, hcl, hmf r hr, hmg r hr6, htg r hr, hth r hr]
    refine ⟨fun c0 => ?_, fun c0 => ⟨fun c1 => ?_, fun c1 => ⟨fun c2 => ?_, fun c2 => ⟨fun c3 => ?_, fun c3 => ⟨fun c4 => ?_, fun c4 => ⟨fun c5 => ?_, fun c5 => ⟨fun c6 => ?_, fun c6 => ⟨fun c7 => ?_, fun c7 => ?_⟩⟩⟩⟩⟩⟩⟩⟩
    · rw [if_pos c0] at hP; exact hP
    · rw [if_neg c0, if_pos c1] at hP; exact hP
    · rw [if_neg c0, if_neg c1, if_pos c2] at hP; exact hP
    · rw [if_neg c0, if_neg c1, if_neg c2, if_pos c3] at hP
      refine ⟨12, r, _, _, rfl, hmo, hi12, hr6, hmk.l64, ?_⟩
      by_cases q2 : (C.1 1).testBit r = true
      · simp only [e_cut, e_iload, e_aload, e_istore, e_astore, e_iinc, e_const, e_lconst, e_bin, e_bin0, e_un, e_ladd, e_dupi, e_dupr, e_dup2, e_pop, e_if, e_icmp, e_sw, e_sw0, e_sw1, e_get, e_put, e_ald, e_ast, e_aald, e_aast, e_copy, e_new, e_newa, e_anewa, e_min, e_abs, e_oinit, e_callI, e_callV, e_callS, e_iret, e_zret, e_lret, e_vret, e_tl1, e_tl0, e_tl2, e_tl3, z10, Bool.false_eq_true, e_argi, e_argr, e_argn, zld_c, zst_n, zst_c, zpick_n, zpick_c, List.drop_succ_cons, List.drop_zero, List.take_succ_cons, List.take_zero, List.length_cons, List.length_nil, List.reverse_cons, List.reverse_nil, List.nil_append, List.cons_append, List.append_nil, List.getElem?_cons_zero, List.getElem?_cons_succ, List.set_cons_zero, List.set_cons_succ, Nat.add_sub_cancel_left, Nat.sub_self, Nat.add_zero, Nat.zero_add, Nat.le_add_right, Nat.le_refl, true_and, and_true, va_rf, zok, Nat.add_left_cancel_iff, Nat.add_eq_left, Nat.left_eq_add, eq_self, if_true, if_false, not_false_eq_true, not_true_eq_false, false_implies, true_implies, Nat.reduceEqDiff, Nat.reduceAdd, Nat.reduceLT, Nat.reduceLeDiff, reduceIte, q2, B_X5_rider_0, B_X5_rider_104, B_X5_rider_150, B_X5_rider_169] at hP ⊢; exact hP
      · simp only [e_cut, e_iload, e_aload, e_istore, e_astore, e_iinc, e_const, e_lconst, e_bin, e_bin0, e_un, e_ladd, e_dupi, e_dupr, e_dup2, e_pop, e_if, e_icmp, e_sw, e_sw0, e_sw1, e_get, e_put, e_ald, e_ast, e_aald, e_aast, e_copy, e_new, e_newa, e_anewa, e_min, e_abs, e_oinit, e_callI, e_callV, e_callS, e_iret, e_zret, e_lret, e_vret, e_tl1, e_tl0, e_tl2, e_tl3, z10, Bool.false_eq_true, e_argi, e_argr, e_argn, zld_c, zst_n, zst_c, zpick_n, zpick_c, List.drop_succ_cons, List.drop_zero, List.take_succ_cons, List.take_zero, List.length_cons, List.length_nil, List.reverse_cons, List.reverse_nil, List.nil_append, List.cons_append, List.append_nil, List.getElem?_cons_zero, List.getElem?_cons_succ, List.set_cons_zero, List.set_cons_succ, Nat.add_sub_cancel_left, Nat.sub_self, Nat.add_zero, Nat.zero_add, Nat.le_add_right, Nat.le_refl, true_and, and_true, va_rf, zok, Nat.add_left_cancel_iff, Nat.add_eq_left, Nat.left_eq_add, eq_self, if_true, if_false, not_false_eq_true, not_true_eq_false, false_implies, true_implies, Nat.reduceEqDiff, Nat.reduceAdd, Nat.reduceLT, Nat.reduceLeDiff, reduceIte, q2, B_X5_rider_0, B_X5_rider_104, B_X5_rider_150, B_X5_rider_169] at hP ⊢; exact hP
    · rw [if_neg c0, if_neg c1, if_neg c2, if_neg c3, if_pos c4] at hP; exact hP
    · rw [if_neg c0, if_neg c1, if_neg c2, if_neg c3, if_neg c4, if_pos c5] at hP
      exact ⟨_, _, _, 12, _, r, _, rfl, hp1, hr, (hlo r hr).2, by simp only [e_cut, e_iload, e_aload, e_istore, e_astore, e_iinc, e_const, e_lconst, e_bin, e_bin0, e_un, e_ladd, e_dupi, e_dupr, e_dup2, e_pop, e_if, e_icmp, e_sw, e_sw0, e_sw1, e_get, e_put, e_ald, e_ast, e_aald, e_aast, e_copy, e_new, e_newa, e_anewa, e_min, e_abs, e_oinit, e_callI, e_callV, e_callS, e_iret, e_zret, e_lret, e_vret, e_tl1, e_tl0, e_tl2, e_tl3, z10, Bool.false_eq_true, e_argi, e_argr, e_argn, zld_c, zst_n, zst_c, zpick_n, zpick_c, List.drop_succ_cons, List.drop_zero, List.take_succ_cons, List.take_zero, List.length_cons, List.length_nil, List.reverse_cons, List.reverse_nil, List.nil_append, List.cons_append, List.append_nil, List.getElem?_cons_zero, List.getElem?_cons_succ, List.set_cons_zero, List.set_cons_succ, Nat.add_sub_cancel_left, Nat.sub_self, Nat.add_zero, Nat.zero_add, Nat.le_add_right, Nat.le_refl, true_and, and_true, va_rf, zok, Nat.add_left_cancel_iff, Nat.add_eq_left, Nat.left_eq_add, eq_self, if_true, if_false, not_false_eq_true, not_true_eq_false, false_implies, true_implies, Nat.reduceEqDiff, Nat.reduceAdd, Nat.reduceLT, Nat.reduceLeDiff, reduceIte]; exact hP⟩
    · rw [if_neg c0, if_neg c1, if_neg c2, if_neg c3, if_neg c4, if_neg c5, if_pos c6] at hP
      refine ⟨12, r, _, _, rfl, hmo, hi12, hr6, hmk.l64, ?_⟩
      by_cases q2 : (C.1 1).testBit r = true
      · simp only [e_cut, e_iload, e_aload, e_istore, e_astore, e_iinc, e_const, e_lconst, e_bin, e_bin0, e_un, e_ladd, e_dupi, e_dupr, e_dup2, e_pop, e_if, e_icmp, e_sw, e_sw0, e_sw1, e_get, e_put, e_ald, e_ast, e_aald, e_aast, e_copy, e_new, e_newa, e_anewa, e_min, e_abs, e_oinit, e_callI, e_callV, e_callS, e_iret, e_zret, e_lret, e_vret, e_tl1, e_tl0, e_tl2, e_tl3, z10, Bool.false_eq_true, e_argi, e_argr, e_argn, zld_c, zst_n, zst_c, zpick_n, zpick_c, List.drop_succ_cons, List.drop_zero, List.take_succ_cons, List.take_zero, List.length_cons, List.length_nil, List.reverse_cons, List.reverse_nil, List.nil_append, List.cons_append, List.append_nil, List.getElem?_cons_zero, List.getElem?_cons_succ, List.set_cons_zero, List.set_cons_succ, Nat.add_sub_cancel_left, Nat.sub_self, Nat.add_zero, Nat.zero_add, Nat.le_add_right, Nat.le_refl, true_and, and_true, va_rf, zok, Nat.add_left_cancel_iff, Nat.add_eq_left, Nat.left_eq_add, eq_self, if_true, if_false, not_false_eq_true, not_true_eq_false, false_implies, true_implies, Nat.reduceEqDiff, Nat.reduceAdd, Nat.reduceLT, Nat.reduceLeDiff, reduceIte, q2, B_X5_rider_0, B_X5_rider_104, B_X5_rider_150, B_X5_rider_169, m0, N0, N1, N2, N3, N4, N5, N6, N7, N11, N12, N13, N14, N15, N16, N58, N59, N63, N64, N65, N112, zB0, e0] at hP ⊢
        refine ⟨_, _, _, 12, _, _, r, rfl, hp1, hmk.l64, hmk.2.1, hr6, ?_⟩
        simp only [e_cut, e_iload, e_aload, e_istore, e_astore, e_iinc, e_const, e_lconst, e_bin, e_bin0, e_un, e_ladd, e_dupi, e_dupr, e_dup2, e_pop, e_if, e_icmp, e_sw, e_sw0, e_sw1, e_get, e_put, e_ald, e_ast, e_aald, e_aast, e_copy, e_new, e_newa, e_anewa, e_min, e_abs, e_oinit, e_callI, e_callV, e_callS, e_iret, e_zret, e_lret, e_vret, e_tl1, e_tl0, e_tl2, e_tl3, z10, Bool.false_eq_true, e_argi, e_argr, e_argn, zld_c, zst_n, zst_c, zpick_n, zpick_c, List.drop_succ_cons, List.drop_zero, List.take_succ_cons, List.take_zero, List.length_cons, List.length_nil, List.reverse_cons, List.reverse_nil, List.nil_append, List.cons_append, List.append_nil, List.getElem?_cons_zero, List.getElem?_cons_succ, List.set_cons_zero, List.set_cons_succ, Nat.add_sub_cancel_left, Nat.sub_self, Nat.add_zero, Nat.zero_add, Nat.le_add_right, Nat.le_refl, true_and, and_true, va_rf, zok, Nat.add_left_cancel_iff, Nat.add_eq_left, Nat.left_eq_add, eq_self, if_true, if_false, not_false_eq_true, not_true_eq_false, false_implies, true_implies, Nat.reduceEqDiff, Nat.reduceAdd, Nat.reduceLT, Nat.reduceLeDiff, reduceIte]; exact hP
      · simp only [e_cut, e_iload, e_aload, e_istore, e_astore, e_iinc, e_const, e_lconst, e_bin, e_bin0, e_un, e_ladd, e_dupi, e_dupr, e_dup2, e_pop, e_if, e_icmp, e_sw, e_sw0, e_sw1, e_get, e_put, e_ald, e_ast, e_aald, e_aast, e_copy, e_new, e_newa, e_anewa, e_min, e_abs, e_oinit, e_callI, e_callV, e_callS, e_iret, e_zret, e_lret, e_vret, e_tl1, e_tl0, e_tl2, e_tl3, z10, Bool.false_eq_true, e_argi, e_argr, e_argn, zld_c, zst_n, zst_c, zpick_n, zpick_c, List.drop_succ_cons, List.drop_zero, List.take_succ_cons, List.take_zero, List.length_cons, List.length_nil, List.reverse_cons, List.reverse_nil, List.nil_append, List.cons_append, List.append_nil, List.getElem?_cons_zero, List.getElem?_cons_succ, List.set_cons_zero, List.set_cons_succ, Nat.add_sub_cancel_left, Nat.sub_self, Nat.add_zero, Nat.zero_add, Nat.le_add_right, Nat.le_refl, true_and, and_true, va_rf, zok, Nat.add_left_cancel_iff, Nat.add_eq_left, Nat.left_eq_add, eq_self, if_true, if_false, not_false_eq_true, not_true_eq_false, false_implies, true_implies, Nat.reduceEqDiff, Nat.reduceAdd, Nat.reduceLT, Nat.reduceLeDiff, reduceIte, q2, B_X5_rider_0, B_X5_rider_104, B_X5_rider_150, B_X5_rider_169] at hP ⊢; exact hP
    · rw [if_neg c0, if_neg c1, if_neg c2, if_neg c3, if_neg c4, if_neg c5, if_neg c6, if_pos c7] at hP
      refine ⟨12, r, _, _, rfl, hmo, hi12, hr6, hmk.l64, ?_⟩
      by_cases q2 : (C.1 1).testBit r = true
      · simp only [e_cut, e_iload, e_aload, e_istore, e_astore, e_iinc, e_const, e_lconst, e_bin, e_bin0, e_un, e_ladd, e_dupi, e_dupr, e_dup2, e_pop, e_if, e_icmp, e_sw, e_sw0, e_sw1, e_get, e_put, e_ald, e_ast, e_aald, e_aast, e_copy, e_new, e_newa, e_anewa, e_min, e_abs, e_oinit, e_callI, e_callV, e_callS, e_iret, e_zret, e_lret, e_vret, e_tl1, e_tl0, e_tl2, e_tl3, z10, Bool.false_eq_true, e_argi, e_argr, e_argn, zld_c, zst_n, zst_c, zpick_n, zpick_c, List.drop_succ_cons, List.drop_zero, List.take_succ_cons, List.take_zero, List.length_cons, List.length_nil, List.reverse_cons, List.reverse_nil, List.nil_append, List.cons_append, List.append_nil, List.getElem?_cons_zero, List.getElem?_cons_succ, List.set_cons_zero, List.set_cons_succ, Nat.add_sub_cancel_left, Nat.sub_self, Nat.add_zero, Nat.zero_add, Nat.le_add_right, Nat.le_refl, true_and, and_true, va_rf, zok, Nat.add_left_cancel_iff, Nat.add_eq_left, Nat.left_eq_add, eq_self, if_true, if_false, not_false_eq_true, not_true_eq_false, false_implies, true_implies, Nat.reduceEqDiff, Nat.reduceAdd, Nat.reduceLT, Nat.reduceLeDiff, reduceIte, q2, B_X5_rider_0, B_X5_rider_104, B_X5_rider_150, B_X5_rider_169, m0, N0, N1, N2, N3, N4, N5, N6, N7, N11, N12, N13, N14, N15, N16, N58, N59, N63, N64, N65, N112, zB0, e0] at hP ⊢
        refine ⟨_, _, _, 12, _, r, rfl, hp1, hr6, ?_⟩
        simp only [e_cut, e_iload, e_aload, e_istore, e_astore, e_iinc, e_const, e_lconst, e_bin, e_bin0, e_un, e_ladd, e_dupi, e_dupr, e_dup2, e_pop, e_if, e_icmp, e_sw, e_sw0, e_sw1, e_get, e_put, e_ald, e_ast, e_aald, e_aast, e_copy, e_new, e_newa, e_anewa, e_min, e_abs, e_oinit, e_callI, e_callV, e_callS, e_iret, e_zret, e_lret, e_vret, e_tl1, e_tl0, e_tl2, e_tl3, z10, Bool.false_eq_true, e_argi, e_argr, e_argn, zld_c, zst_n, zst_c, zpick_n, zpick_c, List.drop_succ_cons, List.drop_zero, List.take_succ_cons, List.take_zero, List.length_cons, List.length_nil, List.reverse_cons, List.reverse_nil, List.nil_append, List.cons_append, List.append_nil, List.getElem?_cons_zero, List.getElem?_cons_succ, List.set_cons_zero, List.set_cons_succ, Nat.add_sub_cancel_left, Nat.sub_self, Nat.add_zero, Nat.zero_add, Nat.le_add_right, Nat.le_refl, true_and, and_true, va_rf, zok, Nat.add_left_cancel_iff, Nat.add_eq_left, Nat.left_eq_add, eq_self, if_true, if_false, not_false_eq_true, not_true_eq_false, false_implies, true_implies, Nat.reduceEqDiff, Nat.reduceAdd, Nat.reduceLT, Nat.reduceLeDiff, reduceIte]; exact hP
      · simp only [e_cut, e_iload, e_aload, e_istore, e_astore, e_iinc, e_const, e_lconst, e_bin, e_bin0, e_un, e_ladd, e_dupi, e_dupr, e_dup2, e_pop, e_if, e_icmp, e_sw, e_sw0, e_sw1, e_get, e_put, e_ald, e_ast, e_aald, e_aast, e_copy, e_new, e_newa, e_anewa, e_min, e_abs, e_oinit, e_callI, e_callV, e_callS, e_iret, e_zret, e_lret, e_vret, e_tl1, e_tl0, e_tl2, e_tl3, z10, Bool.false_eq_true, e_argi, e_argr, e_argn, zld_c, zst_n, zst_c, zpick_n, zpick_c, List.drop_succ_cons, List.drop_zero, List.take_succ_cons, List.take_zero, List.length_cons, List.length_nil, List.reverse_cons, List.reverse_nil, List.nil_append, List.cons_append, List.append_nil, List.getElem?_cons_zero, List.getElem?_cons_succ, List.set_cons_zero, List.set_cons_succ, Nat.add_sub_cancel_left, Nat.sub_self, Nat.add_zero, Nat.zero_add, Nat.le_add_right, Nat.le_refl, true_and, and_true, va_rf, zok, Nat.add_left_cancel_iff, Nat.add_eq_left, Nat.left_eq_add, eq_self, if_true, if_false, not_false_eq_true, not_true_eq_false, false_implies, true_implies, Nat.reduceEqDiff, Nat.reduceAdd, Nat.reduceLT, Nat.reduceLeDiff, reduceIte, q2, B_X5_rider_0, B_X5_rider_104, B_X5_rider_150, B_X5_rider_169] at hP ⊢; exact hP
    · rw [if_neg c0, if_neg c1, if_neg c2, if_neg c3, if_neg c4, if_neg c5, if_neg c6, if_neg c7] at hP; exact hP
  · simp only [q1] at hP
    simp only [e_cut, e_iload, e_aload, e_istore, e_astore, e_iinc, e_const, e_lconst, e_bin, e_bin0, e_un, e_ladd, e_dupi, e_dupr, e_dup2, e_pop, e_if, e_icmp, e_sw, e_sw0, e_sw1, e_get, e_put, e_ald, e_ast, e_aald, e_aast, e_copy, e_new, e_newa, e_anewa, e_min, e_abs, e_oinit, e_callI, e_callV, e_callS, e_iret, e_zret, e_lret, e_vret, e_tl1, e_tl0, e_tl2, e_tl3, z10, Bool.false_eq_true, e_argi, e_argr, e_argn, zld_c, zst_n, zst_c, zpick_n, zpick_c, List.drop_succ_cons, List.drop_zero, List.take_succ_cons, List.take_zero, List.length_cons, List.length_nil, List.reverse_cons, List.reverse_nil, List.nil_append, List.cons_append, List.append_nil, List.getElem?_cons_zero, List.getElem?_cons_succ, List.set_cons_zero, List.set_cons_succ, Nat.add_sub_cancel_left, Nat.sub_self, Nat.add_zero, Nat.zero_add, Nat.le_add_right, Nat.le_refl, true_and, and_true, va_rf, zok, Nat.add_left_cancel_iff, Nat.add_eq_left, Nat.left_eq_add, eq_self, if_true, if_false, not_false_eq_true, not_true_eq_false, false_implies, true_implies, Nat.reduceEqDiff, Nat.reduceAdd, Nat.reduceLT, Nat.reduceLeDiff, reduceIte, q1]
    exact hP
set_option maxRecDepth 20000 in
theorem f_X5_rider_29 : Cond.fieldLink RX5 29 (TX5 3).1 (TX5 3).2.1 (TX5 3).2.2.1 ∈ wsX5_rider := by decide +kernel
set_option maxRecDepth 20000 in
theorem k_X5_rider_5 : ∀ w ∈ u_ws RX5 TX5 11, w ∈ wsX5_rider := fun _ h => List.mem_cons_of_mem _ (List.mem_append_left _ (List.mem_append_left _ (List.mem_append_left _ (List.mem_append_right _ h))))
set_option maxRecDepth 20000 in
theorem f_X5_rider_76 : Cond.fieldLink RX5 76 (TX0 0).1 (TX0 0).2.1 (TX0 0).2.2.1 ∈ wsX5_rider := by decide +kernel
set_option maxRecDepth 20000 in
theorem k_X5_rider_0 : ∀ w ∈ u_ws RX0 TX0 2, w ∈ wsX5_rider := fun _ h => List.mem_cons_of_mem _ (List.mem_append_left _ (List.mem_append_left _ (List.mem_append_right _ h)))
set_option maxRecDepth 20000 in
theorem f_X5_rider_98 : Cond.fieldLink RX5 98 (TX1 1).1 (TX1 1).2.1 (TX1 1).2.2.1 ∈ wsX5_rider := by decide +kernel
set_option maxRecDepth 20000 in
theorem k_X5_rider_1 : ∀ w ∈ u_ws RX1 TX1 7, w ∈ wsX5_rider := fun _ h => List.mem_cons_of_mem _ (List.mem_append_left _ (List.mem_append_right _ h))
set_option maxRecDepth 20000 in
theorem f_X5_rider_19 : Cond.fieldLink RX5 19 (TX5 1).1 (TX5 1).2.1 (TX5 1).2.2.1 ∈ wsX5_rider := by decide +kernel
set_option maxRecDepth 20000 in
theorem f_X5_rider_85 : Cond.fieldLink RX5 85 (TX4 5).1 (TX4 5).2.1 (TX4 5).2.2.1 ∈ wsX5_rider := by decide +kernel
set_option maxRecDepth 20000 in
theorem k_X5_rider_4 : ∀ w ∈ u_ws RX4 TX4 6, w ∈ wsX5_rider := fun _ h => List.mem_cons_of_mem _ (List.mem_append_right _ h)
set_option maxRecDepth 20000 in
theorem f_X5_rider_91 : Cond.fieldLink RX5 91 (TX1 5).1 (TX1 5).2.1 (TX1 5).2.2.1 ∈ wsX5_rider := by decide +kernel
set_option maxRecDepth 20000 in
theorem f_X5_rider_82 : Cond.fieldLink RX5 82 (TX4 4).1 (TX4 4).2.1 (TX4 4).2.2.1 ∈ wsX5_rider := by decide +kernel
set_option maxRecDepth 20000 in
theorem f_X5_rider_79 : Cond.fieldLink RX5 79 (TX1 4).1 (TX1 4).2.1 (TX1 4).2.2.1 ∈ wsX5_rider := by decide +kernel
set_option maxRecDepth 100000 in
set_option maxHeartbeats 4000000 in
theorem S_X5_rider_169 {p : Program} {e : Env} {s : State} {m : MethodId} {args : Array Value} {below : List Frame} {meth : Method} {c : Code} {D : va_G} {cy : zY} {b n0 : Nat} {P : zPo} (la : Launch) (X : zX p la e (rm_X5_rider) s m args below meth c 4 D cy b n0 cX5_rider wsX5_rider RX5) (hr : meth.sig.returnType = (some .int)) (h_X1_isAboard : zMet la yX1_isAboard wsX1_isAboard rm_X1_isAboard 0 0 sp_X1_isAboard) (h_X5_downByDoubleRing : zMet la yX5_downByDoubleRing wsX5_downByDoubleRing rm_X5_downByDoubleRing 0 0 sp_X5_downByDoubleRing) (h_X5_downByRing : zMet la yX5_downByRing wsX5_downByRing rm_X5_downByRing 0 0 sp_X5_downByRing) (h_X5_isRider : zMet la yX5_isRider wsX5_isRider rm_X5_isRider 0 0 sp_X5_isRider) (h_X5_whom : zMet la yX5_whom wsX5_whom rm_X5_whom 0 0 sp_X5_whom) : zS p la e (rm_X5_rider) s m args below meth c (MQ below (zQ D b (n0 + 0) P) args s 0 0 (fun q => b ≤ q)) 4 D b n0 169 (B_X5_rider_169 b n0 cy P (zAt p la e (rm_X5_rider) s m args below meth c (MQ below (zQ D b (n0 + 0) P) args s 0 0 (fun q => b ≤ q)) 4 D b n0)) := by
  unfold B_X5_rider_169
  exact (s_iret X dX5_rider_169 hr)
set_option maxRecDepth 100000 in
set_option maxHeartbeats 4000000 in
theorem S_X5_rider_150 {p : Program} {e : Env} {s : State} {m : MethodId} {args : Array Value} {below : List Frame} {meth : Method} {c : Code} {D : va_G} {cy : zY} {b n0 : Nat} {P : zPo} (la : Launch) (X : zX p la e (rm_X5_rider) s m args below meth c 4 D cy b n0 cX5_rider wsX5_rider RX5) (hr : meth.sig.returnType = (some .int)) (h_X1_isAboard : zMet la yX1_isAboard wsX1_isAboard rm_X1_isAboard 0 0 sp_X1_isAboard) (h_X5_downByDoubleRing : zMet la yX5_downByDoubleRing wsX5_downByDoubleRing rm_X5_downByDoubleRing 0 0 sp_X5_downByDoubleRing) (h_X5_downByRing : zMet la yX5_downByRing wsX5_downByRing rm_X5_downByRing 0 0 sp_X5_downByRing) (h_X5_isRider : zMet la yX5_isRider wsX5_isRider rm_X5_isRider 0 0 sp_X5_isRider) (h_X5_whom : zMet la yX5_whom wsX5_whom rm_X5_whom 0 0 sp_X5_whom) : zS p la e (rm_X5_rider) s m args below meth c (MQ below (zQ D b (n0 + 0) P) args s 0 0 (fun q => b ≤ q)) 4 D b n0 150 (B_X5_rider_150 b n0 cy P (zAt p la e (rm_X5_rider) s m args below meth c (MQ below (zQ D b (n0 + 0) P) args s 0 0 (fun q => b ≤ q)) 4 D b n0)) := by
  unfold B_X5_rider_150
  exact (s_iret X dX5_rider_150 hr)
set_option maxRecDepth 100000 in
set_option maxHeartbeats 4000000 in
theorem S_X5_rider_104 {p : Program} {e : Env} {s : State} {m : MethodId} {args : Array Value} {below : List Frame} {meth : Method} {c : Code} {D : va_G} {cy : zY} {b n0 : Nat} {P : zPo} (la : Launch) (X : zX p la e (rm_X5_rider) s m args below meth c 4 D cy b n0 cX5_rider wsX5_rider RX5) (hr : meth.sig.returnType = (some .int)) (h_X1_isAboard : zMet la yX1_isAboard wsX1_isAboard rm_X1_isAboard 0 0 sp_X1_isAboard) (h_X5_downByDoubleRing : zMet la yX5_downByDoubleRing wsX5_downByDoubleRing rm_X5_downByDoubleRing 0 0 sp_X5_downByDoubleRing) (h_X5_downByRing : zMet la yX5_downByRing wsX5_downByRing rm_X5_downByRing 0 0 sp_X5_downByRing) (h_X5_isRider : zMet la yX5_isRider wsX5_isRider rm_X5_isRider 0 0 sp_X5_isRider) (h_X5_whom : zMet la yX5_whom wsX5_whom rm_X5_whom 0 0 sp_X5_whom) : zS p la e (rm_X5_rider) s m args below meth c (MQ below (zQ D b (n0 + 0) P) args s 0 0 (fun q => b ≤ q)) 4 D b n0 104 (B_X5_rider_104 b n0 cy P (zAt p la e (rm_X5_rider) s m args below meth c (MQ below (zQ D b (n0 + 0) P) args s 0 0 (fun q => b ≤ q)) 4 D b n0)) := by
  unfold B_X5_rider_104
  exact (s_iret X dX5_rider_104 hr)
set_option maxRecDepth 100000 in
set_option maxHeartbeats 4000000 in
theorem S_X5_rider_0 {p : Program} {e : Env} {s : State} {m : MethodId} {args : Array Value} {below : List Frame} {meth : Method} {c : Code} {D : va_G} {cy : zY} {b n0 : Nat} {P : zPo} (la : Launch) (X : zX p la e (rm_X5_rider) s m args below meth c 4 D cy b n0 cX5_rider wsX5_rider RX5) (hr : meth.sig.returnType = (some .int)) (h_X1_isAboard : zMet la yX1_isAboard wsX1_isAboard rm_X1_isAboard 0 0 sp_X1_isAboard) (h_X5_downByDoubleRing : zMet la yX5_downByDoubleRing wsX5_downByDoubleRing rm_X5_downByDoubleRing 0 0 sp_X5_downByDoubleRing) (h_X5_downByRing : zMet la yX5_downByRing wsX5_downByRing rm_X5_downByRing 0 0 sp_X5_downByRing) (h_X5_isRider : zMet la yX5_isRider wsX5_isRider rm_X5_isRider 0 0 sp_X5_isRider) (h_X5_whom : zMet la yX5_whom wsX5_whom rm_X5_whom 0 0 sp_X5_whom) : zS p la e (rm_X5_rider) s m args below meth c (MQ below (zQ D b (n0 + 0) P) args s 0 0 (fun q => b ≤ q)) 4 D b n0 0 (B_X5_rider_0 b n0 cy P (zAt p la e (rm_X5_rider) s m args below meth c (MQ below (zQ D b (n0 + 0) P) args s 0 0 (fun q => b ≤ q)) 4 D b n0)) := by
  unfold B_X5_rider_0
  exact (s_aload_n X dX5_rider_0 rfl (s_iload_n X dX5_rider_1 rfl (s_callV X h_X5_isRider dX5_rider_2 rfl gX5_rider_X5_isRider rfl rfl rfl (by decide +kernel) ⟨by decide, by decide⟩ (s_if_ne X dX5_rider_5 (by decide) (s_aload_n X dX5_rider_10 rfl (s_get X dX5_rider_11 rfl k_X5_rider_5 (by decide) f_X5_rider_29 (s_get X dX5_rider_14 rfl k_X5_rider_0 (by decide) f_X5_rider_76 (s_astore_n X dX5_rider_17 rfl (by decide) (s_iload_n X dX5_rider_18 rfl (s_table X dX5_rider_19 (fun x hx => by have q0 := lv_neT (hx (0, _) (List.mem_of_getElem? (i := 0) rfl)) (a := 0) rfl; have q1 := lv_neT (hx (1, _) (List.mem_of_getElem? (i := 1) rfl)) (a := 1) rfl; have q2 := lv_neT (hx (2, _) (List.mem_of_getElem? (i := 2) rfl)) (a := 2) rfl; have q3 := lv_neT (hx (3, _) (List.mem_of_getElem? (i := 3) rfl)) (a := 3) rfl; have q4 := lv_neT (hx (4, _) (List.mem_of_getElem? (i := 4) rfl)) (a := 4) rfl; have q5 := lv_neT (hx (5, _) (List.mem_of_getElem? (i := 5) rfl)) (a := 5) rfl; have q6 := lv_neT (hx (6, _) (List.mem_of_getElem? (i := 6) rfl)) (a := 6) rfl; have q7 := lv_neT (hx (7, _) (List.mem_of_getElem? (i := 7) rfl)) (a := 7) rfl; omega) (by decide) (s_iconst X dX5_rider_170 (by decide) (s_iret X dX5_rider_171 hr)) (List.forall_mem_cons.mpr ⟨⟨45, 64, (show ¬ (0 : Int32).toInt < 0 from by decide), (show ¬ 7 < (0 : Int32).toInt from by decide), rfl, by decide, (s_aload_n X dX5_rider_64 rfl (s_get X dX5_rider_65 rfl k_X5_rider_1 (by decide) f_X5_rider_79 (s_iload_n X dX5_rider_68 rfl (s_iald X dX5_rider_69 (s_iret X dX5_rider_70 hr)))))⟩, List.forall_mem_cons.mpr ⟨⟨52, 71, (show ¬ (1 : Int32).toInt < 0 from by decide), (show ¬ 7 < (1 : Int32).toInt from by decide), rfl, by decide, (s_aload_n X dX5_rider_71 rfl (s_get X dX5_rider_72 rfl k_X5_rider_5 (by decide) f_X5_rider_19 (s_get X dX5_rider_75 rfl k_X5_rider_4 (by decide) f_X5_rider_82 (s_iload_n X dX5_rider_78 rfl (s_iald X dX5_rider_79 (s_iret X dX5_rider_80 hr))))))⟩, List.forall_mem_cons.mpr ⟨⟨62, 81, (show ¬ (2 : Int32).toInt < 0 from by decide), (show ¬ 7 < (2 : Int32).toInt from by decide), rfl, by decide, (s_aload_n X dX5_rider_81 rfl (s_get X dX5_rider_82 rfl k_X5_rider_5 (by decide) f_X5_rider_19 (s_get X dX5_rider_85 rfl k_X5_rider_4 (by decide) f_X5_rider_85 (s_iload_n X dX5_rider_88 rfl (s_iald X dX5_rider_89 (s_iret X dX5_rider_90 hr))))))⟩, List.forall_mem_cons.mpr ⟨⟨72, 91, (show ¬ (3 : Int32).toInt < 0 from by decide), (show ¬ 7 < (3 : Int32).toInt from by decide), rfl, by decide, (s_aload_n X dX5_rider_91 rfl (s_iload_n X dX5_rider_92 rfl (s_callV X h_X1_isAboard dX5_rider_93 rfl gX5_rider_X1_isAboard rfl rfl rfl (by decide +kernel) ⟨by decide, by decide⟩ (s_if_eq X dX5_rider_96 (by decide) (s_iconst X dX5_rider_103 (by decide) (S_X5_rider_104 la X hr h_X1_isAboard h_X5_downByDoubleRing h_X5_downByRing h_X5_isRider h_X5_whom)) (s_iconst X dX5_rider_99 (by decide) (s_goto X dX5_rider_100 (by decide) (S_X5_rider_104 la X hr h_X1_isAboard h_X5_downByDoubleRing h_X5_downByRing h_X5_isRider h_X5_whom)))))))⟩, List.forall_mem_cons.mpr ⟨⟨86, 105, (show ¬ (4 : Int32).toInt < 0 from by decide), (show ¬ 7 < (4 : Int32).toInt from by decide), rfl, by decide, (s_aload_n X dX5_rider_105 rfl (s_get X dX5_rider_106 rfl k_X5_rider_1 (by decide) f_X5_rider_91 (s_iload_n X dX5_rider_109 rfl (s_iald X dX5_rider_110 (s_iret X dX5_rider_111 hr)))))⟩, List.forall_mem_cons.mpr ⟨⟨93, 112, (show ¬ (5 : Int32).toInt < 0 from by decide), (show ¬ 7 < (5 : Int32).toInt from by decide), rfl, by decide, (s_aload_n X dX5_rider_112 rfl (s_aload_n X dX5_rider_113 rfl (s_iload_n X dX5_rider_114 rfl (s_aload_n X dX5_rider_115 rfl (s_get X dX5_rider_116 rfl k_X5_rider_5 (by decide) f_X5_rider_19 (s_get X dX5_rider_119 rfl k_X5_rider_4 (by decide) f_X5_rider_85 (s_iload_n X dX5_rider_122 rfl (s_iald X dX5_rider_123 (s_callV X h_X5_whom dX5_rider_124 rfl gX5_rider_X5_whom rfl rfl rfl (by decide +kernel) ⟨by decide, by decide⟩ (s_iret X dX5_rider_127 hr))))))))))⟩, List.forall_mem_cons.mpr ⟨⟨109, 128, (show ¬ (6 : Int32).toInt < 0 from by decide), (show ¬ 7 < (6 : Int32).toInt from by decide), rfl, by decide, (s_aload_n X dX5_rider_128 rfl (s_iload_n X dX5_rider_129 rfl (s_callV X h_X1_isAboard dX5_rider_130 rfl gX5_rider_X1_isAboard rfl rfl rfl (by decide +kernel) ⟨by decide, by decide⟩ (s_if_eq X dX5_rider_133 (by decide) (s_bipush X dX5_rider_148 (by decide) (S_X5_rider_150 la X hr h_X1_isAboard h_X5_downByDoubleRing h_X5_downByRing h_X5_isRider h_X5_whom)) (s_aload_n X dX5_rider_136 rfl (s_aload_n X dX5_rider_137 rfl (s_get X dX5_rider_138 rfl k_X5_rider_1 (by decide) f_X5_rider_98 (s_iload_n X dX5_rider_141 rfl (s_callS X h_X5_downByRing dX5_rider_142 gX5_rider_X5_downByRing rfl rfl rfl (by decide +kernel) ⟨by decide, by decide⟩ (s_goto X dX5_rider_145 (by decide) (S_X5_rider_150 la X hr h_X1_isAboard h_X5_downByDoubleRing h_X5_downByRing h_X5_isRider h_X5_whom)))))))))))⟩, List.forall_mem_cons.mpr ⟨⟨132, 151, (show ¬ (7 : Int32).toInt < 0 from by decide), (show ¬ 7 < (7 : Int32).toInt from by decide), rfl, by decide, (s_aload_n X dX5_rider_151 rfl (s_iload_n X dX5_rider_152 rfl (s_callV X h_X1_isAboard dX5_rider_153 rfl gX5_rider_X1_isAboard rfl rfl rfl (by decide +kernel) ⟨by decide, by decide⟩ (s_if_eq X dX5_rider_156 (by decide) (s_bipush X dX5_rider_167 (by decide) (S_X5_rider_169 la X hr h_X1_isAboard h_X5_downByDoubleRing h_X5_downByRing h_X5_isRider h_X5_whom)) (s_aload_n X dX5_rider_159 rfl (s_iload_n X dX5_rider_160 rfl (s_callS X h_X5_downByDoubleRing dX5_rider_161 gX5_rider_X5_downByDoubleRing rfl rfl rfl (by decide +kernel) ⟨by decide, by decide⟩ (s_goto X dX5_rider_164 (by decide) (S_X5_rider_169 la X hr h_X1_isAboard h_X5_downByDoubleRing h_X5_downByRing h_X5_isRider h_X5_whom)))))))))⟩, fun _ h => absurd h List.not_mem_nil⟩⟩⟩⟩⟩⟩⟩⟩))))))) (s_iconst X dX5_rider_8 (by decide) (s_iret X dX5_rider_9 hr))))))
theorem w_X5_rider (la : Launch) (h_X1_isAboard : zMet la yX1_isAboard wsX1_isAboard rm_X1_isAboard 0 0 sp_X1_isAboard) (h_X5_downByDoubleRing : zMet la yX5_downByDoubleRing wsX5_downByDoubleRing rm_X5_downByDoubleRing 0 0 sp_X5_downByDoubleRing) (h_X5_downByRing : zMet la yX5_downByRing wsX5_downByRing rm_X5_downByRing 0 0 sp_X5_downByRing) (h_X5_isRider : zMet la yX5_isRider wsX5_isRider rm_X5_isRider 0 0 sp_X5_isRider) (h_X5_whom : zMet la yX5_whom wsX5_whom rm_X5_whom 0 0 sp_X5_whom) (sp : zSp) (vc : zVC_X5_rider sp) : zMet la yX5_rider wsX5_rider (rm_X5_rider) 0 0 sp :=
  z_of (cc := cX5_rider) (maxL := 4) (ret := (some .int)) (by decide +kernel) rfl (fun p e s m args below meth c D cy b n as E P hsp X hr hin => by
    obtain ⟨h1, h2⟩ := vc b cy n as E P (zAt p la e (rm_X5_rider) s m args below meth c (MQ below (zQ D b (n + 0) P) args s 0 0 (fun q => b ≤ q)) 4 D b n) hsp
    exact ⟨h1, S_X5_rider_0 la X hr h_X1_isAboard h_X5_downByDoubleRing h_X5_downByRing h_X5_isRider h_X5_whom _ _ _ _ _ h2⟩)

theorem m_X5_rider (la : Launch) : zMet la yX5_rider wsX5_rider rm_X5_rider 0 0 sp_X5_rider := w_X5_rider la (m_X1_isAboard la) (m_X5_downByDoubleRing la) (m_X5_downByRing la) (m_X5_isRider la) (m_X5_whom la) _ vc_X5_rider
theorem zride_lo {n : Nat} {lo la c : Nat → Nat} : (zride n lo la c) 0 = c 0 + 1 ∧ (zride n lo la c) 1 = c 1 := by
  have key : ∀ k, (zrideL n lo la k (zup c 0 (c 0 + 1))) 0 = c 0 + 1 ∧ (zrideL n lo la k (zup c 0 (c 0 + 1))) 1 = c 1 := by
    intro k
    induction k with
    | zero => exact ⟨rfl, rfl⟩
    | succ k ih =>
      rw [zrideL_s]
      cases zwhom n lo (zrideL n lo la k (zup c 0 (c 0 + 1))) k (la k) with
      | none => exact ih
      | some q => exact ⟨by show zthink _ _ _ 0 = _; rw [zthink_lo (by omega) (by omega)]; exact ih.1, by show zthink _ _ _ 1 = _; rw [zthink_lo (by omega) (by omega)]; exact ih.2⟩
  exact key n
def sp_X5_rides : zSp := fun b cy as N E P => zPX op_rides [] b cy as N E P
abbrev rm_X5_rides : Room := { frames := 5, cells := 0, slots := 0, locals := 134 }
def B_X5_rides_0 (b n0 : Nat) (cy : zY) (P : zPo) (A : Nat → zC) : zC :=
  z_aload 0 (z_get b n0 5 3 (z_get b n0 0 0 (z_astore 1 (z_aload 1 (z_get b n0 1 0 (z_const (99) (z_icmp (fun x y => x < y) (z_aload 0 (z_get b n0 5 3 (z_get b n0 0 1 (z_aload 1 (z_callV b n0 0 0 cy 2 1 0 0 sp_X2_push (z_aload 0 (z_aload 1 (z_callV b n0 0 0 cy 5 1 0 0 sp_X5_ride (z_aload 1 (z_get b n0 1 0 (z_iret 0 0 P))))))))))) (z_const (-2) (z_iret 0 0 P)))))))))
def zVC_X5_rides (sp : zSp) : Prop := ∀ (b : Nat) (cy : zY) (n : Nat) (as : List Value) (E : zE) (P : zPo) (A : Nat → zC), sp b cy as n E P → zgood as 2 ∧ B_X5_rides_0 b n cy P A (lv_args 0 as) [] 0 0 E

set_option maxRecDepth 100000 in
set_option maxHeartbeats 4000000 in
theorem vc_X5_rides : zVC_X5_rides sp_X5_rides := by
  intro b cy N as E P A hsp
  obtain ⟨K, ⟨T, D, C, I, S, tr⟩, rfl, hbc, hok, hK, hN, hP⟩ := hsp
  refine ⟨⟨Nat.le_of_ble_eq_true rfl, zg1 rfl (zg0)⟩, ?_⟩
  obtain ⟨e0, hTx, ⟨seat, items, hTo⟩, hDr, hIm, hIs, hAh, hSn, hI0, hI1⟩ := id hbc
  have hp2 := hbc.p2 hok hN
  obtain ⟨hp1, e11⟩ := id hp2
  obtain ⟨hR, hmo, hmk, hi12, _⟩ := id hp1
  obtain ⟨hn1, mf, mg, mh, m0, m1, m2, m3, hmf, hmg, hmh⟩ := id hmo
  obtain ⟨_, tf, tg, th, t0, t1, t2, t3, htf, htg, hth⟩ := id hTo
  replace m1 : E 13 = _ := m1
  replace m2 : E 14 = _ := m2
  replace m3 : E 15 = _ := m3
  replace t1 : E 4 = _ := t1
  replace t2 : E 5 = _ := t2
  replace t3 : E 6 = _ := t3
  have hpa : zPa b cy E 16 D.1 C.2.1 C.2.2 := hIm.2.2
  have hlo := hok.2.1
  have N0 : 0 < N := by omega
  have N1 : 1 < N := by omega
  have N2 : 2 < N := by omega
  have N3 : 3 < N := by omega
  have N4 : 4 < N := by omega
  have N5 : 5 < N := by omega
  have N6 : 6 < N := by omega
  have N7 : 7 < N := by omega
  have N11 : 11 < N := by omega
  have N12 : 12 < N := by omega
  have N13 : 13 < N := by omega
  have N14 : 14 < N := by omega
  have N15 : 15 < N := by omega
  have N16 : 16 < N := by omega
  have N58 : 58 < N := by omega
  have N59 : 59 < N := by omega
  have N63 : 63 < N := by omega
  have N64 : 64 < N := by omega
  have N65 : 65 < N := by omega
  have N112 : 112 < N := by omega
  have k99 : (99 : Int32) = nI 99 := rfl
  have hC0 := hok.2.2.2.2.2.1.2.1
  have hC2 := hok.2.2.2.2.2.1.2.2.1
  simp only [op_rides] at hP
  simp only [B_X5_rides_0, e_cut, e_iload, e_aload, e_istore, e_astore, e_iinc, e_const, e_lconst, e_bin, e_bin0, e_un, e_ladd, e_dupi, e_dupr, e_dup2, e_pop, e_if, e_icmp, e_sw, e_sw0, e_sw1, e_get, e_put, e_ald, e_ast, e_aald, e_aast, e_copy, e_new, e_newa, e_anewa, e_min, e_abs, e_oinit, e_callI, e_callV, e_callS, e_iret, e_zret, e_lret, e_vret, e_tl1, e_tl0, e_tl2, e_tl3, z10, Bool.false_eq_true, e_argi, e_argr, e_argn, zld_c, zst_n, zst_c, zpick_n, zpick_c, List.drop_succ_cons, List.drop_zero, List.take_succ_cons, List.take_zero, List.length_cons, List.length_nil, List.reverse_cons, List.reverse_nil, List.nil_append, List.cons_append, List.append_nil, List.getElem?_cons_zero, List.getElem?_cons_succ, List.set_cons_zero, List.set_cons_succ, Nat.add_sub_cancel_left, Nat.sub_self, Nat.add_zero, Nat.zero_add, Nat.le_add_right, Nat.le_refl, true_and, and_true, va_rf, zok, Nat.add_left_cancel_iff, Nat.add_eq_left, Nat.left_eq_add, eq_self, if_true, if_false, not_false_eq_true, not_true_eq_false, false_implies, true_implies, Nat.reduceEqDiff, Nat.reduceAdd, Nat.reduceLT, Nat.reduceLeDiff, reduceIte, zB0, e0, N0, N1, N2, N3, N4, N5, N6, N7, N11, N12, N13, N14, N15, N16, N58, N59, N63, N64, N65, N112, e11, m0, k99, nI_ltI (show C.1 0 < 2 ^ 31 by omega) (show 99 < 2 ^ 31 by omega)]
  refine ⟨fun c0 => ?_, fun c0 => ?_⟩
  · rw [if_pos c0] at hP
    obtain ⟨_, old, pf, ho, p0, p1, _⟩ := id hpa
    simp only [e_cut, e_iload, e_aload, e_istore, e_astore, e_iinc, e_const, e_lconst, e_bin, e_bin0, e_un, e_ladd, e_dupi, e_dupr, e_dup2, e_pop, e_if, e_icmp, e_sw, e_sw0, e_sw1, e_get, e_put, e_ald, e_ast, e_aald, e_aast, e_copy, e_new, e_newa, e_anewa, e_min, e_abs, e_oinit, e_callI, e_callV, e_callS, e_iret, e_zret, e_lret, e_vret, e_tl1, e_tl0, e_tl2, e_tl3, z10, Bool.false_eq_true, e_argi, e_argr, e_argn, zld_c, zst_n, zst_c, zpick_n, zpick_c, List.drop_succ_cons, List.drop_zero, List.take_succ_cons, List.take_zero, List.length_cons, List.length_nil, List.reverse_cons, List.reverse_nil, List.nil_append, List.cons_append, List.append_nil, List.getElem?_cons_zero, List.getElem?_cons_succ, List.set_cons_zero, List.set_cons_succ, Nat.add_sub_cancel_left, Nat.sub_self, Nat.add_zero, Nat.zero_add, Nat.le_add_right, Nat.le_refl, true_and, and_true, va_rf, zok, Nat.add_left_cancel_iff, Nat.add_eq_left, Nat.left_eq_add, eq_self, if_true, if_false, not_false_eq_true, not_true_eq_false, false_implies, true_implies, Nat.reduceEqDiff, Nat.reduceAdd, Nat.reduceLT, Nat.reduceLeDiff, reduceIte, p0, N0, N1, N2, N3, N4, N5, N6, N7, N11, N12, N13, N14, N15, N16, N58, N59, N63, N64, N65, N112]
    refine ⟨16, 12, _, _, _, _, rfl, hpa, hmo, by omega, by omega, by omega, fun E1 hp1' hk1 => ?_⟩
    have hmo1 : zMo b cy E1 12 D.1 C.1 := hmo.congr (fun j _ _ => hk1 j (by omega))
    have e01 : E1 0 = zB0 b (nI (zkm I)) (nI S.1) tr := by rw [hk1 _ (by omega)]; exact e0
    simp only [e_cut, e_iload, e_aload, e_istore, e_astore, e_iinc, e_const, e_lconst, e_bin, e_bin0, e_un, e_ladd, e_dupi, e_dupr, e_dup2, e_pop, e_if, e_icmp, e_sw, e_sw0, e_sw1, e_get, e_put, e_ald, e_ast, e_aald, e_aast, e_copy, e_new, e_newa, e_anewa, e_min, e_abs, e_oinit, e_callI, e_callV, e_callS, e_iret, e_zret, e_lret, e_vret, e_tl1, e_tl0, e_tl2, e_tl3, z10, Bool.false_eq_true, e_argi, e_argr, e_argn, zld_c, zst_n, zst_c, zpick_n, zpick_c, List.drop_succ_cons, List.drop_zero, List.take_succ_cons, List.take_zero, List.length_cons, List.length_nil, List.reverse_cons, List.reverse_nil, List.nil_append, List.cons_append, List.append_nil, List.getElem?_cons_zero, List.getElem?_cons_succ, List.set_cons_zero, List.set_cons_succ, Nat.add_sub_cancel_left, Nat.sub_self, Nat.add_zero, Nat.zero_add, Nat.le_add_right, Nat.le_refl, true_and, and_true, va_rf, zok, Nat.add_left_cancel_iff, Nat.add_eq_left, Nat.left_eq_add, eq_self, if_true, if_false, not_false_eq_true, not_true_eq_false, false_implies, true_implies, Nat.reduceEqDiff, Nat.reduceAdd, Nat.reduceLT, Nat.reduceLeDiff, reduceIte, zB0, e01, N0, N1, N2, N3, N4, N5, N6, N7, N11, N12, N13, N14, N15, N16, N58, N59, N63, N64, N65, N112]
    refine ⟨_, _, _, 12, _, rfl, ⟨hR.congr (fun j _ => hk1 j (by omega)), hmo1, hmk, hi12, hN⟩, by omega, by omega, by omega, fun E2 hm2 hk2 => ?_⟩
    obtain ⟨_, nf, ng, nh, n0, n1, n2, n3, _⟩ := id hm2
    simp only [e_cut, e_iload, e_aload, e_istore, e_astore, e_iinc, e_const, e_lconst, e_bin, e_bin0, e_un, e_ladd, e_dupi, e_dupr, e_dup2, e_pop, e_if, e_icmp, e_sw, e_sw0, e_sw1, e_get, e_put, e_ald, e_ast, e_aald, e_aast, e_copy, e_new, e_newa, e_anewa, e_min, e_abs, e_oinit, e_callI, e_callV, e_callS, e_iret, e_zret, e_lret, e_vret, e_tl1, e_tl0, e_tl2, e_tl3, z10, Bool.false_eq_true, e_argi, e_argr, e_argn, zld_c, zst_n, zst_c, zpick_n, zpick_c, List.drop_succ_cons, List.drop_zero, List.take_succ_cons, List.take_zero, List.length_cons, List.length_nil, List.reverse_cons, List.reverse_nil, List.nil_append, List.cons_append, List.append_nil, List.getElem?_cons_zero, List.getElem?_cons_succ, List.set_cons_zero, List.set_cons_succ, Nat.add_sub_cancel_left, Nat.sub_self, Nat.add_zero, Nat.zero_add, Nat.le_add_right, Nat.le_refl, true_and, and_true, va_rf, zok, Nat.add_left_cancel_iff, Nat.add_eq_left, Nat.left_eq_add, eq_self, if_true, if_false, not_false_eq_true, not_true_eq_false, false_implies, true_implies, Nat.reduceEqDiff, Nat.reduceAdd, Nat.reduceLT, Nat.reduceLeDiff, reduceIte, n0, N0, N1, N2, N3, N4, N5, N6, N7, N11, N12, N13, N14, N15, N16, N58, N59, N63, N64, N65, N112, zride_lo.1]
    refine hP E2 (hbc.cur ⟨?_, hm2, ?_⟩ (fun j hj => ?_)) (fun j hj => ?_)
    · rw [hk2 _ (by omega), hk1 _ (by omega)]; exact e11
    · exact hp1'.congr (fun j _ _ => hk2 j (by omega))
    · rw [hk2 _ (by omega), hk1 _ (by omega)]
    · rw [hk2 _ (by omega), hk1 _ (by omega)]
  · rw [if_neg c0] at hP
    exact hP E hbc (fun _ _ => rfl)
set_option maxRecDepth 20000 in
theorem f_X5_rides_29 : Cond.fieldLink RX5 29 (TX5 3).1 (TX5 3).2.1 (TX5 3).2.2.1 ∈ wsX5_rides := by decide +kernel
set_option maxRecDepth 20000 in
theorem k_X5_rides_5 : ∀ w ∈ u_ws RX5 TX5 11, w ∈ wsX5_rides := fun _ h => List.mem_cons_of_mem _ (List.mem_append_left _ (List.mem_append_left _ (List.mem_append_left _ (List.mem_append_left _ (List.mem_append_right _ h)))))
set_option maxRecDepth 20000 in
theorem f_X5_rides_76 : Cond.fieldLink RX5 76 (TX0 0).1 (TX0 0).2.1 (TX0 0).2.2.1 ∈ wsX5_rides := by decide +kernel
set_option maxRecDepth 20000 in
theorem k_X5_rides_0 : ∀ w ∈ u_ws RX0 TX0 2, w ∈ wsX5_rides := fun _ h => List.mem_cons_of_mem _ (List.mem_append_left _ (List.mem_append_left _ (List.mem_append_left _ (List.mem_append_right _ h))))
set_option maxRecDepth 20000 in
theorem f_X5_rides_116 : Cond.fieldLink RX5 116 (TX1 0).1 (TX1 0).2.1 (TX1 0).2.2.1 ∈ wsX5_rides := by decide +kernel
set_option maxRecDepth 20000 in
theorem k_X5_rides_1 : ∀ w ∈ u_ws RX1 TX1 7, w ∈ wsX5_rides := fun _ h => List.mem_cons_of_mem _ (List.mem_append_left _ (List.mem_append_left _ (List.mem_append_right _ h)))
set_option maxRecDepth 20000 in
theorem f_X5_rides_119 : Cond.fieldLink RX5 119 (TX0 1).1 (TX0 1).2.1 (TX0 1).2.2.1 ∈ wsX5_rides := by decide +kernel
set_option maxRecDepth 100000 in
set_option maxHeartbeats 4000000 in
theorem S_X5_rides_0 {p : Program} {e : Env} {s : State} {m : MethodId} {args : Array Value} {below : List Frame} {meth : Method} {c : Code} {D : va_G} {cy : zY} {b n0 : Nat} {P : zPo} (la : Launch) (X : zX p la e (rm_X5_rides) s m args below meth c 2 D cy b n0 cX5_rides wsX5_rides RX5) (hr : meth.sig.returnType = (some .int)) (h_X2_push : zMet la yX2_push wsX2_push rm_X2_push 0 0 sp_X2_push) (h_X5_ride : zMet la yX5_ride wsX5_ride rm_X5_ride 0 0 sp_X5_ride) : zS p la e (rm_X5_rides) s m args below meth c (MQ below (zQ D b (n0 + 0) P) args s 0 0 (fun q => b ≤ q)) 2 D b n0 0 (B_X5_rides_0 b n0 cy P (zAt p la e (rm_X5_rides) s m args below meth c (MQ below (zQ D b (n0 + 0) P) args s 0 0 (fun q => b ≤ q)) 2 D b n0)) := by
  unfold B_X5_rides_0
  exact (s_aload_n X dX5_rides_0 rfl (s_get X dX5_rides_1 rfl k_X5_rides_5 (by decide) f_X5_rides_29 (s_get X dX5_rides_4 rfl k_X5_rides_0 (by decide) f_X5_rides_76 (s_astore_n X dX5_rides_7 rfl (by decide) (s_aload_n X dX5_rides_8 rfl (s_get X dX5_rides_9 rfl k_X5_rides_1 (by decide) f_X5_rides_116 (s_bipush X dX5_rides_12 (by decide) (s_icmp_lt X dX5_rides_14 (by decide) (s_aload_n X dX5_rides_20 rfl (s_get X dX5_rides_21 rfl k_X5_rides_5 (by decide) f_X5_rides_29 (s_get X dX5_rides_24 rfl k_X5_rides_0 (by decide) f_X5_rides_119 (s_aload_n X dX5_rides_27 rfl (s_callV X h_X2_push dX5_rides_28 rfl gX5_rides_X2_push rfl rfl rfl (by decide +kernel) ⟨by decide, by decide⟩ (s_aload_n X dX5_rides_31 rfl (s_aload_n X dX5_rides_32 rfl (s_callV X h_X5_ride dX5_rides_33 rfl gX5_rides_X5_ride rfl rfl rfl (by decide +kernel) ⟨by decide, by decide⟩ (s_aload_n X dX5_rides_36 rfl (s_get X dX5_rides_37 rfl k_X5_rides_1 (by decide) f_X5_rides_116 (s_iret X dX5_rides_40 hr))))))))))) (s_bipush X dX5_rides_17 (by decide) (s_iret X dX5_rides_19 hr))))))))))
theorem w_X5_rides (la : Launch) (h_X2_push : zMet la yX2_push wsX2_push rm_X2_push 0 0 sp_X2_push) (h_X5_ride : zMet la yX5_ride wsX5_ride rm_X5_ride 0 0 sp_X5_ride) (sp : zSp) (vc : zVC_X5_rides sp) : zMet la yX5_rides wsX5_rides (rm_X5_rides) 0 0 sp :=
  z_of (cc := cX5_rides) (maxL := 2) (ret := (some .int)) (by decide +kernel) rfl (fun p e s m args below meth c D cy b n as E P hsp X hr hin => by
    obtain ⟨h1, h2⟩ := vc b cy n as E P (zAt p la e (rm_X5_rides) s m args below meth c (MQ below (zQ D b (n + 0) P) args s 0 0 (fun q => b ≤ q)) 2 D b n) hsp
    exact ⟨h1, S_X5_rides_0 la X hr h_X2_push h_X5_ride _ _ _ _ _ h2⟩)

theorem m_X5_rides (la : Launch) : zMet la yX5_rides wsX5_rides rm_X5_rides 0 0 sp_X5_rides := w_X5_rides la (m_X2_push la) (m_X5_ride la) _ vc_X5_rides
def sp_X5_thinks : zSp := fun b cy as N E P => ∃ x y : Int32, zPX (op_thinks x y) [.int x, .int y] b cy as N E P
abbrev rm_X5_thinks : Room := { frames := 3, cells := 0, slots := 0, locals := 83 }
def B_X5_thinks_35 (b n0 : Nat) (cy : zY) (P : zPo) (A : Nat → zC) : zC :=
  z_const (-2) (z_iret 0 0 P)
def B_X5_thinks_0 (b n0 : Nat) (cy : zY) (P : zPo) (A : Nat → zC) : zC :=
  z_aload 0 (z_get b n0 5 3 (z_get b n0 0 0 (z_astore 3 (z_aload 0 (z_iload 1 (z_iload 2 (z_callV b n0 0 0 cy 5 2 0 0 sp_X5_isPair (z_if (fun x => x = 0) (z_const (-1) (z_iret 0 0 P)) (z_aload 3 (z_iload 1 (z_callV b n0 0 0 cy 1 1 0 0 sp_X1_isAboard (z_if (fun x => x = 0) (B_X5_thinks_35 b n0 cy P A) (z_aload 3 (z_iload 2 (z_callV b n0 0 0 cy 1 1 0 0 sp_X1_isAboard (z_if (fun x => x = 0) (B_X5_thinks_35 b n0 cy P A) (z_aload 0 (z_get b n0 5 3 (z_get b n0 0 1 (z_aload 3 (z_callV b n0 0 0 cy 2 1 0 0 sp_X2_push (z_aload 3 (z_iload 1 (z_iload 2 (z_callV b n0 0 0 cy 1 2 0 0 sp_X1_think (z_aload 3 (z_get b n0 1 2 (z_iret 0 0 P))))))))))))))))))))))))))))
def zVC_X5_thinks (sp : zSp) : Prop := ∀ (b : Nat) (cy : zY) (n : Nat) (as : List Value) (E : zE) (P : zPo) (A : Nat → zC), sp b cy as n E P → zgood as 4 ∧ B_X5_thinks_0 b n cy P A (lv_args 0 as) [] 0 0 E

set_option maxRecDepth 100000 in
set_option maxHeartbeats 4000000 in
theorem vc_X5_thinks : zVC_X5_thinks sp_X5_thinks := by
  intro b cy N as E P A hsp
  obtain ⟨x, y, K, ⟨T, D, C, I, S, tr⟩, rfl, hbc, hok, hK, hN, hP⟩ := hsp
  refine ⟨⟨Nat.le_of_ble_eq_true rfl, zg1 rfl (zg1 rfl (zg1 rfl (zg0)))⟩, ?_⟩
  obtain ⟨e0, hTx, ⟨seat, items, hTo⟩, hDr, hIm, hIs, hAh, hSn, hI0, hI1⟩ := id hbc
  have hp2 := hbc.p2 hok hN
  obtain ⟨hp1, e11⟩ := id hp2
  obtain ⟨hR, hmo, hmk, hi12, _⟩ := id hp1
  obtain ⟨hn1, mf, mg, mh, m0, m1, m2, m3, hmf, hmg, hmh⟩ := id hmo
  obtain ⟨_, tf, tg, th, t0, t1, t2, t3, htf, htg, hth⟩ := id hTo
  replace m1 : E 13 = _ := m1
  replace m2 : E 14 = _ := m2
  replace m3 : E 15 = _ := m3
  replace t1 : E 4 = _ := t1
  replace t2 : E 5 = _ := t2
  replace t3 : E 6 = _ := t3
  have hpa : zPa b cy E 16 D.1 C.2.1 C.2.2 := hIm.2.2
  have hlo := hok.2.1
  have N0 : 0 < N := by omega
  have N1 : 1 < N := by omega
  have N2 : 2 < N := by omega
  have N3 : 3 < N := by omega
  have N4 : 4 < N := by omega
  have N5 : 5 < N := by omega
  have N6 : 6 < N := by omega
  have N7 : 7 < N := by omega
  have N11 : 11 < N := by omega
  have N12 : 12 < N := by omega
  have N13 : 13 < N := by omega
  have N14 : 14 < N := by omega
  have N15 : 15 < N := by omega
  have N16 : 16 < N := by omega
  have N58 : 58 < N := by omega
  have N59 : 59 < N := by omega
  have N63 : 63 < N := by omega
  have N64 : 64 < N := by omega
  have N65 : 65 < N := by omega
  have N112 : 112 < N := by omega
  simp only [op_thinks] at hP
  simp only [B_X5_thinks_0, B_X5_thinks_35, e_cut, e_iload, e_aload, e_istore, e_astore, e_iinc, e_const, e_lconst, e_bin, e_bin0, e_un, e_ladd, e_dupi, e_dupr, e_dup2, e_pop, e_if, e_icmp, e_sw, e_sw0, e_sw1, e_get, e_put, e_ald, e_ast, e_aald, e_aast, e_copy, e_new, e_newa, e_anewa, e_min, e_abs, e_oinit, e_callI, e_callV, e_callS, e_iret, e_zret, e_lret, e_vret, e_tl1, e_tl0, e_tl2, e_tl3, z10, Bool.false_eq_true, e_argi, e_argr, e_argn, zld_c, zst_n, zst_c, zpick_n, zpick_c, List.drop_succ_cons, List.drop_zero, List.take_succ_cons, List.take_zero, List.length_cons, List.length_nil, List.reverse_cons, List.reverse_nil, List.nil_append, List.cons_append, List.append_nil, List.getElem?_cons_zero, List.getElem?_cons_succ, List.set_cons_zero, List.set_cons_succ, Nat.add_sub_cancel_left, Nat.sub_self, Nat.add_zero, Nat.zero_add, Nat.le_add_right, Nat.le_refl, true_and, and_true, va_rf, zok, Nat.add_left_cancel_iff, Nat.add_eq_left, Nat.left_eq_add, eq_self, if_true, if_false, not_false_eq_true, not_true_eq_false, false_implies, true_implies, Nat.reduceEqDiff, Nat.reduceAdd, Nat.reduceLT, Nat.reduceLeDiff, reduceIte, zB0, e0, N0, N1, N2, N3, N4, N5, N6, N7, N11, N12, N13, N14, N15, N16, N58, N59, N63, N64, N65, N112, e11]
  refine ⟨_, _, _, x, y, rfl, hR, hN, ?_⟩
  by_cases q1 : zisP D.1 x y = true
  · obtain ⟨r, q, hr, hq, hne, rfl, rfl⟩ := zisP_t q1 hn1
    simp only [q1, if_true, zcl_i (show r < 2 ^ 31 by omega), zcl_i (show q < 2 ^ 31 by omega)] at hP
    simp only [e_cut, e_iload, e_aload, e_istore, e_astore, e_iinc, e_const, e_lconst, e_bin, e_bin0, e_un, e_ladd, e_dupi, e_dupr, e_dup2, e_pop, e_if, e_icmp, e_sw, e_sw0, e_sw1, e_get, e_put, e_ald, e_ast, e_aald, e_aast, e_copy, e_new, e_newa, e_anewa, e_min, e_abs, e_oinit, e_callI, e_callV, e_callS, e_iret, e_zret, e_lret, e_vret, e_tl1, e_tl0, e_tl2, e_tl3, z10, Bool.false_eq_true, e_argi, e_argr, e_argn, zld_c, zst_n, zst_c, zpick_n, zpick_c, List.drop_succ_cons, List.drop_zero, List.take_succ_cons, List.take_zero, List.length_cons, List.length_nil, List.reverse_cons, List.reverse_nil, List.nil_append, List.cons_append, List.append_nil, List.getElem?_cons_zero, List.getElem?_cons_succ, List.set_cons_zero, List.set_cons_succ, Nat.add_sub_cancel_left, Nat.sub_self, Nat.add_zero, Nat.zero_add, Nat.le_add_right, Nat.le_refl, true_and, and_true, va_rf, zok, Nat.add_left_cancel_iff, Nat.add_eq_left, Nat.left_eq_add, eq_self, if_true, if_false, not_false_eq_true, not_true_eq_false, false_implies, true_implies, Nat.reduceEqDiff, Nat.reduceAdd, Nat.reduceLT, Nat.reduceLeDiff, reduceIte, q1, m0, N0, N1, N2, N3, N4, N5, N6, N7, N11, N12, N13, N14, N15, N16, N58, N59, N63, N64, N65, N112]
    refine ⟨12, r, _, _, rfl, hmo, hi12, by omega, hmk.l64, ?_⟩
    by_cases q2 : (C.1 1).testBit r = true
    · simp only [e_cut, e_iload, e_aload, e_istore, e_astore, e_iinc, e_const, e_lconst, e_bin, e_bin0, e_un, e_ladd, e_dupi, e_dupr, e_dup2, e_pop, e_if, e_icmp, e_sw, e_sw0, e_sw1, e_get, e_put, e_ald, e_ast, e_aald, e_aast, e_copy, e_new, e_newa, e_anewa, e_min, e_abs, e_oinit, e_callI, e_callV, e_callS, e_iret, e_zret, e_lret, e_vret, e_tl1, e_tl0, e_tl2, e_tl3, z10, Bool.false_eq_true, e_argi, e_argr, e_argn, zld_c, zst_n, zst_c, zpick_n, zpick_c, List.drop_succ_cons, List.drop_zero, List.take_succ_cons, List.take_zero, List.length_cons, List.length_nil, List.reverse_cons, List.reverse_nil, List.nil_append, List.cons_append, List.append_nil, List.getElem?_cons_zero, List.getElem?_cons_succ, List.set_cons_zero, List.set_cons_succ, Nat.add_sub_cancel_left, Nat.sub_self, Nat.add_zero, Nat.zero_add, Nat.le_add_right, Nat.le_refl, true_and, and_true, va_rf, zok, Nat.add_left_cancel_iff, Nat.add_eq_left, Nat.left_eq_add, eq_self, if_true, if_false, not_false_eq_true, not_true_eq_false, false_implies, true_implies, Nat.reduceEqDiff, Nat.reduceAdd, Nat.reduceLT, Nat.reduceLeDiff, reduceIte, q2, m0, N0, N1, N2, N3, N4, N5, N6, N7, N11, N12, N13, N14, N15, N16, N58, N59, N63, N64, N65, N112]
      refine ⟨12, q, _, _, rfl, hmo, hi12, by omega, hmk.l64, ?_⟩
      by_cases q3 : (C.1 1).testBit q = true
      · obtain ⟨_, old, pf, ho, p0, p1, _⟩ := id hpa
        rw [if_pos ⟨q2, q3⟩] at hP
        simp only [e_cut, e_iload, e_aload, e_istore, e_astore, e_iinc, e_const, e_lconst, e_bin, e_bin0, e_un, e_ladd, e_dupi, e_dupr, e_dup2, e_pop, e_if, e_icmp, e_sw, e_sw0, e_sw1, e_get, e_put, e_ald, e_ast, e_aald, e_aast, e_copy, e_new, e_newa, e_anewa, e_min, e_abs, e_oinit, e_callI, e_callV, e_callS, e_iret, e_zret, e_lret, e_vret, e_tl1, e_tl0, e_tl2, e_tl3, z10, Bool.false_eq_true, e_argi, e_argr, e_argn, zld_c, zst_n, zst_c, zpick_n, zpick_c, List.drop_succ_cons, List.drop_zero, List.take_succ_cons, List.take_zero, List.length_cons, List.length_nil, List.reverse_cons, List.reverse_nil, List.nil_append, List.cons_append, List.append_nil, List.getElem?_cons_zero, List.getElem?_cons_succ, List.set_cons_zero, List.set_cons_succ, Nat.add_sub_cancel_left, Nat.sub_self, Nat.add_zero, Nat.zero_add, Nat.le_add_right, Nat.le_refl, true_and, and_true, va_rf, zok, Nat.add_left_cancel_iff, Nat.add_eq_left, Nat.left_eq_add, eq_self, if_true, if_false, not_false_eq_true, not_true_eq_false, false_implies, true_implies, Nat.reduceEqDiff, Nat.reduceAdd, Nat.reduceLT, Nat.reduceLeDiff, reduceIte, q3, zB0, e0, e11, N0, N1, N2, N3, N4, N5, N6, N7, N11, N12, N13, N14, N15, N16, N58, N59, N63, N64, N65, N112, p0]
        refine ⟨16, 12, _, _, _, _, rfl, hpa, hmo, by omega, by omega, by omega, fun E1 hp1' hk1 => ?_⟩
        have hmo1 : zMo b cy E1 12 D.1 C.1 := hmo.congr (fun j _ _ => hk1 j (by omega))
        obtain ⟨_, kf, kg, kh, k0, _⟩ := id hmo1
        simp only [e_cut, e_iload, e_aload, e_istore, e_astore, e_iinc, e_const, e_lconst, e_bin, e_bin0, e_un, e_ladd, e_dupi, e_dupr, e_dup2, e_pop, e_if, e_icmp, e_sw, e_sw0, e_sw1, e_get, e_put, e_ald, e_ast, e_aald, e_aast, e_copy, e_new, e_newa, e_anewa, e_min, e_abs, e_oinit, e_callI, e_callV, e_callS, e_iret, e_zret, e_lret, e_vret, e_tl1, e_tl0, e_tl2, e_tl3, z10, Bool.false_eq_true, e_argi, e_argr, e_argn, zld_c, zst_n, zst_c, zpick_n, zpick_c, List.drop_succ_cons, List.drop_zero, List.take_succ_cons, List.take_zero, List.length_cons, List.length_nil, List.reverse_cons, List.reverse_nil, List.nil_append, List.cons_append, List.append_nil, List.getElem?_cons_zero, List.getElem?_cons_succ, List.set_cons_zero, List.set_cons_succ, Nat.add_sub_cancel_left, Nat.sub_self, Nat.add_zero, Nat.zero_add, Nat.le_add_right, Nat.le_refl, true_and, and_true, va_rf, zok, Nat.add_left_cancel_iff, Nat.add_eq_left, Nat.left_eq_add, eq_self, if_true, if_false, not_false_eq_true, not_true_eq_false, false_implies, true_implies, Nat.reduceEqDiff, Nat.reduceAdd, Nat.reduceLT, Nat.reduceLeDiff, reduceIte, k0, N0, N1, N2, N3, N4, N5, N6, N7, N11, N12, N13, N14, N15, N16, N58, N59, N63, N64, N65, N112]
        refine ⟨12, r, q, _, _, rfl, hmo1, by omega, by omega, by omega, fun E2 hm2 hk2 => ?_⟩
        obtain ⟨_, nf, ng, nh, n0, n1, n2, n3, _⟩ := id hm2
        simp only [e_cut, e_iload, e_aload, e_istore, e_astore, e_iinc, e_const, e_lconst, e_bin, e_bin0, e_un, e_ladd, e_dupi, e_dupr, e_dup2, e_pop, e_if, e_icmp, e_sw, e_sw0, e_sw1, e_get, e_put, e_ald, e_ast, e_aald, e_aast, e_copy, e_new, e_newa, e_anewa, e_min, e_abs, e_oinit, e_callI, e_callV, e_callS, e_iret, e_zret, e_lret, e_vret, e_tl1, e_tl0, e_tl2, e_tl3, z10, Bool.false_eq_true, e_argi, e_argr, e_argn, zld_c, zst_n, zst_c, zpick_n, zpick_c, List.drop_succ_cons, List.drop_zero, List.take_succ_cons, List.take_zero, List.length_cons, List.length_nil, List.reverse_cons, List.reverse_nil, List.nil_append, List.cons_append, List.append_nil, List.getElem?_cons_zero, List.getElem?_cons_succ, List.set_cons_zero, List.set_cons_succ, Nat.add_sub_cancel_left, Nat.sub_self, Nat.add_zero, Nat.zero_add, Nat.le_add_right, Nat.le_refl, true_and, and_true, va_rf, zok, Nat.add_left_cancel_iff, Nat.add_eq_left, Nat.left_eq_add, eq_self, if_true, if_false, not_false_eq_true, not_true_eq_false, false_implies, true_implies, Nat.reduceEqDiff, Nat.reduceAdd, Nat.reduceLT, Nat.reduceLeDiff, reduceIte, n0, N0, N1, N2, N3, N4, N5, N6, N7, N11, N12, N13, N14, N15, N16, N58, N59, N63, N64, N65, N112, zthink_2]
        refine hP E2 (hbc.cur ⟨?_, hm2, ?_⟩ (fun j hj => ?_)) (fun j hj => ?_)
        · rw [hk2 _ (by omega), hk1 _ (by omega)]; exact e11
        · exact hp1'.congr (fun j _ _ => hk2 j (by omega))
        · rw [hk2 _ (by omega), hk1 _ (by omega)]
        · rw [hk2 _ (by omega), hk1 _ (by omega)]
      · rw [if_neg (fun h => q3 h.2)] at hP
        simp only [e_cut, e_iload, e_aload, e_istore, e_astore, e_iinc, e_const, e_lconst, e_bin, e_bin0, e_un, e_ladd, e_dupi, e_dupr, e_dup2, e_pop, e_if, e_icmp, e_sw, e_sw0, e_sw1, e_get, e_put, e_ald, e_ast, e_aald, e_aast, e_copy, e_new, e_newa, e_anewa, e_min, e_abs, e_oinit, e_callI, e_callV, e_callS, e_iret, e_zret, e_lret, e_vret, e_tl1, e_tl0, e_tl2, e_tl3, z10, Bool.false_eq_true, e_argi, e_argr, e_argn, zld_c, zst_n, zst_c, zpick_n, zpick_c, List.drop_succ_cons, List.drop_zero, List.take_succ_cons, List.take_zero, List.length_cons, List.length_nil, List.reverse_cons, List.reverse_nil, List.nil_append, List.cons_append, List.append_nil, List.getElem?_cons_zero, List.getElem?_cons_succ, List.set_cons_zero, List.set_cons_succ, Nat.add_sub_cancel_left, Nat.sub_self, Nat.add_zero, Nat.zero_add, Nat.le_add_right, Nat.le_refl, true_and, and_true, va_rf, zok, Nat.add_left_cancel_iff, Nat.add_eq_left, Nat.left_eq_add, eq_self, if_true, if_false, not_false_eq_true, not_true_eq_false, false_implies, true_implies, Nat.reduceEqDiff, Nat.reduceAdd, Nat.reduceLT, Nat.reduceLeDiff, reduceIte, q3, B_X5_thinks_0, B_X5_thinks_35]
        exact hP E hbc (fun _ _ => rfl)
    · rw [if_neg (fun h => q2 h.1)] at hP
      simp only [e_cut, e_iload, e_aload, e_istore, e_astore, e_iinc, e_const, e_lconst, e_bin, e_bin0, e_un, e_ladd, e_dupi, e_dupr, e_dup2, e_pop, e_if, e_icmp, e_sw, e_sw0, e_sw1, e_get, e_put, e_ald, e_ast, e_aald, e_aast, e_copy, e_new, e_newa, e_anewa, e_min, e_abs, e_oinit, e_callI, e_callV, e_callS, e_iret, e_zret, e_lret, e_vret, e_tl1, e_tl0, e_tl2, e_tl3, z10, Bool.false_eq_true, e_argi, e_argr, e_argn, zld_c, zst_n, zst_c, zpick_n, zpick_c, List.drop_succ_cons, List.drop_zero, List.take_succ_cons, List.take_zero, List.length_cons, List.length_nil, List.reverse_cons, List.reverse_nil, List.nil_append, List.cons_append, List.append_nil, List.getElem?_cons_zero, List.getElem?_cons_succ, List.set_cons_zero, List.set_cons_succ, Nat.add_sub_cancel_left, Nat.sub_self, Nat.add_zero, Nat.zero_add, Nat.le_add_right, Nat.le_refl, true_and, and_true, va_rf, zok, Nat.add_left_cancel_iff, Nat.add_eq_left, Nat.left_eq_add, eq_self, if_true, if_false, not_false_eq_true, not_true_eq_false, false_implies, true_implies, Nat.reduceEqDiff, Nat.reduceAdd, Nat.reduceLT, Nat.reduceLeDiff, reduceIte, q2, B_X5_thinks_0, B_X5_thinks_35]
      exact hP E hbc (fun _ _ => rfl)
  · simp only [q1] at hP
    simp only [e_cut, e_iload, e_aload, e_istore, e_astore, e_iinc, e_const, e_lconst, e_bin, e_bin0, e_un, e_ladd, e_dupi, e_dupr, e_dup2, e_pop, e_if, e_icmp, e_sw, e_sw0, e_sw1, e_get, e_put, e_ald, e_ast, e_aald, e_aast, e_copy, e_new, e_newa, e_anewa, e_min, e_abs, e_oinit, e_callI, e_callV, e_callS, e_iret, e_zret, e_lret, e_vret, e_tl1, e_tl0, e_tl2, e_tl3, z10, Bool.false_eq_true, e_argi, e_argr, e_argn, zld_c, zst_n, zst_c, zpick_n, zpick_c, List.drop_succ_cons, List.drop_zero, List.take_succ_cons, List.take_zero, List.length_cons, List.length_nil, List.reverse_cons, List.reverse_nil, List.nil_append, List.cons_append, List.append_nil, List.getElem?_cons_zero, List.getElem?_cons_succ, List.set_cons_zero, List.set_cons_succ, Nat.add_sub_cancel_left, Nat.sub_self, Nat.add_zero, Nat.zero_add, Nat.le_add_right, Nat.le_refl, true_and, and_true, va_rf, zok, Nat.add_left_cancel_iff, Nat.add_eq_left, Nat.left_eq_add, eq_self, if_true, if_false, not_false_eq_true, not_true_eq_false, false_implies, true_implies, Nat.reduceEqDiff, Nat.reduceAdd, Nat.reduceLT, Nat.reduceLeDiff, reduceIte, q1]
    exact hP E hbc (fun _ _ => rfl)
set_option maxRecDepth 20000 in
theorem f_X5_thinks_29 : Cond.fieldLink RX5 29 (TX5 3).1 (TX5 3).2.1 (TX5 3).2.2.1 ∈ wsX5_thinks := by decide +kernel
set_option maxRecDepth 20000 in
theorem k_X5_thinks_5 : ∀ w ∈ u_ws RX5 TX5 11, w ∈ wsX5_thinks := fun _ h => List.mem_cons_of_mem _ (List.mem_append_left _ (List.mem_append_left _ (List.mem_append_left _ (List.mem_append_left _ (List.mem_append_right _ h)))))
set_option maxRecDepth 20000 in
theorem f_X5_thinks_76 : Cond.fieldLink RX5 76 (TX0 0).1 (TX0 0).2.1 (TX0 0).2.2.1 ∈ wsX5_thinks := by decide +kernel
set_option maxRecDepth 20000 in
theorem k_X5_thinks_0 : ∀ w ∈ u_ws RX0 TX0 2, w ∈ wsX5_thinks := fun _ h => List.mem_cons_of_mem _ (List.mem_append_left _ (List.mem_append_left _ (List.mem_append_left _ (List.mem_append_right _ h))))
set_option maxRecDepth 20000 in
theorem f_X5_thinks_119 : Cond.fieldLink RX5 119 (TX0 1).1 (TX0 1).2.1 (TX0 1).2.2.1 ∈ wsX5_thinks := by decide +kernel
set_option maxRecDepth 20000 in
theorem f_X5_thinks_136 : Cond.fieldLink RX5 136 (TX1 2).1 (TX1 2).2.1 (TX1 2).2.2.1 ∈ wsX5_thinks := by decide +kernel
set_option maxRecDepth 20000 in
theorem k_X5_thinks_1 : ∀ w ∈ u_ws RX1 TX1 7, w ∈ wsX5_thinks := fun _ h => List.mem_cons_of_mem _ (List.mem_append_left _ (List.mem_append_left _ (List.mem_append_right _ h)))
set_option maxRecDepth 100000 in
set_option maxHeartbeats 4000000 in
theorem S_X5_thinks_35 {p : Program} {e : Env} {s : State} {m : MethodId} {args : Array Value} {below : List Frame} {meth : Method} {c : Code} {D : va_G} {cy : zY} {b n0 : Nat} {P : zPo} (la : Launch) (X : zX p la e (rm_X5_thinks) s m args below meth c 4 D cy b n0 cX5_thinks wsX5_thinks RX5) (hr : meth.sig.returnType = (some .int)) (h_X1_isAboard : zMet la yX1_isAboard wsX1_isAboard rm_X1_isAboard 0 0 sp_X1_isAboard) (h_X1_think : zMet la yX1_think wsX1_think rm_X1_think 0 0 sp_X1_think) (h_X2_push : zMet la yX2_push wsX2_push rm_X2_push 0 0 sp_X2_push) (h_X5_isPair : zMet la yX5_isPair wsX5_isPair rm_X5_isPair 0 0 sp_X5_isPair) : zS p la e (rm_X5_thinks) s m args below meth c (MQ below (zQ D b (n0 + 0) P) args s 0 0 (fun q => b ≤ q)) 4 D b n0 35 (B_X5_thinks_35 b n0 cy P (zAt p la e (rm_X5_thinks) s m args below meth c (MQ below (zQ D b (n0 + 0) P) args s 0 0 (fun q => b ≤ q)) 4 D b n0)) := by
  unfold B_X5_thinks_35
  exact (s_bipush X dX5_thinks_35 (by decide) (s_iret X dX5_thinks_37 hr))
set_option maxRecDepth 100000 in
set_option maxHeartbeats 4000000 in
theorem S_X5_thinks_0 {p : Program} {e : Env} {s : State} {m : MethodId} {args : Array Value} {below : List Frame} {meth : Method} {c : Code} {D : va_G} {cy : zY} {b n0 : Nat} {P : zPo} (la : Launch) (X : zX p la e (rm_X5_thinks) s m args below meth c 4 D cy b n0 cX5_thinks wsX5_thinks RX5) (hr : meth.sig.returnType = (some .int)) (h_X1_isAboard : zMet la yX1_isAboard wsX1_isAboard rm_X1_isAboard 0 0 sp_X1_isAboard) (h_X1_think : zMet la yX1_think wsX1_think rm_X1_think 0 0 sp_X1_think) (h_X2_push : zMet la yX2_push wsX2_push rm_X2_push 0 0 sp_X2_push) (h_X5_isPair : zMet la yX5_isPair wsX5_isPair rm_X5_isPair 0 0 sp_X5_isPair) : zS p la e (rm_X5_thinks) s m args below meth c (MQ below (zQ D b (n0 + 0) P) args s 0 0 (fun q => b ≤ q)) 4 D b n0 0 (B_X5_thinks_0 b n0 cy P (zAt p la e (rm_X5_thinks) s m args below meth c (MQ below (zQ D b (n0 + 0) P) args s 0 0 (fun q => b ≤ q)) 4 D b n0)) := by
  unfold B_X5_thinks_0
  exact (s_aload_n X dX5_thinks_0 rfl (s_get X dX5_thinks_1 rfl k_X5_thinks_5 (by decide) f_X5_thinks_29 (s_get X dX5_thinks_4 rfl k_X5_thinks_0 (by decide) f_X5_thinks_76 (s_astore_n X dX5_thinks_7 rfl (by decide) (s_aload_n X dX5_thinks_8 rfl (s_iload_n X dX5_thinks_9 rfl (s_iload_n X dX5_thinks_10 rfl (s_callV X h_X5_isPair dX5_thinks_11 rfl gX5_thinks_X5_isPair rfl rfl rfl (by decide +kernel) ⟨by decide, by decide⟩ (s_if_ne X dX5_thinks_14 (by decide) (s_aload_n X dX5_thinks_19 rfl (s_iload_n X dX5_thinks_20 rfl (s_callV X h_X1_isAboard dX5_thinks_21 rfl gX5_thinks_X1_isAboard rfl rfl rfl (by decide +kernel) ⟨by decide, by decide⟩ (s_if_eq X dX5_thinks_24 (by decide) (S_X5_thinks_35 la X hr h_X1_isAboard h_X1_think h_X2_push h_X5_isPair) (s_aload_n X dX5_thinks_27 rfl (s_iload_n X dX5_thinks_28 rfl (s_callV X h_X1_isAboard dX5_thinks_29 rfl gX5_thinks_X1_isAboard rfl rfl rfl (by decide +kernel) ⟨by decide, by decide⟩ (s_if_ne X dX5_thinks_32 (by decide) (s_aload_n X dX5_thinks_38 rfl (s_get X dX5_thinks_39 rfl k_X5_thinks_5 (by decide) f_X5_thinks_29 (s_get X dX5_thinks_42 rfl k_X5_thinks_0 (by decide) f_X5_thinks_119 (s_aload_n X dX5_thinks_45 rfl (s_callV X h_X2_push dX5_thinks_46 rfl gX5_thinks_X2_push rfl rfl rfl (by decide +kernel) ⟨by decide, by decide⟩ (s_aload_n X dX5_thinks_49 rfl (s_iload_n X dX5_thinks_50 rfl (s_iload_n X dX5_thinks_51 rfl (s_callV X h_X1_think dX5_thinks_52 rfl gX5_thinks_X1_think rfl rfl rfl (by decide +kernel) ⟨by decide, by decide⟩ (s_aload_n X dX5_thinks_55 rfl (s_get X dX5_thinks_56 rfl k_X5_thinks_1 (by decide) f_X5_thinks_136 (s_iret X dX5_thinks_59 hr)))))))))))) (S_X5_thinks_35 la X hr h_X1_isAboard h_X1_think h_X2_push h_X5_isPair))))))))) (s_iconst X dX5_thinks_17 (by decide) (s_iret X dX5_thinks_18 hr)))))))))))
theorem w_X5_thinks (la : Launch) (h_X1_isAboard : zMet la yX1_isAboard wsX1_isAboard rm_X1_isAboard 0 0 sp_X1_isAboard) (h_X1_think : zMet la yX1_think wsX1_think rm_X1_think 0 0 sp_X1_think) (h_X2_push : zMet la yX2_push wsX2_push rm_X2_push 0 0 sp_X2_push) (h_X5_isPair : zMet la yX5_isPair wsX5_isPair rm_X5_isPair 0 0 sp_X5_isPair) (sp : zSp) (vc : zVC_X5_thinks sp) : zMet la yX5_thinks wsX5_thinks (rm_X5_thinks) 0 0 sp :=
  z_of (cc := cX5_thinks) (maxL := 4) (ret := (some .int)) (by decide +kernel) rfl (fun p e s m args below meth c D cy b n as E P hsp X hr hin => by
    obtain ⟨h1, h2⟩ := vc b cy n as E P (zAt p la e (rm_X5_thinks) s m args below meth c (MQ below (zQ D b (n + 0) P) args s 0 0 (fun q => b ≤ q)) 4 D b n) hsp
    exact ⟨h1, S_X5_thinks_0 la X hr h_X1_isAboard h_X1_think h_X2_push h_X5_isPair _ _ _ _ _ h2⟩)

theorem m_X5_thinks (la : Launch) : zMet la yX5_thinks wsX5_thinks rm_X5_thinks 0 0 sp_X5_thinks := w_X5_thinks la (m_X1_isAboard la) (m_X1_think la) (m_X2_push la) (m_X5_isPair la) _ vc_X5_thinks

