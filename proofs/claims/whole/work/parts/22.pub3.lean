def sp_X5_clear : zSp := fun b cy as N E P => zPX op_clear [] b cy as N E P
abbrev rm_X5_clear : Room := { frames := 1, cells := 0, slots := 0, locals := 40 }
def B_X5_clear_0 (b n0 : Nat) (cy : zY) (P : zPo) (A : Nat → zC) : zC :=
  z_aload 0 (z_get b n0 5 0 (z_get b n0 3 0 (z_istore 1 (z_aload 0 (z_get b n0 5 0 (z_const (0) (z_put b n0 3 0 0 (z_iload 1 (z_iret 0 0 P)))))))))
def zVC_X5_clear (sp : zSp) : Prop := ∀ (b : Nat) (cy : zY) (n : Nat) (as : List Value) (E : zE) (P : zPo) (A : Nat → zC), sp b cy as n E P → zgood as 2 ∧ B_X5_clear_0 b n cy P A (lv_args 0 as) [] 0 0 E

theorem zBC.txt {b : Nat} {cy : zY} {E : zE} {T T' : zT} {D : zD} {C : zCar} {I : zIg} {S : zSe} {tr : Int64} (h : zBC b cy E (T, D, C, I, S, tr)) {E' : zE} (hT : zTx b cy E' T') (hE : ∀ j, j < 1 ∨ 2 < j → E' j = E j) : zBC b cy E' (T', D, C, I, S, tr) := by
  obtain ⟨h0, h1, ⟨seat, items, h2⟩, h3, h4, ⟨f, h5, h6, h7⟩, h8, h9, h10, h11⟩ := h
  exact ⟨by rw [hE _ (by omega)]; exact h0, hT, ⟨seat, items, h2.congr (fun j _ _ => hE j (by omega))⟩, h3.congr (fun j _ _ => hE j (by omega)), h4.congr (fun j _ _ => hE j (by omega)), ⟨f, by rw [hE _ (by omega)]; exact h5, h6, h7⟩, h8.congr (fun j _ _ => hE j (by omega)), h9.congr (hE _ (by omega)) (hE _ (by omega)) (hE _ (by omega)), h10.congr (fun j _ _ => hE j (by omega)), h11.congr (fun j _ _ => hE j (by omega))⟩
set_option maxRecDepth 100000 in
set_option maxHeartbeats 4000000 in
theorem vc_X5_clear : zVC_X5_clear sp_X5_clear := by
  intro b cy N as E P A hsp
  obtain ⟨K, ⟨T, D, C, I, S, tr⟩, rfl, hbc, hok, hK, hN, hP⟩ := hsp
  refine ⟨⟨Nat.le_of_ble_eq_true rfl, zg1 rfl (zg0)⟩, ?_⟩
  obtain ⟨e0, hTx, ⟨seat, items, hTo⟩, hDr, hIm, hIs, hAh, hSn, hI0, hI1⟩ := id hbc
  have hp2 := hbc.p2 hok hN
  obtain ⟨hp1, e11⟩ := id hp2
  obtain ⟨hR, hmo, hmk, hi12, _⟩ := id hp1
  obtain ⟨hn1, mf, mg, mh, m0, m1, m2, m3, hmf, hmg, hmh⟩ := id hmo
  obtain ⟨_, tf, tg, th, t0, t1, t2, t3, htf, htg, hth⟩ := id hTo
  replace m1 : E 13 = _ := m1
  replace m2 : E 14 = _ := m2
  replace m3 : E 15 = _ := m3
  replace t1 : E 4 = _ := t1
  replace t2 : E 5 = _ := t2
  replace t3 : E 6 = _ := t3
  have hpa : zPa b cy E 16 D.1 C.2.1 C.2.2 := hIm.2.2
  have hlo := hok.2.1
  have N0 : 0 < N := by omega
  have N1 : 1 < N := by omega
  have N2 : 2 < N := by omega
  have N3 : 3 < N := by omega
  have N4 : 4 < N := by omega
  have N5 : 5 < N := by omega
  have N6 : 6 < N := by omega
  have N7 : 7 < N := by omega
  have N11 : 11 < N := by omega
  have N12 : 12 < N := by omega
  have N13 : 13 < N := by omega
  have N14 : 14 < N := by omega
  have N15 : 15 < N := by omega
  have N16 : 16 < N := by omega
  have N58 : 58 < N := by omega
  have N59 : 59 < N := by omega
  have N63 : 63 < N := by omega
  have N64 : 64 < N := by omega
  have N65 : 65 < N := by omega
  have N112 : 112 < N := by omega
  obtain ⟨hT0, s2, s3, s4, s5, s6, xf, x1, x2, x3⟩ := hTx
  simp only [op_clear] at hP
  simp only [B_X5_clear_0, e_cut, e_iload, e_aload, e_istore, e_astore, e_iinc, e_const, e_lconst, e_bin, e_bin0, e_un, e_ladd, e_dupi, e_dupr, e_dup2, e_pop, e_if, e_icmp, e_sw, e_sw0, e_sw1, e_get, e_put, e_ald, e_ast, e_aald, e_aast, e_copy, e_new, e_newa, e_anewa, e_min, e_abs, e_oinit, e_callI, e_callV, e_callS, e_iret, e_zret, e_lret, e_vret, e_tl1, e_tl0, e_tl2, e_tl3, z10, Bool.false_eq_true, e_argi, e_argr, e_argn, zld_c, zst_n, zst_c, zpick_n, zpick_c, List.drop_succ_cons, List.drop_zero, List.take_succ_cons, List.take_zero, List.length_cons, List.length_nil, List.reverse_cons, List.reverse_nil, List.nil_append, List.cons_append, List.append_nil, List.getElem?_cons_zero, List.getElem?_cons_succ, List.set_cons_zero, List.set_cons_succ, Nat.add_sub_cancel_left, Nat.sub_self, Nat.add_zero, Nat.zero_add, Nat.le_add_right, Nat.le_refl, true_and, and_true, va_rf, zok, Nat.add_left_cancel_iff, Nat.add_eq_left, Nat.left_eq_add, eq_self, if_true, if_false, not_false_eq_true, not_true_eq_false, false_implies, true_implies, Nat.reduceEqDiff, Nat.reduceAdd, Nat.reduceLT, Nat.reduceLeDiff, reduceIte, zB0, e0, N0, N1, N2, N3, N4, N5, N6, N7, N11, N12, N13, N14, N15, N16, N58, N59, N63, N64, N65, N112, x1]
  refine hP _ (hbc.txt ⟨by show 0 ≤ 120; omega, s2, s3, s4, s5, s6, xf, by simp [e_up, nI_0], by simp [e_up, x2], fun j hj => absurd hj (Nat.not_lt_zero _)⟩ (fun j hj => by simp only [e_up]; rw [if_neg (by omega)])) (fun j hj => by simp only [e_up]; rw [if_neg (by omega)])
set_option maxRecDepth 20000 in
theorem f_X5_clear_12 : Cond.fieldLink RX5 12 (TX5 0).1 (TX5 0).2.1 (TX5 0).2.2.1 ∈ wsX5_clear := by decide +kernel
set_option maxRecDepth 20000 in
theorem k_X5_clear_5 : ∀ w ∈ u_ws RX5 TX5 11, w ∈ wsX5_clear := fun _ h => List.mem_cons_of_mem _ (List.mem_append_left _ (List.mem_append_right _ h))
set_option maxRecDepth 20000 in
theorem f_X5_clear_58 : Cond.fieldLink RX5 58 (TX3 0).1 (TX3 0).2.1 (TX3 0).2.2.1 ∈ wsX5_clear := by decide +kernel
set_option maxRecDepth 20000 in
theorem k_X5_clear_3 : ∀ w ∈ u_ws RX3 TX3 7, w ∈ wsX5_clear := fun _ h => List.mem_cons_of_mem _ (List.mem_append_right _ h)
set_option maxRecDepth 100000 in
set_option maxHeartbeats 4000000 in
theorem S_X5_clear_0 {p : Program} {e : Env} {s : State} {m : MethodId} {args : Array Value} {below : List Frame} {meth : Method} {c : Code} {D : va_G} {cy : zY} {b n0 : Nat} {P : zPo} (la : Launch) (X : zX p la e (rm_X5_clear) s m args below meth c 2 D cy b n0 cX5_clear wsX5_clear RX5) (hr : meth.sig.returnType = (some .int)) : zS p la e (rm_X5_clear) s m args below meth c (MQ below (zQ D b (n0 + 0) P) args s 0 0 (fun q => b ≤ q)) 2 D b n0 0 (B_X5_clear_0 b n0 cy P (zAt p la e (rm_X5_clear) s m args below meth c (MQ below (zQ D b (n0 + 0) P) args s 0 0 (fun q => b ≤ q)) 2 D b n0)) := by
  unfold B_X5_clear_0
  exact (s_aload_n X dX5_clear_0 rfl (s_get X dX5_clear_1 rfl k_X5_clear_5 (by decide) f_X5_clear_12 (s_get X dX5_clear_4 rfl k_X5_clear_3 (by decide) f_X5_clear_58 (s_istore_n X dX5_clear_7 rfl (by decide) (s_aload_n X dX5_clear_8 rfl (s_get X dX5_clear_9 rfl k_X5_clear_5 (by decide) f_X5_clear_12 (s_iconst X dX5_clear_12 (by decide) (s_put X dX5_clear_13 rfl k_X5_clear_3 tyX3_ok nmX3 (by decide) f_X5_clear_58 rfl (tyX3_ok 0 (by decide)) zok_int (s_iload_n X dX5_clear_16 rfl (s_iret X dX5_clear_17 hr))))))))))
theorem w_X5_clear (la : Launch) (sp : zSp) (vc : zVC_X5_clear sp) : zMet la yX5_clear wsX5_clear (rm_X5_clear) 0 0 sp :=
  z_of (cc := cX5_clear) (maxL := 2) (ret := (some .int)) (by decide +kernel) rfl (fun p e s m args below meth c D cy b n as E P hsp X hr hin => by
    obtain ⟨h1, h2⟩ := vc b cy n as E P (zAt p la e (rm_X5_clear) s m args below meth c (MQ below (zQ D b (n + 0) P) args s 0 0 (fun q => b ≤ q)) 2 D b n) hsp
    exact ⟨h1, S_X5_clear_0 la X hr _ _ _ _ _ h2⟩)

theorem m_X5_clear (la : Launch) : zMet la yX5_clear wsX5_clear rm_X5_clear 0 0 sp_X5_clear := w_X5_clear la _ vc_X5_clear
def sp_X3_add : zSp := fun b cy as N E P => ∃ (T : zT) (v : Nat), as = [.ref (b + 1), .int (nI v)] ∧ zTx b cy E T ∧ v < 256 ∧ 159 ≤ N ∧ ((T.1 < 120 → ∀ E', zTx b cy E' (T.1 + 1, zup T.2 T.1 v) → (∀ j, j < 1 ∨ 2 < j → E' j = E j) → P (some (.int 1)) E') ∧ (¬ T.1 < 120 → P (some (.int 0)) E))
abbrev rm_X3_add : Room := { frames := 1, cells := 0, slots := 0, locals := 40 }
def B_X3_add_0 (b n0 : Nat) (cy : zY) (P : zPo) (A : Nat → zC) : zC :=
  z_aload 0 (z_get b n0 3 0 (z_const (120) (z_icmp (fun x y => x < y) (z_aload 0 (z_get b n0 3 1 (z_aload 0 (z_get b n0 3 0 (z_iload 1 (z_ast b n0 (cy 1) (fun x => x) (z_aload 0 (z_dup (z_get b n0 3 0 (z_const (1) (z_bin (fun x y => x + y) (z_put b n0 3 0 0 (z_const (1) (z_zret 0 0 P)))))))))))))) (z_const (0) (z_zret 0 0 P)))))
def zVC_X3_add (sp : zSp) : Prop := ∀ (b : Nat) (cy : zY) (n : Nat) (as : List Value) (E : zE) (P : zPo) (A : Nat → zC), sp b cy as n E P → zgood as 2 ∧ B_X3_add_0 b n cy P A (lv_args 0 as) [] 0 0 E

set_option maxRecDepth 100000 in
set_option maxHeartbeats 4000000 in
theorem vc_X3_add : zVC_X3_add sp_X3_add := by
  intro b cy N as E P A hsp
  obtain ⟨⟨len, tx⟩, v, rfl, ⟨hT0, s2, s3, s4, s5, s6, xf, x1, x2, x3⟩, hv, hN, hP1, hP2⟩ := hsp
  replace hT0 : len ≤ 120 := hT0
  replace x3 : ∀ j, j < len → tx j < 256 ∧ xf j = nI (tx j) := x3
  refine ⟨⟨Nat.le_of_ble_eq_true rfl, zg1 rfl (zg1 rfl (zg0))⟩, ?_⟩
  have k120 : (120 : Int32) = nI 120 := rfl
  have N1 : 1 < N := by omega
  have N2 : 2 < N := by omega
  simp only [B_X3_add_0, e_cut, e_iload, e_aload, e_istore, e_astore, e_iinc, e_const, e_lconst, e_bin, e_bin0, e_un, e_ladd, e_dupi, e_dupr, e_dup2, e_pop, e_if, e_icmp, e_sw, e_sw0, e_sw1, e_get, e_put, e_ald, e_ast, e_aald, e_aast, e_copy, e_new, e_newa, e_anewa, e_min, e_abs, e_oinit, e_callI, e_callV, e_callS, e_iret, e_zret, e_lret, e_vret, e_tl1, e_tl0, e_tl2, e_tl3, z10, Bool.false_eq_true, e_argi, e_argr, e_argn, zld_c, zst_n, zst_c, zpick_n, zpick_c, List.drop_succ_cons, List.drop_zero, List.take_succ_cons, List.take_zero, List.length_cons, List.length_nil, List.reverse_cons, List.reverse_nil, List.nil_append, List.cons_append, List.append_nil, List.getElem?_cons_zero, List.getElem?_cons_succ, List.set_cons_zero, List.set_cons_succ, Nat.add_sub_cancel_left, Nat.sub_self, Nat.add_zero, Nat.zero_add, Nat.le_add_right, Nat.le_refl, true_and, and_true, va_rf, zok, Nat.add_left_cancel_iff, Nat.add_eq_left, Nat.left_eq_add, eq_self, if_true, if_false, not_false_eq_true, not_true_eq_false, false_implies, true_implies, Nat.reduceEqDiff, Nat.reduceAdd, Nat.reduceLT, Nat.reduceLeDiff, reduceIte, x1, N1, k120, nI_ltI (show len < 2 ^ 31 by omega) (show 120 < 2 ^ 31 by omega)]
  refine ⟨fun c1 => ?_, fun c1 => ?_⟩
  · have hin : vp_in (nI len) 120 := vp_in_nI c1 (by omega)
    have hcl : (nI len).toNatClampNeg = len := nI_clamp (by omega)
    simp only [e_cut, e_iload, e_aload, e_istore, e_astore, e_iinc, e_const, e_lconst, e_bin, e_bin0, e_un, e_ladd, e_dupi, e_dupr, e_dup2, e_pop, e_if, e_icmp, e_sw, e_sw0, e_sw1, e_get, e_put, e_ald, e_ast, e_aald, e_aast, e_copy, e_new, e_newa, e_anewa, e_min, e_abs, e_oinit, e_callI, e_callV, e_callS, e_iret, e_zret, e_lret, e_vret, e_tl1, e_tl0, e_tl2, e_tl3, z10, Bool.false_eq_true, e_argi, e_argr, e_argn, zld_c, zst_n, zst_c, zpick_n, zpick_c, List.drop_succ_cons, List.drop_zero, List.take_succ_cons, List.take_zero, List.length_cons, List.length_nil, List.reverse_cons, List.reverse_nil, List.nil_append, List.cons_append, List.append_nil, List.getElem?_cons_zero, List.getElem?_cons_succ, List.set_cons_zero, List.set_cons_succ, Nat.add_sub_cancel_left, Nat.sub_self, Nat.add_zero, Nat.zero_add, Nat.le_add_right, Nat.le_refl, true_and, and_true, va_rf, zok, Nat.add_left_cancel_iff, Nat.add_eq_left, Nat.left_eq_add, eq_self, if_true, if_false, not_false_eq_true, not_true_eq_false, false_implies, true_implies, Nat.reduceEqDiff, Nat.reduceAdd, Nat.reduceLT, Nat.reduceLeDiff, reduceIte, x1, x2, N1, N2, hin, hcl, e_up, nI_1]
    refine ⟨Or.inr trivial, hP1 c1 _ ⟨by show len + 1 ≤ 120; omega, s2, s3, s4, s5, s6, upd xf len (nI v), by simp [e_up], by simp [e_up], fun j hj => ?_⟩ (fun j hj => by simp only [e_up]; rw [if_neg (by omega), if_neg (by omega)])⟩
    show zup tx len v j < 256 ∧ upd xf len (nI v) j = nI (zup tx len v j)
    simp only [zup, upd]
    by_cases h : j = len
    · rw [if_pos h, if_pos h]; exact ⟨hv, rfl⟩
    · rw [if_neg h, if_neg h]; exact x3 j (by have : j < len + 1 := hj; omega)
  · exact ⟨Or.inl trivial, hP2 c1⟩
set_option maxRecDepth 20000 in
theorem f_X3_add_15 : Cond.fieldLink RX3 15 (TX3 0).1 (TX3 0).2.1 (TX3 0).2.2.1 ∈ wsX3_add := by decide +kernel
set_option maxRecDepth 20000 in
theorem k_X3_add_3 : ∀ w ∈ u_ws RX3 TX3 7, w ∈ wsX3_add := fun _ h => List.mem_cons_of_mem _ (List.mem_append_right _ h)
set_option maxRecDepth 20000 in
theorem f_X3_add_9 : Cond.fieldLink RX3 9 (TX3 1).1 (TX3 1).2.1 (TX3 1).2.2.1 ∈ wsX3_add := by decide +kernel
set_option maxRecDepth 100000 in
set_option maxHeartbeats 4000000 in
theorem S_X3_add_0 {p : Program} {e : Env} {s : State} {m : MethodId} {args : Array Value} {below : List Frame} {meth : Method} {c : Code} {D : va_G} {cy : zY} {b n0 : Nat} {P : zPo} (la : Launch) (X : zX p la e (rm_X3_add) s m args below meth c 2 D cy b n0 cX3_add wsX3_add RX3) (hr : meth.sig.returnType = (some .boolean)) : zS p la e (rm_X3_add) s m args below meth c (MQ below (zQ D b (n0 + 0) P) args s 0 0 (fun q => b ≤ q)) 2 D b n0 0 (B_X3_add_0 b n0 cy P (zAt p la e (rm_X3_add) s m args below meth c (MQ below (zQ D b (n0 + 0) P) args s 0 0 (fun q => b ≤ q)) 2 D b n0)) := by
  unfold B_X3_add_0
  exact (s_aload_n X dX3_add_0 rfl (s_get X dX3_add_1 rfl k_X3_add_3 (by decide) f_X3_add_15 (s_bipush X dX3_add_4 (by decide) (s_icmp_lt X dX3_add_6 (by decide) (s_aload_n X dX3_add_11 rfl (s_get X dX3_add_12 rfl k_X3_add_3 (by decide) f_X3_add_9 (s_aload_n X dX3_add_15 rfl (s_get X dX3_add_16 rfl k_X3_add_3 (by decide) f_X3_add_15 (s_iload_n X dX3_add_19 rfl (s_iast X dX3_add_20 (s_aload_n X dX3_add_21 rfl (s_dup X dX3_add_22 (s_get X dX3_add_23 rfl k_X3_add_3 (by decide) f_X3_add_15 (s_iconst X dX3_add_26 (by decide) (s_iadd X dX3_add_27 (s_put X dX3_add_28 rfl k_X3_add_3 tyX3_ok nmX3 (by decide) f_X3_add_15 rfl (tyX3_ok 0 (by decide)) zok_int (s_iconst X dX3_add_31 (by decide) (s_zret X dX3_add_32 hr)))))))))))))) (s_iconst X dX3_add_9 (by decide) (s_zret X dX3_add_10 hr))))))
theorem w_X3_add (la : Launch) (sp : zSp) (vc : zVC_X3_add sp) : zMet la yX3_add wsX3_add (rm_X3_add) 0 0 sp :=
  z_of (cc := cX3_add) (maxL := 2) (ret := (some .boolean)) (by decide +kernel) rfl (fun p e s m args below meth c D cy b n as E P hsp X hr hin => by
    obtain ⟨h1, h2⟩ := vc b cy n as E P (zAt p la e (rm_X3_add) s m args below meth c (MQ below (zQ D b (n + 0) P) args s 0 0 (fun q => b ≤ q)) 2 D b n) hsp
    exact ⟨h1, S_X3_add_0 la X hr _ _ _ _ _ h2⟩)

theorem m_X3_add (la : Launch) : zMet la yX3_add wsX3_add rm_X3_add 0 0 sp_X3_add := w_X3_add la _ vc_X3_add
def sp_X5_type : zSp := fun b cy as N E P => ∃ x : Int32, zPX (op_type x) [.int x] b cy as N E P
abbrev rm_X5_type : Room := { frames := 2, cells := 0, slots := 0, locals := 61 }
def B_X5_type_36 (b n0 : Nat) (cy : zY) (P : zPo) (A : Nat → zC) : zC :=
  z_iret 0 0 P
def B_X5_type_11 (b n0 : Nat) (cy : zY) (P : zPo) (A : Nat → zC) : zC :=
  z_const (-1) (z_iret 0 0 P)
def B_X5_type_0 (b n0 : Nat) (cy : zY) (P : zPo) (A : Nat → zC) : zC :=
  z_iload 1 (z_if (fun x => x < 0) (B_X5_type_11 b n0 cy P A) (z_iload 1 (z_const (255) (z_icmp (fun x y => x ≤ y) (z_aload 0 (z_get b n0 5 0 (z_iload 1 (z_callV b n0 0 0 cy 3 1 0 0 sp_X3_add (z_if (fun x => x = 0) (z_const (-3) (B_X5_type_36 b n0 cy P A)) (z_aload 0 (z_get b n0 5 0 (z_get b n0 3 0 (B_X5_type_36 b n0 cy P A))))))))) (B_X5_type_11 b n0 cy P A)))))
def zVC_X5_type (sp : zSp) : Prop := ∀ (b : Nat) (cy : zY) (n : Nat) (as : List Value) (E : zE) (P : zPo) (A : Nat → zC), sp b cy as n E P → zgood as 2 ∧ B_X5_type_0 b n cy P A (lv_args 0 as) [] 0 0 E

set_option maxRecDepth 100000 in
set_option maxHeartbeats 4000000 in
theorem vc_X5_type : zVC_X5_type sp_X5_type := by
  intro b cy N as E P A hsp
  obtain ⟨x, K, ⟨T, D, C, I, S, tr⟩, rfl, hbc, hok, hK, hN, hP⟩ := hsp
  refine ⟨⟨Nat.le_of_ble_eq_true rfl, zg1 rfl (zg1 rfl (zg0))⟩, ?_⟩
  obtain ⟨e0, hTx, ⟨seat, items, hTo⟩, hDr, hIm, hIs, hAh, hSn, hI0, hI1⟩ := id hbc
  have hp2 := hbc.p2 hok hN
  obtain ⟨hp1, e11⟩ := id hp2
  obtain ⟨hR, hmo, hmk, hi12, _⟩ := id hp1
  obtain ⟨hn1, mf, mg, mh, m0, m1, m2, m3, hmf, hmg, hmh⟩ := id hmo
  obtain ⟨_, tf, tg, th, t0, t1, t2, t3, htf, htg, hth⟩ := id hTo
  replace m1 : E 13 = _ := m1
  replace m2 : E 14 = _ := m2
  replace m3 : E 15 = _ := m3
  replace t1 : E 4 = _ := t1
  replace t2 : E 5 = _ := t2
  replace t3 : E 6 = _ := t3
  have hpa : zPa b cy E 16 D.1 C.2.1 C.2.2 := hIm.2.2
  have hlo := hok.2.1
  have N0 : 0 < N := by omega
  have N1 : 1 < N := by omega
  have N2 : 2 < N := by omega
  have N3 : 3 < N := by omega
  have N4 : 4 < N := by omega
  have N5 : 5 < N := by omega
  have N6 : 6 < N := by omega
  have N7 : 7 < N := by omega
  have N11 : 11 < N := by omega
  have N12 : 12 < N := by omega
  have N13 : 13 < N := by omega
  have N14 : 14 < N := by omega
  have N15 : 15 < N := by omega
  have N16 : 16 < N := by omega
  have N58 : 58 < N := by omega
  have N59 : 59 < N := by omega
  have N63 : 63 < N := by omega
  have N64 : 64 < N := by omega
  have N65 : 65 < N := by omega
  have N112 : 112 < N := by omega
  obtain ⟨hT0, s2, s3, s4, s5, s6, xf, x1, x2, x3⟩ := id hTx
  have k255 : (255 : Int32) = nI 255 := rfl
  simp only [op_type] at hP
  simp only [B_X5_type_0, B_X5_type_11, B_X5_type_36, e_cut, e_iload, e_aload, e_istore, e_astore, e_iinc, e_const, e_lconst, e_bin, e_bin0, e_un, e_ladd, e_dupi, e_dupr, e_dup2, e_pop, e_if, e_icmp, e_sw, e_sw0, e_sw1, e_get, e_put, e_ald, e_ast, e_aald, e_aast, e_copy, e_new, e_newa, e_anewa, e_min, e_abs, e_oinit, e_callI, e_callV, e_callS, e_iret, e_zret, e_lret, e_vret, e_tl1, e_tl0, e_tl2, e_tl3, z10, Bool.false_eq_true, e_argi, e_argr, e_argn, zld_c, zst_n, zst_c, zpick_n, zpick_c, List.drop_succ_cons, List.drop_zero, List.take_succ_cons, List.take_zero, List.length_cons, List.length_nil, List.reverse_cons, List.reverse_nil, List.nil_append, List.cons_append, List.append_nil, List.getElem?_cons_zero, List.getElem?_cons_succ, List.set_cons_zero, List.set_cons_succ, Nat.add_sub_cancel_left, Nat.sub_self, Nat.add_zero, Nat.zero_add, Nat.le_add_right, Nat.le_refl, true_and, and_true, va_rf, zok, Nat.add_left_cancel_iff, Nat.add_eq_left, Nat.left_eq_add, eq_self, if_true, if_false, not_false_eq_true, not_true_eq_false, false_implies, true_implies, Nat.reduceEqDiff, Nat.reduceAdd, Nat.reduceLT, Nat.reduceLeDiff, reduceIte, k255]
  refine ⟨fun c1 => ?_, fun c1 => ⟨fun c2 => ?_, fun c2 => ?_⟩⟩
  · rw [if_neg (zisB_f1 c1)] at hP
    exact hP E hbc (fun _ _ => rfl)
  · have q1 := zisB_le c1 c2 (by omega)
    obtain ⟨v, hv, rfl⟩ := zisB_u q1 (by omega)
    rw [if_pos q1, zcl_i (show v < 2 ^ 31 by omega)] at hP
    simp only [e_cut, e_iload, e_aload, e_istore, e_astore, e_iinc, e_const, e_lconst, e_bin, e_bin0, e_un, e_ladd, e_dupi, e_dupr, e_dup2, e_pop, e_if, e_icmp, e_sw, e_sw0, e_sw1, e_get, e_put, e_ald, e_ast, e_aald, e_aast, e_copy, e_new, e_newa, e_anewa, e_min, e_abs, e_oinit, e_callI, e_callV, e_callS, e_iret, e_zret, e_lret, e_vret, e_tl1, e_tl0, e_tl2, e_tl3, z10, Bool.false_eq_true, e_argi, e_argr, e_argn, zld_c, zst_n, zst_c, zpick_n, zpick_c, List.drop_succ_cons, List.drop_zero, List.take_succ_cons, List.take_zero, List.length_cons, List.length_nil, List.reverse_cons, List.reverse_nil, List.nil_append, List.cons_append, List.append_nil, List.getElem?_cons_zero, List.getElem?_cons_succ, List.set_cons_zero, List.set_cons_succ, Nat.add_sub_cancel_left, Nat.sub_self, Nat.add_zero, Nat.zero_add, Nat.le_add_right, Nat.le_refl, true_and, and_true, va_rf, zok, Nat.add_left_cancel_iff, Nat.add_eq_left, Nat.left_eq_add, eq_self, if_true, if_false, not_false_eq_true, not_true_eq_false, false_implies, true_implies, Nat.reduceEqDiff, Nat.reduceAdd, Nat.reduceLT, Nat.reduceLeDiff, reduceIte, zB0, e0, N0, N1, N2, N3, N4, N5, N6, N7, N11, N12, N13, N14, N15, N16, N58, N59, N63, N64, N65, N112, x1]
    refine ⟨T, v, rfl, hTx, hv, hN, fun c3 E1 hT1 hk1 => ?_, fun c3 => ?_⟩
    · rw [if_pos c3] at hP
      have f0 : E1 0 = zB0 b (nI (zkm I)) (nI S.1) tr := by rw [hk1 _ (by omega)]; exact e0
      obtain ⟨_, z2, z3, z4, z5, z6, zf, y1, y2, y3⟩ := id hT1
      simp only [e_cut, e_iload, e_aload, e_istore, e_astore, e_iinc, e_const, e_lconst, e_bin, e_bin0, e_un, e_ladd, e_dupi, e_dupr, e_dup2, e_pop, e_if, e_icmp, e_sw, e_sw0, e_sw1, e_get, e_put, e_ald, e_ast, e_aald, e_aast, e_copy, e_new, e_newa, e_anewa, e_min, e_abs, e_oinit, e_callI, e_callV, e_callS, e_iret, e_zret, e_lret, e_vret, e_tl1, e_tl0, e_tl2, e_tl3, z10, Bool.false_eq_true, e_argi, e_argr, e_argn, zld_c, zst_n, zst_c, zpick_n, zpick_c, List.drop_succ_cons, List.drop_zero, List.take_succ_cons, List.take_zero, List.length_cons, List.length_nil, List.reverse_cons, List.reverse_nil, List.nil_append, List.cons_append, List.append_nil, List.getElem?_cons_zero, List.getElem?_cons_succ, List.set_cons_zero, List.set_cons_succ, Nat.add_sub_cancel_left, Nat.sub_self, Nat.add_zero, Nat.zero_add, Nat.le_add_right, Nat.le_refl, true_and, and_true, va_rf, zok, Nat.add_left_cancel_iff, Nat.add_eq_left, Nat.left_eq_add, eq_self, if_true, if_false, not_false_eq_true, not_true_eq_false, false_implies, true_implies, Nat.reduceEqDiff, Nat.reduceAdd, Nat.reduceLT, Nat.reduceLeDiff, reduceIte, zB0, f0, N0, N1, N2, N3, N4, N5, N6, N7, N11, N12, N13, N14, N15, N16, N58, N59, N63, N64, N65, N112, y1, B_X5_type_0, B_X5_type_11, B_X5_type_36]
      exact hP E1 (hbc.txt hT1 hk1) (fun j hj => hk1 j (by omega))
    · rw [if_neg c3] at hP
      simp only [e_cut, e_iload, e_aload, e_istore, e_astore, e_iinc, e_const, e_lconst, e_bin, e_bin0, e_un, e_ladd, e_dupi, e_dupr, e_dup2, e_pop, e_if, e_icmp, e_sw, e_sw0, e_sw1, e_get, e_put, e_ald, e_ast, e_aald, e_aast, e_copy, e_new, e_newa, e_anewa, e_min, e_abs, e_oinit, e_callI, e_callV, e_callS, e_iret, e_zret, e_lret, e_vret, e_tl1, e_tl0, e_tl2, e_tl3, z10, Bool.false_eq_true, e_argi, e_argr, e_argn, zld_c, zst_n, zst_c, zpick_n, zpick_c, List.drop_succ_cons, List.drop_zero, List.take_succ_cons, List.take_zero, List.length_cons, List.length_nil, List.reverse_cons, List.reverse_nil, List.nil_append, List.cons_append, List.append_nil, List.getElem?_cons_zero, List.getElem?_cons_succ, List.set_cons_zero, List.set_cons_succ, Nat.add_sub_cancel_left, Nat.sub_self, Nat.add_zero, Nat.zero_add, Nat.le_add_right, Nat.le_refl, true_and, and_true, va_rf, zok, Nat.add_left_cancel_iff, Nat.add_eq_left, Nat.left_eq_add, eq_self, if_true, if_false, not_false_eq_true, not_true_eq_false, false_implies, true_implies, Nat.reduceEqDiff, Nat.reduceAdd, Nat.reduceLT, Nat.reduceLeDiff, reduceIte, B_X5_type_0, B_X5_type_11, B_X5_type_36]
      exact hP E hbc (fun _ _ => rfl)
  · rw [if_neg (zisB_nle c2 (by omega))] at hP
    exact hP E hbc (fun _ _ => rfl)
set_option maxRecDepth 20000 in
theorem f_X5_type_12 : Cond.fieldLink RX5 12 (TX5 0).1 (TX5 0).2.1 (TX5 0).2.2.1 ∈ wsX5_type := by decide +kernel
set_option maxRecDepth 20000 in
theorem k_X5_type_5 : ∀ w ∈ u_ws RX5 TX5 11, w ∈ wsX5_type := fun _ h => List.mem_cons_of_mem _ (List.mem_append_left _ (List.mem_append_right _ h))
set_option maxRecDepth 20000 in
theorem f_X5_type_58 : Cond.fieldLink RX5 58 (TX3 0).1 (TX3 0).2.1 (TX3 0).2.2.1 ∈ wsX5_type := by decide +kernel
set_option maxRecDepth 20000 in
theorem k_X5_type_3 : ∀ w ∈ u_ws RX3 TX3 7, w ∈ wsX5_type := fun _ h => List.mem_cons_of_mem _ (List.mem_append_right _ h)
set_option maxRecDepth 100000 in
set_option maxHeartbeats 4000000 in
theorem S_X5_type_36 {p : Program} {e : Env} {s : State} {m : MethodId} {args : Array Value} {below : List Frame} {meth : Method} {c : Code} {D : va_G} {cy : zY} {b n0 : Nat} {P : zPo} (la : Launch) (X : zX p la e (rm_X5_type) s m args below meth c 2 D cy b n0 cX5_type wsX5_type RX5) (hr : meth.sig.returnType = (some .int)) (h_X3_add : zMet la yX3_add wsX3_add rm_X3_add 0 0 sp_X3_add) : zS p la e (rm_X5_type) s m args below meth c (MQ below (zQ D b (n0 + 0) P) args s 0 0 (fun q => b ≤ q)) 2 D b n0 36 (B_X5_type_36 b n0 cy P (zAt p la e (rm_X5_type) s m args below meth c (MQ below (zQ D b (n0 + 0) P) args s 0 0 (fun q => b ≤ q)) 2 D b n0)) := by
  unfold B_X5_type_36
  exact (s_iret X dX5_type_36 hr)
set_option maxRecDepth 100000 in
set_option maxHeartbeats 4000000 in
theorem S_X5_type_11 {p : Program} {e : Env} {s : State} {m : MethodId} {args : Array Value} {below : List Frame} {meth : Method} {c : Code} {D : va_G} {cy : zY} {b n0 : Nat} {P : zPo} (la : Launch) (X : zX p la e (rm_X5_type) s m args below meth c 2 D cy b n0 cX5_type wsX5_type RX5) (hr : meth.sig.returnType = (some .int)) (h_X3_add : zMet la yX3_add wsX3_add rm_X3_add 0 0 sp_X3_add) : zS p la e (rm_X5_type) s m args below meth c (MQ below (zQ D b (n0 + 0) P) args s 0 0 (fun q => b ≤ q)) 2 D b n0 11 (B_X5_type_11 b n0 cy P (zAt p la e (rm_X5_type) s m args below meth c (MQ below (zQ D b (n0 + 0) P) args s 0 0 (fun q => b ≤ q)) 2 D b n0)) := by
  unfold B_X5_type_11
  exact (s_iconst X dX5_type_11 (by decide) (s_iret X dX5_type_12 hr))
set_option maxRecDepth 100000 in
set_option maxHeartbeats 4000000 in
theorem S_X5_type_0 {p : Program} {e : Env} {s : State} {m : MethodId} {args : Array Value} {below : List Frame} {meth : Method} {c : Code} {D : va_G} {cy : zY} {b n0 : Nat} {P : zPo} (la : Launch) (X : zX p la e (rm_X5_type) s m args below meth c 2 D cy b n0 cX5_type wsX5_type RX5) (hr : meth.sig.returnType = (some .int)) (h_X3_add : zMet la yX3_add wsX3_add rm_X3_add 0 0 sp_X3_add) : zS p la e (rm_X5_type) s m args below meth c (MQ below (zQ D b (n0 + 0) P) args s 0 0 (fun q => b ≤ q)) 2 D b n0 0 (B_X5_type_0 b n0 cy P (zAt p la e (rm_X5_type) s m args below meth c (MQ below (zQ D b (n0 + 0) P) args s 0 0 (fun q => b ≤ q)) 2 D b n0)) := by
  unfold B_X5_type_0
  exact (s_iload_n X dX5_type_0 rfl (s_if_lt X dX5_type_1 (by decide) (S_X5_type_11 la X hr h_X3_add) (s_iload_n X dX5_type_4 rfl (s_sipush X dX5_type_5 (by decide) (s_icmp_le X dX5_type_8 (by decide) (s_aload_n X dX5_type_13 rfl (s_get X dX5_type_14 rfl k_X5_type_5 (by decide) f_X5_type_12 (s_iload_n X dX5_type_17 rfl (s_callV X h_X3_add dX5_type_18 rfl gX5_type_X3_add rfl rfl rfl (by decide +kernel) ⟨by decide, by decide⟩ (s_if_eq X dX5_type_21 (by decide) (s_bipush X dX5_type_34 (by decide) (S_X5_type_36 la X hr h_X3_add)) (s_aload_n X dX5_type_24 rfl (s_get X dX5_type_25 rfl k_X5_type_5 (by decide) f_X5_type_12 (s_get X dX5_type_28 rfl k_X5_type_3 (by decide) f_X5_type_58 (s_goto X dX5_type_31 (by decide) (S_X5_type_36 la X hr h_X3_add)))))))))) (S_X5_type_11 la X hr h_X3_add))))))
theorem w_X5_type (la : Launch) (h_X3_add : zMet la yX3_add wsX3_add rm_X3_add 0 0 sp_X3_add) (sp : zSp) (vc : zVC_X5_type sp) : zMet la yX5_type wsX5_type (rm_X5_type) 0 0 sp :=
  z_of (cc := cX5_type) (maxL := 2) (ret := (some .int)) (by decide +kernel) rfl (fun p e s m args below meth c D cy b n as E P hsp X hr hin => by
    obtain ⟨h1, h2⟩ := vc b cy n as E P (zAt p la e (rm_X5_type) s m args below meth c (MQ below (zQ D b (n + 0) P) args s 0 0 (fun q => b ≤ q)) 2 D b n) hsp
    exact ⟨h1, S_X5_type_0 la X hr h_X3_add _ _ _ _ _ h2⟩)

theorem m_X5_type (la : Launch) : zMet la yX5_type wsX5_type rm_X5_type 0 0 sp_X5_type := w_X5_type la (m_X3_add la) _ vc_X5_type
def sp_X5_now : zSp := fun b cy as N E P => ∃ w : Int32, zPX (op_now w) [.int w] b cy as N E P
abbrev rm_X5_now : Room := { frames := 1, cells := 0, slots := 0, locals := 40 }
def B_X5_now_83 (b n0 : Nat) (cy : zY) (P : zPo) (A : Nat → zC) : zC :=
  z_iret 0 0 P
def B_X5_now_0 (b n0 : Nat) (cy : zY) (P : zPo) (A : Nat → zC) : zC :=
  z_aload 0 (z_get b n0 5 3 (z_get b n0 0 0 (z_astore 2 (z_iload 1 (z_switch [(0, (z_aload 2 (z_get b n0 1 0 (z_iret 0 0 P)))), (1, (z_aload 2 (z_get b n0 1 1 (z_iret 0 0 P)))), (2, (z_aload 2 (z_get b n0 1 2 (z_iret 0 0 P)))), (3, (z_aload 2 (z_get b n0 1 3 (z_iret 0 0 P)))), (4, (z_aload 2 (z_get b n0 1 0 (z_aload 0 (z_get b n0 5 1 (z_get b n0 4 2 (z_icmp (fun x y => x < y) (z_const (0) (B_X5_now_83 b n0 cy P A)) (z_const (1) (B_X5_now_83 b n0 cy P A)))))))))] (z_const (-1) (z_iret 0 0 P)))))))
def zVC_X5_now (sp : zSp) : Prop := ∀ (b : Nat) (cy : zY) (n : Nat) (as : List Value) (E : zE) (P : zPo) (A : Nat → zC), sp b cy as n E P → zgood as 3 ∧ B_X5_now_0 b n cy P A (lv_args 0 as) [] 0 0 E

set_option maxRecDepth 100000 in
set_option maxHeartbeats 4000000 in
theorem vc_X5_now : zVC_X5_now sp_X5_now := by
  intro b cy N as E P A hsp
  obtain ⟨w, K, ⟨T, D, C, I, S, tr⟩, rfl, hbc, hok, hK, hN, hP⟩ := hsp
  refine ⟨⟨Nat.le_of_ble_eq_true rfl, zg1 rfl (zg1 rfl (zg0))⟩, ?_⟩
  obtain ⟨e0, hTx, ⟨seat, items, hTo⟩, hDr, hIm, hIs, hAh, hSn, hI0, hI1⟩ := id hbc
  have hp2 := hbc.p2 hok hN
  obtain ⟨hp1, e11⟩ := id hp2
  obtain ⟨hR, hmo, hmk, hi12, _⟩ := id hp1
  obtain ⟨hn1, mf, mg, mh, m0, m1, m2, m3, hmf, hmg, hmh⟩ := id hmo
  obtain ⟨_, tf, tg, th, t0, t1, t2, t3, htf, htg, hth⟩ := id hTo
  replace m1 : E 13 = _ := m1
  replace m2 : E 14 = _ := m2
  replace m3 : E 15 = _ := m3
  replace t1 : E 4 = _ := t1
  replace t2 : E 5 = _ := t2
  replace t3 : E 6 = _ := t3
  have hpa : zPa b cy E 16 D.1 C.2.1 C.2.2 := hIm.2.2
  have hlo := hok.2.1
  have N0 : 0 < N := by omega
  have N1 : 1 < N := by omega
  have N2 : 2 < N := by omega
  have N3 : 3 < N := by omega
  have N4 : 4 < N := by omega
  have N5 : 5 < N := by omega
  have N6 : 6 < N := by omega
  have N7 : 7 < N := by omega
  have N11 : 11 < N := by omega
  have N12 : 12 < N := by omega
  have N13 : 13 < N := by omega
  have N14 : 14 < N := by omega
  have N15 : 15 < N := by omega
  have N16 : 16 < N := by omega
  have N58 : 58 < N := by omega
  have N59 : 59 < N := by omega
  have N63 : 63 < N := by omega
  have N64 : 64 < N := by omega
  have N65 : 65 < N := by omega
  have N112 : 112 < N := by omega
  have hC0 := hok.2.2.2.2.2.1.2.1
  have hL := hok.2.2.1
  replace hP := hP E hbc (fun _ _ => rfl)
  simp only [op_now] at hP
  simp only [B_X5_now_0, B_X5_now_83, e_cut, e_iload, e_aload, e_istore, e_astore, e_iinc, e_const, e_lconst, e_bin, e_bin0, e_un, e_ladd, e_dupi, e_dupr, e_dup2, e_pop, e_if, e_icmp, e_sw, e_sw0, e_sw1, e_get, e_put, e_ald, e_ast, e_aald, e_aast, e_copy, e_new, e_newa, e_anewa, e_min, e_abs, e_oinit, e_callI, e_callV, e_callS, e_iret, e_zret, e_lret, e_vret, e_tl1, e_tl0, e_tl2, e_tl3, z10, Bool.false_eq_true, e_argi, e_argr, e_argn, zld_c, zst_n, zst_c, zpick_n, zpick_c, List.drop_succ_cons, List.drop_zero, List.take_succ_cons, List.take_zero, List.length_cons, List.length_nil, List.reverse_cons, List.reverse_nil, List.nil_append, List.cons_append, List.append_nil, List.getElem?_cons_zero, List.getElem?_cons_succ, List.set_cons_zero, List.set_cons_succ, Nat.add_sub_cancel_left, Nat.sub_self, Nat.add_zero, Nat.zero_add, Nat.le_add_right, Nat.le_refl, true_and, and_true, va_rf, zok, Nat.add_left_cancel_iff, Nat.add_eq_left, Nat.left_eq_add, eq_self, if_true, if_false, not_false_eq_true, not_true_eq_false, false_implies, true_implies, Nat.reduceEqDiff, Nat.reduceAdd, Nat.reduceLT, Nat.reduceLeDiff, reduceIte, zB0, e0, N0, N1, N2, N3, N4, N5, N6, N7, N11, N12, N13, N14, N15, N16, N58, N59, N63, N64, N65, N112, e11, m0, t0, nI_ltI (show C.1 0 < 2 ^ 31 by omega) (show D.2.2.2 < 2 ^ 31 by omega)]
  refine ⟨fun c0 => ?_, fun c0 => ⟨fun c1 => ?_, fun c1 => ⟨fun c2 => ?_, fun c2 => ⟨fun c3 => ?_, fun c3 => ⟨fun c4 => ⟨fun c5 => ?_, fun c5 => ?_⟩, fun c4 => ?_⟩⟩⟩⟩⟩
  · rw [if_pos c0] at hP; exact hP
  · rw [if_neg c0, if_pos c1] at hP; exact hP
  · rw [if_neg c0, if_neg c1, if_pos c2] at hP; exact hP
  · rw [if_neg c0, if_neg c1, if_neg c2, if_pos c3] at hP; exact hP
  · rw [if_neg c0, if_neg c1, if_neg c2, if_neg c3, if_pos c4, if_neg (by omega)] at hP; exact hP
  · rw [if_neg c0, if_neg c1, if_neg c2, if_neg c3, if_pos c4, if_pos (by omega)] at hP; exact hP
  · rw [if_neg c0, if_neg c1, if_neg c2, if_neg c3, if_neg c4] at hP; exact hP
set_option maxRecDepth 20000 in
theorem f_X5_now_29 : Cond.fieldLink RX5 29 (TX5 3).1 (TX5 3).2.1 (TX5 3).2.2.1 ∈ wsX5_now := by decide +kernel
set_option maxRecDepth 20000 in
theorem k_X5_now_5 : ∀ w ∈ u_ws RX5 TX5 11, w ∈ wsX5_now := fun _ h => List.mem_cons_of_mem _ (List.mem_append_left _ (List.mem_append_left _ (List.mem_append_left _ (List.mem_append_right _ h))))
set_option maxRecDepth 20000 in
theorem f_X5_now_76 : Cond.fieldLink RX5 76 (TX0 0).1 (TX0 0).2.1 (TX0 0).2.2.1 ∈ wsX5_now := by decide +kernel
set_option maxRecDepth 20000 in
theorem k_X5_now_0 : ∀ w ∈ u_ws RX0 TX0 2, w ∈ wsX5_now := fun _ h => List.mem_cons_of_mem _ (List.mem_append_left _ (List.mem_append_left _ (List.mem_append_right _ h)))
set_option maxRecDepth 20000 in
theorem f_X5_now_116 : Cond.fieldLink RX5 116 (TX1 0).1 (TX1 0).2.1 (TX1 0).2.2.1 ∈ wsX5_now := by decide +kernel
set_option maxRecDepth 20000 in
theorem k_X5_now_1 : ∀ w ∈ u_ws RX1 TX1 7, w ∈ wsX5_now := fun _ h => List.mem_cons_of_mem _ (List.mem_append_left _ (List.mem_append_right _ h))
set_option maxRecDepth 20000 in
theorem f_X5_now_19 : Cond.fieldLink RX5 19 (TX5 1).1 (TX5 1).2.1 (TX5 1).2.2.1 ∈ wsX5_now := by decide +kernel
set_option maxRecDepth 20000 in
theorem f_X5_now_157 : Cond.fieldLink RX5 157 (TX4 2).1 (TX4 2).2.1 (TX4 2).2.2.1 ∈ wsX5_now := by decide +kernel
set_option maxRecDepth 20000 in
theorem k_X5_now_4 : ∀ w ∈ u_ws RX4 TX4 6, w ∈ wsX5_now := fun _ h => List.mem_cons_of_mem _ (List.mem_append_right _ h)
set_option maxRecDepth 20000 in
theorem f_X5_now_154 : Cond.fieldLink RX5 154 (TX1 3).1 (TX1 3).2.1 (TX1 3).2.2.1 ∈ wsX5_now := by decide +kernel
set_option maxRecDepth 20000 in
theorem f_X5_now_136 : Cond.fieldLink RX5 136 (TX1 2).1 (TX1 2).2.1 (TX1 2).2.2.1 ∈ wsX5_now := by decide +kernel
set_option maxRecDepth 20000 in
theorem f_X5_now_98 : Cond.fieldLink RX5 98 (TX1 1).1 (TX1 1).2.1 (TX1 1).2.2.1 ∈ wsX5_now := by decide +kernel
set_option maxRecDepth 100000 in
set_option maxHeartbeats 4000000 in
theorem S_X5_now_83 {p : Program} {e : Env} {s : State} {m : MethodId} {args : Array Value} {below : List Frame} {meth : Method} {c : Code} {D : va_G} {cy : zY} {b n0 : Nat} {P : zPo} (la : Launch) (X : zX p la e (rm_X5_now) s m args below meth c 3 D cy b n0 cX5_now wsX5_now RX5) (hr : meth.sig.returnType = (some .int)) : zS p la e (rm_X5_now) s m args below meth c (MQ below (zQ D b (n0 + 0) P) args s 0 0 (fun q => b ≤ q)) 3 D b n0 83 (B_X5_now_83 b n0 cy P (zAt p la e (rm_X5_now) s m args below meth c (MQ below (zQ D b (n0 + 0) P) args s 0 0 (fun q => b ≤ q)) 3 D b n0)) := by
  unfold B_X5_now_83
  exact (s_iret X dX5_now_83 hr)
set_option maxRecDepth 100000 in
set_option maxHeartbeats 4000000 in
theorem S_X5_now_0 {p : Program} {e : Env} {s : State} {m : MethodId} {args : Array Value} {below : List Frame} {meth : Method} {c : Code} {D : va_G} {cy : zY} {b n0 : Nat} {P : zPo} (la : Launch) (X : zX p la e (rm_X5_now) s m args below meth c 3 D cy b n0 cX5_now wsX5_now RX5) (hr : meth.sig.returnType = (some .int)) : zS p la e (rm_X5_now) s m args below meth c (MQ below (zQ D b (n0 + 0) P) args s 0 0 (fun q => b ≤ q)) 3 D b n0 0 (B_X5_now_0 b n0 cy P (zAt p la e (rm_X5_now) s m args below meth c (MQ below (zQ D b (n0 + 0) P) args s 0 0 (fun q => b ≤ q)) 3 D b n0)) := by
  unfold B_X5_now_0
  exact (s_aload_n X dX5_now_0 rfl (s_get X dX5_now_1 rfl k_X5_now_5 (by decide) f_X5_now_29 (s_get X dX5_now_4 rfl k_X5_now_0 (by decide) f_X5_now_76 (s_astore_n X dX5_now_7 rfl (by decide) (s_iload_n X dX5_now_8 rfl (s_table X dX5_now_9 (fun x hx => by have q0 := lv_neT (hx (0, _) (List.mem_of_getElem? (i := 0) rfl)) (a := 0) rfl; have q1 := lv_neT (hx (1, _) (List.mem_of_getElem? (i := 1) rfl)) (a := 1) rfl; have q2 := lv_neT (hx (2, _) (List.mem_of_getElem? (i := 2) rfl)) (a := 2) rfl; have q3 := lv_neT (hx (3, _) (List.mem_of_getElem? (i := 3) rfl)) (a := 3) rfl; have q4 := lv_neT (hx (4, _) (List.mem_of_getElem? (i := 4) rfl)) (a := 4) rfl; omega) (by decide) (s_iconst X dX5_now_84 (by decide) (s_iret X dX5_now_85 hr)) (List.forall_mem_cons.mpr ⟨⟨35, 44, (show ¬ (0 : Int32).toInt < 0 from by decide), (show ¬ 4 < (0 : Int32).toInt from by decide), rfl, by decide, (s_aload_n X dX5_now_44 rfl (s_get X dX5_now_45 rfl k_X5_now_1 (by decide) f_X5_now_116 (s_iret X dX5_now_48 hr)))⟩, List.forall_mem_cons.mpr ⟨⟨40, 49, (show ¬ (1 : Int32).toInt < 0 from by decide), (show ¬ 4 < (1 : Int32).toInt from by decide), rfl, by decide, (s_aload_n X dX5_now_49 rfl (s_get X dX5_now_50 rfl k_X5_now_1 (by decide) f_X5_now_98 (s_iret X dX5_now_53 hr)))⟩, List.forall_mem_cons.mpr ⟨⟨45, 54, (show ¬ (2 : Int32).toInt < 0 from by decide), (show ¬ 4 < (2 : Int32).toInt from by decide), rfl, by decide, (s_aload_n X dX5_now_54 rfl (s_get X dX5_now_55 rfl k_X5_now_1 (by decide) f_X5_now_136 (s_iret X dX5_now_58 hr)))⟩, List.forall_mem_cons.mpr ⟨⟨50, 59, (show ¬ (3 : Int32).toInt < 0 from by decide), (show ¬ 4 < (3 : Int32).toInt from by decide), rfl, by decide, (s_aload_n X dX5_now_59 rfl (s_get X dX5_now_60 rfl k_X5_now_1 (by decide) f_X5_now_154 (s_iret X dX5_now_63 hr)))⟩, List.forall_mem_cons.mpr ⟨⟨55, 64, (show ¬ (4 : Int32).toInt < 0 from by decide), (show ¬ 4 < (4 : Int32).toInt from by decide), rfl, by decide, (s_aload_n X dX5_now_64 rfl (s_get X dX5_now_65 rfl k_X5_now_1 (by decide) f_X5_now_116 (s_aload_n X dX5_now_68 rfl (s_get X dX5_now_69 rfl k_X5_now_5 (by decide) f_X5_now_19 (s_get X dX5_now_72 rfl k_X5_now_4 (by decide) f_X5_now_157 (s_icmp_lt X dX5_now_75 (by decide) (s_iconst X dX5_now_82 (by decide) (S_X5_now_83 la X hr)) (s_iconst X dX5_now_78 (by decide) (s_goto X dX5_now_79 (by decide) (S_X5_now_83 la X hr)))))))))⟩, fun _ h => absurd h List.not_mem_nil⟩⟩⟩⟩⟩)))))))
theorem w_X5_now (la : Launch) (sp : zSp) (vc : zVC_X5_now sp) : zMet la yX5_now wsX5_now (rm_X5_now) 0 0 sp :=
  z_of (cc := cX5_now) (maxL := 3) (ret := (some .int)) (by decide +kernel) rfl (fun p e s m args below meth c D cy b n as E P hsp X hr hin => by
    obtain ⟨h1, h2⟩ := vc b cy n as E P (zAt p la e (rm_X5_now) s m args below meth c (MQ below (zQ D b (n + 0) P) args s 0 0 (fun q => b ≤ q)) 3 D b n) hsp
    exact ⟨h1, S_X5_now_0 la X hr _ _ _ _ _ h2⟩)

theorem m_X5_now (la : Launch) : zMet la yX5_now wsX5_now rm_X5_now 0 0 sp_X5_now := w_X5_now la _ vc_X5_now
theorem zsub_all : ∀ M : Fin 64, nI M.val ^^^ (-1) = -1 - nI M.val := by decide +kernel
theorem zsub_t {M : Nat} {x : Int32} (hM : M < 64) (h : zsub M x = true) : ∃ S, S < 64 ∧ x = nI S ∧ S &&& M = S := by
  have h1 : x &&& (nI M ^^^ (-1)) = 0 := of_decide_eq_true h
  have key : x &&& nI M = x := by
    have e : (x &&& nI M) ||| (x &&& (nI M ^^^ (-1))) = x := by
      apply Int32.toBitVec_inj.mp
      show (x.toBitVec &&& (nI M).toBitVec) ||| (x.toBitVec &&& ((nI M).toBitVec ^^^ BitVec.allOnes 32)) = x.toBitVec
      ext i hi
      simp only [BitVec.getElem_or, BitVec.getElem_and, BitVec.getElem_xor, BitVec.getElem_allOnes]
      cases x.toBitVec[i] <;> cases (nI M).toBitVec[i] <;> rfl
    rw [h1] at e
    have e2 : (x &&& nI M) ||| 0 = x &&& nI M := by
      apply Int32.toBitVec_inj.mp
      show (x.toBitVec &&& (nI M).toBitVec) ||| 0#32 = x.toBitVec &&& (nI M).toBitVec
      simp
    rw [e2] at e
    exact e
  refine ⟨x.toBitVec.toNat &&& M, Nat.lt_of_le_of_lt Nat.and_le_right hM, ?_, ?_⟩
  · rw [← key]
    apply Int32.toBitVec_inj.mp
    apply BitVec.eq_of_toNat_eq
    have g1 : (nI M).toBitVec.toNat = M := pk_tn (by omega)
    have g2 : ((x &&& nI M).toBitVec).toNat = x.toBitVec.toNat &&& M := by
      show (x.toBitVec &&& (nI M).toBitVec).toNat = _
      rw [BitVec.toNat_and, g1]
    have g3 : (x.toBitVec.toNat &&& M) < 64 := Nat.lt_of_le_of_lt Nat.and_le_right hM
    rw [g2, Nat.and_assoc, Nat.and_self, pk_tn (by omega)]
  · rw [Nat.and_assoc, Nat.and_self]
theorem zsub_M {M : Nat} {x : Int32} : (if x &&& (nI M ^^^ (-1)) = 0 then (1 : Int32) else 0) = (if zsub M x = true then 1 else 0) := by
  unfold zsub
  by_cases h : x &&& (nI M ^^^ (-1)) = 0 <;> simp [h]
def sp_X5_row : zSp := fun b cy as N E P => ∃ x i : Int32, zPX (op_row x i) [.int x, .int i] b cy as N E P
abbrev rm_X5_row : Room := { frames := 16, cells := 0, slots := 0, locals := 552 }
def B_X5_row_53 (b n0 : Nat) (cy : zY) (P : zPo) (A : Nat → zC) : zC :=
  z_iret 0 0 P
def B_X5_row_27 (b n0 : Nat) (cy : zY) (P : zPo) (A : Nat → zC) : zC :=
  z_const (-1) (z_iret 0 0 P)
def B_X5_row_0 (b n0 : Nat) (cy : zY) (P : zPo) (A : Nat → zC) : zC :=
  z_aload 0 (z_get b n0 5 3 (z_get b n0 0 0 (z_astore 3 (z_aload 3 (z_iload 1 (z_callV b n0 0 0 cy 1 1 0 0 sp_X1_areAboard (z_if (fun x => x = 0) (B_X5_row_27 b n0 cy P A) (z_iload 2 (z_const (-1) (z_icmp (fun x y => x < y) (B_X5_row_27 b n0 cy P A) (z_iload 2 (z_const (6) (z_icmp (fun x y => x < y) (z_iload 2 (z_if (fun x => 0 ≤ x) (z_aload 3 (z_iload 1 (z_iload 2 (z_callS b n0 0 0 cy 3 0 0 sp_X5_ringerAt (B_X5_row_53 b n0 cy P A))))) (z_aload 3 (z_iload 1 (z_aload 3 (z_get b n0 1 1 (z_const (0) (z_const (0) (z_callS b n0 0 0 cy 5 0 0 (sp_X5_rowsFrom 8) (B_X5_row_53 b n0 cy P A)))))))))) (B_X5_row_27 b n0 cy P A))))))))))))))
def zVC_X5_row (sp : zSp) : Prop := ∀ (b : Nat) (cy : zY) (n : Nat) (as : List Value) (E : zE) (P : zPo) (A : Nat → zC), sp b cy as n E P → zgood as 4 ∧ B_X5_row_0 b n cy P A (lv_args 0 as) [] 0 0 E

set_option maxRecDepth 100000 in
set_option maxHeartbeats 4000000 in
theorem vc_X5_row : zVC_X5_row sp_X5_row := by
  intro b cy N as E P A hsp
  obtain ⟨x, i, K, ⟨T, D, C, I, S, tr⟩, rfl, hbc, hok, hK, hN, hP⟩ := hsp
  refine ⟨⟨Nat.le_of_ble_eq_true rfl, zg1 rfl (zg1 rfl (zg1 rfl (zg0)))⟩, ?_⟩
  obtain ⟨e0, hTx, ⟨seat, items, hTo⟩, hDr, hIm, hIs, hAh, hSn, hI0, hI1⟩ := id hbc
  have hp2 := hbc.p2 hok hN
  obtain ⟨hp1, e11⟩ := id hp2
  obtain ⟨hR, hmo, hmk, hi12, _⟩ := id hp1
  obtain ⟨hn1, mf, mg, mh, m0, m1, m2, m3, hmf, hmg, hmh⟩ := id hmo
  obtain ⟨_, tf, tg, th, t0, t1, t2, t3, htf, htg, hth⟩ := id hTo
  replace m1 : E 13 = _ := m1
  replace m2 : E 14 = _ := m2
  replace m3 : E 15 = _ := m3
  replace t1 : E 4 = _ := t1
  replace t2 : E 5 = _ := t2
  replace t3 : E 6 = _ := t3
  have hpa : zPa b cy E 16 D.1 C.2.1 C.2.2 := hIm.2.2
  have hlo := hok.2.1
  have N0 : 0 < N := by omega
  have N1 : 1 < N := by omega
  have N2 : 2 < N := by omega
  have N3 : 3 < N := by omega
  have N4 : 4 < N := by omega
  have N5 : 5 < N := by omega
  have N6 : 6 < N := by omega
  have N7 : 7 < N := by omega
  have N11 : 11 < N := by omega
  have N12 : 12 < N := by omega
  have N13 : 13 < N := by omega
  have N14 : 14 < N := by omega
  have N15 : 15 < N := by omega
  have N16 : 16 < N := by omega
  have N58 : 58 < N := by omega
  have N59 : 59 < N := by omega
  have N63 : 63 < N := by omega
  have N64 : 64 < N := by omega
  have N65 : 65 < N := by omega
  have N112 : 112 < N := by omega
  replace hP := hP E hbc (fun _ _ => rfl)
  simp only [op_row] at hP
  have k6 : (6 : Int32) = nI 6 := rfl
  simp only [B_X5_row_0, B_X5_row_27, B_X5_row_53, e_cut, e_iload, e_aload, e_istore, e_astore, e_iinc, e_const, e_lconst, e_bin, e_bin0, e_un, e_ladd, e_dupi, e_dupr, e_dup2, e_pop, e_if, e_icmp, e_sw, e_sw0, e_sw1, e_get, e_put, e_ald, e_ast, e_aald, e_aast, e_copy, e_new, e_newa, e_anewa, e_min, e_abs, e_oinit, e_callI, e_callV, e_callS, e_iret, e_zret, e_lret, e_vret, e_tl1, e_tl0, e_tl2, e_tl3, z10, Bool.false_eq_true, e_argi, e_argr, e_argn, zld_c, zst_n, zst_c, zpick_n, zpick_c, List.drop_succ_cons, List.drop_zero, List.take_succ_cons, List.take_zero, List.length_cons, List.length_nil, List.reverse_cons, List.reverse_nil, List.nil_append, List.cons_append, List.append_nil, List.getElem?_cons_zero, List.getElem?_cons_succ, List.set_cons_zero, List.set_cons_succ, Nat.add_sub_cancel_left, Nat.sub_self, Nat.add_zero, Nat.zero_add, Nat.le_add_right, Nat.le_refl, true_and, and_true, va_rf, zok, Nat.add_left_cancel_iff, Nat.add_eq_left, Nat.left_eq_add, eq_self, if_true, if_false, not_false_eq_true, not_true_eq_false, false_implies, true_implies, Nat.reduceEqDiff, Nat.reduceAdd, Nat.reduceLT, Nat.reduceLeDiff, reduceIte, zB0, e0, N0, N1, N2, N3, N4, N5, N6, N7, N11, N12, N13, N14, N15, N16, N58, N59, N63, N64, N65, N112, e11, m0]
  refine ⟨12, D.1, x, _, rfl, hmo, hi12, ?_⟩
  rw [zsub_M]
  by_cases q1 : zsub (C.1 1) x = true
  · obtain ⟨Z, hZ, rfl, hZM⟩ := zsub_t hmk.l64 q1
    simp only [q1, true_and, zcl_i (show Z < 2 ^ 31 by omega)] at hP
    simp only [e_cut, e_iload, e_aload, e_istore, e_astore, e_iinc, e_const, e_lconst, e_bin, e_bin0, e_un, e_ladd, e_dupi, e_dupr, e_dup2, e_pop, e_if, e_icmp, e_sw, e_sw0, e_sw1, e_get, e_put, e_ald, e_ast, e_aald, e_aast, e_copy, e_new, e_newa, e_anewa, e_min, e_abs, e_oinit, e_callI, e_callV, e_callS, e_iret, e_zret, e_lret, e_vret, e_tl1, e_tl0, e_tl2, e_tl3, z10, Bool.false_eq_true, e_argi, e_argr, e_argn, zld_c, zst_n, zst_c, zpick_n, zpick_c, List.drop_succ_cons, List.drop_zero, List.take_succ_cons, List.take_zero, List.length_cons, List.length_nil, List.reverse_cons, List.reverse_nil, List.nil_append, List.cons_append, List.append_nil, List.getElem?_cons_zero, List.getElem?_cons_succ, List.set_cons_zero, List.set_cons_succ, Nat.add_sub_cancel_left, Nat.sub_self, Nat.add_zero, Nat.zero_add, Nat.le_add_right, Nat.le_refl, true_and, and_true, va_rf, zok, Nat.add_left_cancel_iff, Nat.add_eq_left, Nat.left_eq_add, eq_self, if_true, if_false, not_false_eq_true, not_true_eq_false, false_implies, true_implies, Nat.reduceEqDiff, Nat.reduceAdd, Nat.reduceLT, Nat.reduceLeDiff, reduceIte, q1, k6]
    have z1 : (-1 : Int32) < 0 := by decide
    refine ⟨fun c1 => ?_, fun c1 => ⟨fun c2 => ⟨fun c3 => ?_, fun c3 => ?_⟩, fun c2 => ?_⟩⟩
    · have g1 : ¬ i = -1 := fun h => by rw [h] at c1; exact absurd c1 (by decide)
      have g2 : ¬ zisB 6 i = true := zisB_f1 (by rw [fa_lt' ] at c1 ⊢; have : (-1 : Int32).toInt = -1 := rfl; have h0 : (0 : Int32).toInt = 0 := rfl; omega)
      rw [if_neg (fun h => h.elim g1 g2)] at hP
      exact hP
    · have g2 : zisB 6 i = true := zisB_i (by rw [fa_lt']; rw [fa_le'] at c3; omega) (by rw [fa_lt'] at c2; rw [fa_le']; omega)
      have g1 : ¬ i = -1 := fun h => by rw [h] at c3; exact absurd c3 (by decide)
      rw [if_pos (Or.inr g2), if_neg g1] at hP
      obtain ⟨t, ht, rfl⟩ := zisB_u g2 (by omega)
      rw [zcl_i (show t < 2 ^ 31 by omega)] at hP
      refine ⟨_, _, _, 12, _, Z, t, rfl, hp1, hZ, ht, ?_⟩
      simp only [e_cut, e_iload, e_aload, e_istore, e_astore, e_iinc, e_const, e_lconst, e_bin, e_bin0, e_un, e_ladd, e_dupi, e_dupr, e_dup2, e_pop, e_if, e_icmp, e_sw, e_sw0, e_sw1, e_get, e_put, e_ald, e_ast, e_aald, e_aast, e_copy, e_new, e_newa, e_anewa, e_min, e_abs, e_oinit, e_callI, e_callV, e_callS, e_iret, e_zret, e_lret, e_vret, e_tl1, e_tl0, e_tl2, e_tl3, z10, Bool.false_eq_true, e_argi, e_argr, e_argn, zld_c, zst_n, zst_c, zpick_n, zpick_c, List.drop_succ_cons, List.drop_zero, List.take_succ_cons, List.take_zero, List.length_cons, List.length_nil, List.reverse_cons, List.reverse_nil, List.nil_append, List.cons_append, List.append_nil, List.getElem?_cons_zero, List.getElem?_cons_succ, List.set_cons_zero, List.set_cons_succ, Nat.add_sub_cancel_left, Nat.sub_self, Nat.add_zero, Nat.zero_add, Nat.le_add_right, Nat.le_refl, true_and, and_true, va_rf, zok, Nat.add_left_cancel_iff, Nat.add_eq_left, Nat.left_eq_add, eq_self, if_true, if_false, not_false_eq_true, not_true_eq_false, false_implies, true_implies, Nat.reduceEqDiff, Nat.reduceAdd, Nat.reduceLT, Nat.reduceLeDiff, reduceIte, B_X5_row_0, B_X5_row_27, B_X5_row_53]
      exact hP
    · have g1 : i = -1 := by
        rw [fa_eq']
        rw [fa_lt'] at c1
        rw [fa_le'] at c3
        have : (-1 : Int32).toInt = -1 := rfl
        have h0 : (0 : Int32).toInt = 0 := rfl
        omega
      rw [if_pos (Or.inl g1), if_pos g1] at hP
      simp only [e_cut, e_iload, e_aload, e_istore, e_astore, e_iinc, e_const, e_lconst, e_bin, e_bin0, e_un, e_ladd, e_dupi, e_dupr, e_dup2, e_pop, e_if, e_icmp, e_sw, e_sw0, e_sw1, e_get, e_put, e_ald, e_ast, e_aald, e_aast, e_copy, e_new, e_newa, e_anewa, e_min, e_abs, e_oinit, e_callI, e_callV, e_callS, e_iret, e_zret, e_lret, e_vret, e_tl1, e_tl0, e_tl2, e_tl3, z10, Bool.false_eq_true, e_argi, e_argr, e_argn, zld_c, zst_n, zst_c, zpick_n, zpick_c, List.drop_succ_cons, List.drop_zero, List.take_succ_cons, List.take_zero, List.length_cons, List.length_nil, List.reverse_cons, List.reverse_nil, List.nil_append, List.cons_append, List.append_nil, List.getElem?_cons_zero, List.getElem?_cons_succ, List.set_cons_zero, List.set_cons_succ, Nat.add_sub_cancel_left, Nat.sub_self, Nat.add_zero, Nat.zero_add, Nat.le_add_right, Nat.le_refl, true_and, and_true, va_rf, zok, Nat.add_left_cancel_iff, Nat.add_eq_left, Nat.left_eq_add, eq_self, if_true, if_false, not_false_eq_true, not_true_eq_false, false_implies, true_implies, Nat.reduceEqDiff, Nat.reduceAdd, Nat.reduceLT, Nat.reduceLeDiff, reduceIte, zB0, e0, N0, N1, N2, N3, N4, N5, N6, N7, N11, N12, N13, N14, N15, N16, N58, N59, N63, N64, N65, N112, m0]
      refine ⟨_, _, _, 12, _, Z, C.1 1, 0, 6, rfl, hp1, hZ, hmk.l64, hmk.2.1, by omega, by omega, by omega, ?_⟩
      simp only [e_cut, e_iload, e_aload, e_istore, e_astore, e_iinc, e_const, e_lconst, e_bin, e_bin0, e_un, e_ladd, e_dupi, e_dupr, e_dup2, e_pop, e_if, e_icmp, e_sw, e_sw0, e_sw1, e_get, e_put, e_ald, e_ast, e_aald, e_aast, e_copy, e_new, e_newa, e_anewa, e_min, e_abs, e_oinit, e_callI, e_callV, e_callS, e_iret, e_zret, e_lret, e_vret, e_tl1, e_tl0, e_tl2, e_tl3, z10, Bool.false_eq_true, e_argi, e_argr, e_argn, zld_c, zst_n, zst_c, zpick_n, zpick_c, List.drop_succ_cons, List.drop_zero, List.take_succ_cons, List.take_zero, List.length_cons, List.length_nil, List.reverse_cons, List.reverse_nil, List.nil_append, List.cons_append, List.append_nil, List.getElem?_cons_zero, List.getElem?_cons_succ, List.set_cons_zero, List.set_cons_succ, Nat.add_sub_cancel_left, Nat.sub_self, Nat.add_zero, Nat.zero_add, Nat.le_add_right, Nat.le_refl, true_and, and_true, va_rf, zok, Nat.add_left_cancel_iff, Nat.add_eq_left, Nat.left_eq_add, eq_self, if_true, if_false, not_false_eq_true, not_true_eq_false, false_implies, true_implies, Nat.reduceEqDiff, Nat.reduceAdd, Nat.reduceLT, Nat.reduceLeDiff, reduceIte, B_X5_row_0, B_X5_row_27, B_X5_row_53]
      exact hP
    · have g1 : ¬ i = -1 := fun h => by rw [h] at c2; exact absurd (by decide : (-1 : Int32) < nI 6) c2
      have g2 : ¬ zisB 6 i = true := zisB_f2 (by rw [fa_lt'] at c2; rw [fa_le']; omega)
      rw [if_neg (fun h => h.elim g1 g2)] at hP
      exact hP
  · rw [if_neg (fun h => q1 h.1)] at hP
    simp only [e_cut, e_iload, e_aload, e_istore, e_astore, e_iinc, e_const, e_lconst, e_bin, e_bin0, e_un, e_ladd, e_dupi, e_dupr, e_dup2, e_pop, e_if, e_icmp, e_sw, e_sw0, e_sw1, e_get, e_put, e_ald, e_ast, e_aald, e_aast, e_copy, e_new, e_newa, e_anewa, e_min, e_abs, e_oinit, e_callI, e_callV, e_callS, e_iret, e_zret, e_lret, e_vret, e_tl1, e_tl0, e_tl2, e_tl3, z10, Bool.false_eq_true, e_argi, e_argr, e_argn, zld_c, zst_n, zst_c, zpick_n, zpick_c, List.drop_succ_cons, List.drop_zero, List.take_succ_cons, List.take_zero, List.length_cons, List.length_nil, List.reverse_cons, List.reverse_nil, List.nil_append, List.cons_append, List.append_nil, List.getElem?_cons_zero, List.getElem?_cons_succ, List.set_cons_zero, List.set_cons_succ, Nat.add_sub_cancel_left, Nat.sub_self, Nat.add_zero, Nat.zero_add, Nat.le_add_right, Nat.le_refl, true_and, and_true, va_rf, zok, Nat.add_left_cancel_iff, Nat.add_eq_left, Nat.left_eq_add, eq_self, if_true, if_false, not_false_eq_true, not_true_eq_false, false_implies, true_implies, Nat.reduceEqDiff, Nat.reduceAdd, Nat.reduceLT, Nat.reduceLeDiff, reduceIte, q1, B_X5_row_0, B_X5_row_27, B_X5_row_53]
    exact hP
set_option maxRecDepth 20000 in
theorem f_X5_row_29 : Cond.fieldLink RX5 29 (TX5 3).1 (TX5 3).2.1 (TX5 3).2.2.1 ∈ wsX5_row := by decide +kernel
set_option maxRecDepth 20000 in
theorem k_X5_row_5 : ∀ w ∈ u_ws RX5 TX5 11, w ∈ wsX5_row := fun _ h => List.mem_cons_of_mem _ (List.mem_append_left _ (List.mem_append_left _ (List.mem_append_right _ h)))
set_option maxRecDepth 20000 in
theorem f_X5_row_76 : Cond.fieldLink RX5 76 (TX0 0).1 (TX0 0).2.1 (TX0 0).2.2.1 ∈ wsX5_row := by decide +kernel
set_option maxRecDepth 20000 in
theorem k_X5_row_0 : ∀ w ∈ u_ws RX0 TX0 2, w ∈ wsX5_row := fun _ h => List.mem_cons_of_mem _ (List.mem_append_left _ (List.mem_append_right _ h))
set_option maxRecDepth 20000 in
theorem f_X5_row_98 : Cond.fieldLink RX5 98 (TX1 1).1 (TX1 1).2.1 (TX1 1).2.2.1 ∈ wsX5_row := by decide +kernel
set_option maxRecDepth 20000 in
theorem k_X5_row_1 : ∀ w ∈ u_ws RX1 TX1 7, w ∈ wsX5_row := fun _ h => List.mem_cons_of_mem _ (List.mem_append_right _ h)
set_option maxRecDepth 100000 in
set_option maxHeartbeats 4000000 in
theorem S_X5_row_53 {p : Program} {e : Env} {s : State} {m : MethodId} {args : Array Value} {below : List Frame} {meth : Method} {c : Code} {D : va_G} {cy : zY} {b n0 : Nat} {P : zPo} (la : Launch) (X : zX p la e (rm_X5_row) s m args below meth c 4 D cy b n0 cX5_row wsX5_row RX5) (hr : meth.sig.returnType = (some .int)) (h_X1_areAboard : zMet la yX1_areAboard wsX1_areAboard rm_X1_areAboard 0 0 sp_X1_areAboard) (h_X5_ringerAt : zMet la yX5_ringerAt wsX5_ringerAt rm_X5_ringerAt 0 0 sp_X5_ringerAt) (h_X5_rowsFrom : zMet la yX5_rowsFrom wsX5_rowsFrom (rm_rec 8) 0 0 (sp_X5_rowsFrom 8)) : zS p la e (rm_X5_row) s m args below meth c (MQ below (zQ D b (n0 + 0) P) args s 0 0 (fun q => b ≤ q)) 4 D b n0 53 (B_X5_row_53 b n0 cy P (zAt p la e (rm_X5_row) s m args below meth c (MQ below (zQ D b (n0 + 0) P) args s 0 0 (fun q => b ≤ q)) 4 D b n0)) := by
  unfold B_X5_row_53
  exact (s_iret X dX5_row_53 hr)
set_option maxRecDepth 100000 in
set_option maxHeartbeats 4000000 in
theorem S_X5_row_27 {p : Program} {e : Env} {s : State} {m : MethodId} {args : Array Value} {below : List Frame} {meth : Method} {c : Code} {D : va_G} {cy : zY} {b n0 : Nat} {P : zPo} (la : Launch) (X : zX p la e (rm_X5_row) s m args below meth c 4 D cy b n0 cX5_row wsX5_row RX5) (hr : meth.sig.returnType = (some .int)) (h_X1_areAboard : zMet la yX1_areAboard wsX1_areAboard rm_X1_areAboard 0 0 sp_X1_areAboard) (h_X5_ringerAt : zMet la yX5_ringerAt wsX5_ringerAt rm_X5_ringerAt 0 0 sp_X5_ringerAt) (h_X5_rowsFrom : zMet la yX5_rowsFrom wsX5_rowsFrom (rm_rec 8) 0 0 (sp_X5_rowsFrom 8)) : zS p la e (rm_X5_row) s m args below meth c (MQ below (zQ D b (n0 + 0) P) args s 0 0 (fun q => b ≤ q)) 4 D b n0 27 (B_X5_row_27 b n0 cy P (zAt p la e (rm_X5_row) s m args below meth c (MQ below (zQ D b (n0 + 0) P) args s 0 0 (fun q => b ≤ q)) 4 D b n0)) := by
  unfold B_X5_row_27
  exact (s_iconst X dX5_row_27 (by decide) (s_iret X dX5_row_28 hr))
set_option maxRecDepth 100000 in
set_option maxHeartbeats 4000000 in
theorem S_X5_row_0 {p : Program} {e : Env} {s : State} {m : MethodId} {args : Array Value} {below : List Frame} {meth : Method} {c : Code} {D : va_G} {cy : zY} {b n0 : Nat} {P : zPo} (la : Launch) (X : zX p la e (rm_X5_row) s m args below meth c 4 D cy b n0 cX5_row wsX5_row RX5) (hr : meth.sig.returnType = (some .int)) (h_X1_areAboard : zMet la yX1_areAboard wsX1_areAboard rm_X1_areAboard 0 0 sp_X1_areAboard) (h_X5_ringerAt : zMet la yX5_ringerAt wsX5_ringerAt rm_X5_ringerAt 0 0 sp_X5_ringerAt) (h_X5_rowsFrom : zMet la yX5_rowsFrom wsX5_rowsFrom (rm_rec 8) 0 0 (sp_X5_rowsFrom 8)) : zS p la e (rm_X5_row) s m args below meth c (MQ below (zQ D b (n0 + 0) P) args s 0 0 (fun q => b ≤ q)) 4 D b n0 0 (B_X5_row_0 b n0 cy P (zAt p la e (rm_X5_row) s m args below meth c (MQ below (zQ D b (n0 + 0) P) args s 0 0 (fun q => b ≤ q)) 4 D b n0)) := by
  unfold B_X5_row_0
  exact (s_aload_n X dX5_row_0 rfl (s_get X dX5_row_1 rfl k_X5_row_5 (by decide) f_X5_row_29 (s_get X dX5_row_4 rfl k_X5_row_0 (by decide) f_X5_row_76 (s_astore_n X dX5_row_7 rfl (by decide) (s_aload_n X dX5_row_8 rfl (s_iload_n X dX5_row_9 rfl (s_callV X h_X1_areAboard dX5_row_10 rfl gX5_row_X1_areAboard rfl rfl rfl (by decide +kernel) ⟨by decide, by decide⟩ (s_if_eq X dX5_row_13 (by decide) (S_X5_row_27 la X hr h_X1_areAboard h_X5_ringerAt h_X5_rowsFrom) (s_iload_n X dX5_row_16 rfl (s_iconst X dX5_row_17 (by decide) (s_icmp_lt X dX5_row_18 (by decide) (S_X5_row_27 la X hr h_X1_areAboard h_X5_ringerAt h_X5_rowsFrom) (s_iload_n X dX5_row_21 rfl (s_bipush X dX5_row_22 (by decide) (s_icmp_lt X dX5_row_24 (by decide) (s_iload_n X dX5_row_29 rfl (s_if_ge X dX5_row_30 (by decide) (s_aload_n X dX5_row_47 rfl (s_iload_n X dX5_row_48 rfl (s_iload_n X dX5_row_49 rfl (s_callS X h_X5_ringerAt dX5_row_50 gX5_row_X5_ringerAt rfl rfl rfl (by decide +kernel) ⟨by decide, by decide⟩ (S_X5_row_53 la X hr h_X1_areAboard h_X5_ringerAt h_X5_rowsFrom))))) (s_aload_n X dX5_row_33 rfl (s_iload_n X dX5_row_34 rfl (s_aload_n X dX5_row_35 rfl (s_get X dX5_row_36 rfl k_X5_row_1 (by decide) f_X5_row_98 (s_iconst X dX5_row_39 (by decide) (s_iconst X dX5_row_40 (by decide) (s_callS X h_X5_rowsFrom dX5_row_41 gX5_row_X5_rowsFrom rfl rfl rfl (by decide +kernel) ⟨by decide, by decide⟩ (s_goto X dX5_row_44 (by decide) (S_X5_row_53 la X hr h_X1_areAboard h_X5_ringerAt h_X5_rowsFrom))))))))))) (S_X5_row_27 la X hr h_X1_areAboard h_X5_ringerAt h_X5_rowsFrom)))))))))))))))
theorem w_X5_row (la : Launch) (h_X1_areAboard : zMet la yX1_areAboard wsX1_areAboard rm_X1_areAboard 0 0 sp_X1_areAboard) (h_X5_ringerAt : zMet la yX5_ringerAt wsX5_ringerAt rm_X5_ringerAt 0 0 sp_X5_ringerAt) (h_X5_rowsFrom : zMet la yX5_rowsFrom wsX5_rowsFrom (rm_rec 8) 0 0 (sp_X5_rowsFrom 8)) (sp : zSp) (vc : zVC_X5_row sp) : zMet la yX5_row wsX5_row (rm_X5_row) 0 0 sp :=
  z_of (cc := cX5_row) (maxL := 4) (ret := (some .int)) (by decide +kernel) rfl (fun p e s m args below meth c D cy b n as E P hsp X hr hin => by
    obtain ⟨h1, h2⟩ := vc b cy n as E P (zAt p la e (rm_X5_row) s m args below meth c (MQ below (zQ D b (n + 0) P) args s 0 0 (fun q => b ≤ q)) 4 D b n) hsp
    exact ⟨h1, S_X5_row_0 la X hr h_X1_areAboard h_X5_ringerAt h_X5_rowsFrom _ _ _ _ _ h2⟩)

theorem m_X5_row (la : Launch) : zMet la yX5_row wsX5_row rm_X5_row 0 0 sp_X5_row := w_X5_row la (m_X1_areAboard la) (m_X5_ringerAt la) (m_X5_rowsFrom la 8) _ vc_X5_row
def sp_X5_soon : zSp := fun b cy as N E P => ∃ x : Int32, zPX (op_soon x) [.int x] b cy as N E P
abbrev rm_X5_soon : Room := { frames := 14, cells := 0, slots := 0, locals := 500 }
def B_X5_soon_76 (b n0 : Nat) (cy : zY) (P : zPo) (A : Nat → zC) : zC :=
  z_iret 0 0 P
def B_X5_soon_0 (b n0 : Nat) (cy : zY) (P : zPo) (A : Nat → zC) : zC :=
  z_aload 0 (z_get b n0 5 3 (z_get b n0 0 0 (z_astore 2 (z_aload 2 (z_iload 1 (z_callV b n0 0 0 cy 1 1 0 0 sp_X1_areAboard (z_if (fun x => x = 0) (z_const (-1) (z_iret 0 0 P)) (z_aload 2 (z_iload 1 (z_aload 2 (z_get b n0 1 1 (z_const (0) (z_const (0) (z_callS b n0 0 0 cy 5 0 0 (sp_X5_rowsFrom 8) (z_if (fun x => x ≤ 0) (z_aload 0 (z_get b n0 5 6 (z_aload 2 (z_callV b n0 0 0 cy 1 1 0 0 sp_X1_copyFrom (z_aload 0 (z_aload 0 (z_get b n0 5 6 (z_callV b n0 0 0 cy 5 1 0 0 sp_X5_ride (z_aload 0 (z_get b n0 5 6 (z_iload 1 (z_aload 0 (z_get b n0 5 6 (z_get b n0 1 1 (z_const (0) (z_const (0) (z_callS b n0 0 0 cy 5 0 0 (sp_X5_rowsFrom 8) (z_if (fun x => x ≤ 0) (z_const (-9) (B_X5_soon_76 b n0 cy P A)) (z_const (1) (B_X5_soon_76 b n0 cy P A)))))))))))))))))))) (z_const (0) (z_iret 0 0 P)))))))))))))))))
def zVC_X5_soon (sp : zSp) : Prop := ∀ (b : Nat) (cy : zY) (n : Nat) (as : List Value) (E : zE) (P : zPo) (A : Nat → zC), sp b cy as n E P → zgood as 3 ∧ B_X5_soon_0 b n cy P A (lv_args 0 as) [] 0 0 E

theorem zBC.ahead {b : Nat} {cy : zY} {E : zE} {a : zA} (h : zBC b cy E a) {E' : zE} (hA : zSh b cy E' 59) (hE : ∀ j, j < 59 ∨ 62 < j → E' j = E j) : zBC b cy E' a := by
  obtain ⟨T, D, C, I, S, tr⟩ := a
  obtain ⟨h0, h1, ⟨seat, items, h2⟩, h3, h4, ⟨f, h5, h6, h7⟩, h8, h9, h10, h11⟩ := h
  exact ⟨by rw [hE _ (by omega)]; exact h0, h1.congr (fun j _ _ => hE j (by omega)), ⟨seat, items, h2.congr (fun j _ _ => hE j (by omega))⟩, h3.congr (fun j _ _ => hE j (by omega)), h4.congr (fun j _ _ => hE j (by omega)), ⟨f, by rw [hE _ (by omega)]; exact h5, h6, h7⟩, hA, h9.congr (hE _ (by omega)) (hE _ (by omega)) (hE _ (by omega)), h10.congr (fun j _ _ => hE j (by omega)), h11.congr (fun j _ _ => hE j (by omega))⟩
set_option maxRecDepth 100000 in
set_option maxHeartbeats 4000000 in
theorem vc_X5_soon : zVC_X5_soon sp_X5_soon := by
  intro b cy N as E P A hsp
  obtain ⟨x, K, ⟨T, D, C, I, S, tr⟩, rfl, hbc, hok, hK, hN, hP⟩ := hsp
  refine ⟨⟨Nat.le_of_ble_eq_true rfl, zg1 rfl (zg1 rfl (zg0))⟩, ?_⟩
  obtain ⟨e0, hTx, ⟨seat, items, hTo⟩, hDr, hIm, hIs, hAh, hSn, hI0, hI1⟩ := id hbc
  have hp2 := hbc.p2 hok hN
  obtain ⟨hp1, e11⟩ := id hp2
  obtain ⟨hR, hmo, hmk, hi12, _⟩ := id hp1
  obtain ⟨hn1, mf, mg, mh, m0, m1, m2, m3, hmf, hmg, hmh⟩ := id hmo
  obtain ⟨_, tf, tg, th, t0, t1, t2, t3, htf, htg, hth⟩ := id hTo
  replace m1 : E 13 = _ := m1
  replace m2 : E 14 = _ := m2
  replace m3 : E 15 = _ := m3
  replace t1 : E 4 = _ := t1
  replace t2 : E 5 = _ := t2
  replace t3 : E 6 = _ := t3
  have hpa : zPa b cy E 16 D.1 C.2.1 C.2.2 := hIm.2.2
  have hlo := hok.2.1
  have N0 : 0 < N := by omega
  have N1 : 1 < N := by omega
  have N2 : 2 < N := by omega
  have N3 : 3 < N := by omega
  have N4 : 4 < N := by omega
  have N5 : 5 < N := by omega
  have N6 : 6 < N := by omega
  have N7 : 7 < N := by omega
  have N11 : 11 < N := by omega
  have N12 : 12 < N := by omega
  have N13 : 13 < N := by omega
  have N14 : 14 < N := by omega
  have N15 : 15 < N := by omega
  have N16 : 16 < N := by omega
  have N58 : 58 < N := by omega
  have N59 : 59 < N := by omega
  have N63 : 63 < N := by omega
  have N64 : 64 < N := by omega
  have N65 : 65 < N := by omega
  have N112 : 112 < N := by omega
  have hC0 := hok.2.2.2.2.2.1.2.1
  have hC2 := hok.2.2.2.2.2.1.2.2.1
  simp only [op_soon] at hP
  simp only [B_X5_soon_0, B_X5_soon_76, e_cut, e_iload, e_aload, e_istore, e_astore, e_iinc, e_const, e_lconst, e_bin, e_bin0, e_un, e_ladd, e_dupi, e_dupr, e_dup2, e_pop, e_if, e_icmp, e_sw, e_sw0, e_sw1, e_get, e_put, e_ald, e_ast, e_aald, e_aast, e_copy, e_new, e_newa, e_anewa, e_min, e_abs, e_oinit, e_callI, e_callV, e_callS, e_iret, e_zret, e_lret, e_vret, e_tl1, e_tl0, e_tl2, e_tl3, z10, Bool.false_eq_true, e_argi, e_argr, e_argn, zld_c, zst_n, zst_c, zpick_n, zpick_c, List.drop_succ_cons, List.drop_zero, List.take_succ_cons, List.take_zero, List.length_cons, List.length_nil, List.reverse_cons, List.reverse_nil, List.nil_append, List.cons_append, List.append_nil, List.getElem?_cons_zero, List.getElem?_cons_succ, List.set_cons_zero, List.set_cons_succ, Nat.add_sub_cancel_left, Nat.sub_self, Nat.add_zero, Nat.zero_add, Nat.le_add_right, Nat.le_refl, true_and, and_true, va_rf, zok, Nat.add_left_cancel_iff, Nat.add_eq_left, Nat.left_eq_add, eq_self, if_true, if_false, not_false_eq_true, not_true_eq_false, false_implies, true_implies, Nat.reduceEqDiff, Nat.reduceAdd, Nat.reduceLT, Nat.reduceLeDiff, reduceIte, zB0, e0, N0, N1, N2, N3, N4, N5, N6, N7, N11, N12, N13, N14, N15, N16, N58, N59, N63, N64, N65, N112, e11, m0]
  refine ⟨12, D.1, x, _, rfl, hmo, hi12, ?_⟩
  rw [zsub_M]
  have hgt : ∀ v : Nat, v < 2 ^ 31 → (nI v ≤ 0) = (v = 0) := fun v hv => by
    have k0 : (0 : Int32) = nI 0 := rfl
    rw [k0]
    exact propext (by rw [nI_leI hv (by omega)]; omega)
  by_cases q1 : zsub (C.1 1) x = true
  · obtain ⟨Z, hZ, rfl, hZM⟩ := zsub_t hmk.l64 q1
    rw [if_pos q1, zcl_i (show Z < 2 ^ 31 by omega)] at hP
    simp only [e_cut, e_iload, e_aload, e_istore, e_astore, e_iinc, e_const, e_lconst, e_bin, e_bin0, e_un, e_ladd, e_dupi, e_dupr, e_dup2, e_pop, e_if, e_icmp, e_sw, e_sw0, e_sw1, e_get, e_put, e_ald, e_ast, e_aald, e_aast, e_copy, e_new, e_newa, e_anewa, e_min, e_abs, e_oinit, e_callI, e_callV, e_callS, e_iret, e_zret, e_lret, e_vret, e_tl1, e_tl0, e_tl2, e_tl3, z10, Bool.false_eq_true, e_argi, e_argr, e_argn, zld_c, zst_n, zst_c, zpick_n, zpick_c, List.drop_succ_cons, List.drop_zero, List.take_succ_cons, List.take_zero, List.length_cons, List.length_nil, List.reverse_cons, List.reverse_nil, List.nil_append, List.cons_append, List.append_nil, List.getElem?_cons_zero, List.getElem?_cons_succ, List.set_cons_zero, List.set_cons_succ, Nat.add_sub_cancel_left, Nat.sub_self, Nat.add_zero, Nat.zero_add, Nat.le_add_right, Nat.le_refl, true_and, and_true, va_rf, zok, Nat.add_left_cancel_iff, Nat.add_eq_left, Nat.left_eq_add, eq_self, if_true, if_false, not_false_eq_true, not_true_eq_false, false_implies, true_implies, Nat.reduceEqDiff, Nat.reduceAdd, Nat.reduceLT, Nat.reduceLeDiff, reduceIte, q1, zB0, e0, N0, N1, N2, N3, N4, N5, N6, N7, N11, N12, N13, N14, N15, N16, N58, N59, N63, N64, N65, N112, m0]
    refine ⟨_, _, _, 12, _, Z, C.1 1, 0, 6, rfl, hp1, hZ, hmk.l64, hmk.2.1, by omega, by omega, by omega, ?_⟩
    have hlt := zrows_lt (c := C.1) (S := Z) (M := C.1 1) (G := 0) hn1 (Nat.le_refl 6)
    simp only [e_cut, e_iload, e_aload, e_istore, e_astore, e_iinc, e_const, e_lconst, e_bin, e_bin0, e_un, e_ladd, e_dupi, e_dupr, e_dup2, e_pop, e_if, e_icmp, e_sw, e_sw0, e_sw1, e_get, e_put, e_ald, e_ast, e_aald, e_aast, e_copy, e_new, e_newa, e_anewa, e_min, e_abs, e_oinit, e_callI, e_callV, e_callS, e_iret, e_zret, e_lret, e_vret, e_tl1, e_tl0, e_tl2, e_tl3, z10, Bool.false_eq_true, e_argi, e_argr, e_argn, zld_c, zst_n, zst_c, zpick_n, zpick_c, List.drop_succ_cons, List.drop_zero, List.take_succ_cons, List.take_zero, List.length_cons, List.length_nil, List.reverse_cons, List.reverse_nil, List.nil_append, List.cons_append, List.append_nil, List.getElem?_cons_zero, List.getElem?_cons_succ, List.set_cons_zero, List.set_cons_succ, Nat.add_sub_cancel_left, Nat.sub_self, Nat.add_zero, Nat.zero_add, Nat.le_add_right, Nat.le_refl, true_and, and_true, va_rf, zok, Nat.add_left_cancel_iff, Nat.add_eq_left, Nat.left_eq_add, eq_self, if_true, if_false, not_false_eq_true, not_true_eq_false, false_implies, true_implies, Nat.reduceEqDiff, Nat.reduceAdd, Nat.reduceLT, Nat.reduceLeDiff, reduceIte, hgt _ hlt]
    refine ⟨fun c1 => ?_, fun c1 => ?_⟩
    · rw [if_neg (by omega)] at hP
      obtain ⟨y0, y1, y2, y3, yf, yg, yh, a0, a1, a2, a3⟩ := id hAh
      simp only [zB0, e0, e_cut, e_iload, e_aload, e_istore, e_astore, e_iinc, e_const, e_lconst, e_bin, e_bin0, e_un, e_ladd, e_dupi, e_dupr, e_dup2, e_pop, e_if, e_icmp, e_sw, e_sw0, e_sw1, e_get, e_put, e_ald, e_ast, e_aald, e_aast, e_copy, e_new, e_newa, e_anewa, e_min, e_abs, e_oinit, e_callI, e_callV, e_callS, e_iret, e_zret, e_lret, e_vret, e_tl1, e_tl0, e_tl2, e_tl3, z10, Bool.false_eq_true, e_argi, e_argr, e_argn, zld_c, zst_n, zst_c, zpick_n, zpick_c, List.drop_succ_cons, List.drop_zero, List.take_succ_cons, List.take_zero, List.length_cons, List.length_nil, List.reverse_cons, List.reverse_nil, List.nil_append, List.cons_append, List.append_nil, List.getElem?_cons_zero, List.getElem?_cons_succ, List.set_cons_zero, List.set_cons_succ, Nat.add_sub_cancel_left, Nat.sub_self, Nat.add_zero, Nat.zero_add, Nat.le_add_right, Nat.le_refl, true_and, and_true, va_rf, zok, Nat.add_left_cancel_iff, Nat.add_eq_left, Nat.left_eq_add, eq_self, if_true, if_false, not_false_eq_true, not_true_eq_false, false_implies, true_implies, Nat.reduceEqDiff, Nat.reduceAdd, Nat.reduceLT, Nat.reduceLeDiff, reduceIte, N0, N1, N2, N3, N4, N5, N6, N7, N11, N12, N13, N14, N15, N16, N58, N59, N63, N64, N65, N112, a0]
      refine ⟨59, 12, _, _, rfl, hAh, hmo, by omega, by omega, by omega, fun E1 hm1 hk1 => ?_⟩
      have f0 : E1 0 = zB0 b (nI (zkm I)) (nI S.1) tr := by rw [hk1 _ (by omega)]; exact e0
      simp only [e_cut, e_iload, e_aload, e_istore, e_astore, e_iinc, e_const, e_lconst, e_bin, e_bin0, e_un, e_ladd, e_dupi, e_dupr, e_dup2, e_pop, e_if, e_icmp, e_sw, e_sw0, e_sw1, e_get, e_put, e_ald, e_ast, e_aald, e_aast, e_copy, e_new, e_newa, e_anewa, e_min, e_abs, e_oinit, e_callI, e_callV, e_callS, e_iret, e_zret, e_lret, e_vret, e_tl1, e_tl0, e_tl2, e_tl3, z10, Bool.false_eq_true, e_argi, e_argr, e_argn, zld_c, zst_n, zst_c, zpick_n, zpick_c, List.drop_succ_cons, List.drop_zero, List.take_succ_cons, List.take_zero, List.length_cons, List.length_nil, List.reverse_cons, List.reverse_nil, List.nil_append, List.cons_append, List.append_nil, List.getElem?_cons_zero, List.getElem?_cons_succ, List.set_cons_zero, List.set_cons_succ, Nat.add_sub_cancel_left, Nat.sub_self, Nat.add_zero, Nat.zero_add, Nat.le_add_right, Nat.le_refl, true_and, and_true, va_rf, zok, Nat.add_left_cancel_iff, Nat.add_eq_left, Nat.left_eq_add, eq_self, if_true, if_false, not_false_eq_true, not_true_eq_false, false_implies, true_implies, Nat.reduceEqDiff, Nat.reduceAdd, Nat.reduceLT, Nat.reduceLeDiff, reduceIte, zB0, f0, N0, N1, N2, N3, N4, N5, N6, N7, N11, N12, N13, N14, N15, N16, N58, N59, N63, N64, N65, N112]
      have hR1 := hR.congr (E' := E1) (fun j hj => hk1 j (by omega))
      refine ⟨_, _, _, 59, _, rfl, ⟨hR1, hm1, hmk, by omega, hN⟩, by omega, by omega, by omega, fun E2 hm2 hk2 => ?_⟩
      have g0 : E2 0 = zB0 b (nI (zkm I)) (nI S.1) tr := by rw [hk2 _ (by omega)]; exact f0
      obtain ⟨_, kf, kg, kh, k0, _⟩ := id hm2
      simp only [e_cut, e_iload, e_aload, e_istore, e_astore, e_iinc, e_const, e_lconst, e_bin, e_bin0, e_un, e_ladd, e_dupi, e_dupr, e_dup2, e_pop, e_if, e_icmp, e_sw, e_sw0, e_sw1, e_get, e_put, e_ald, e_ast, e_aald, e_aast, e_copy, e_new, e_newa, e_anewa, e_min, e_abs, e_oinit, e_callI, e_callV, e_callS, e_iret, e_zret, e_lret, e_vret, e_tl1, e_tl0, e_tl2, e_tl3, z10, Bool.false_eq_true, e_argi, e_argr, e_argn, zld_c, zst_n, zst_c, zpick_n, zpick_c, List.drop_succ_cons, List.drop_zero, List.take_succ_cons, List.take_zero, List.length_cons, List.length_nil, List.reverse_cons, List.reverse_nil, List.nil_append, List.cons_append, List.append_nil, List.getElem?_cons_zero, List.getElem?_cons_succ, List.set_cons_zero, List.set_cons_succ, Nat.add_sub_cancel_left, Nat.sub_self, Nat.add_zero, Nat.zero_add, Nat.le_add_right, Nat.le_refl, true_and, and_true, va_rf, zok, Nat.add_left_cancel_iff, Nat.add_eq_left, Nat.left_eq_add, eq_self, if_true, if_false, not_false_eq_true, not_true_eq_false, false_implies, true_implies, Nat.reduceEqDiff, Nat.reduceAdd, Nat.reduceLT, Nat.reduceLeDiff, reduceIte, zB0, g0, N0, N1, N2, N3, N4, N5, N6, N7, N11, N12, N13, N14, N15, N16, N58, N59, N63, N64, N65, N112, k0, zride_lo.2]
      refine ⟨_, _, _, 59, _, Z, C.1 1, 0, 6, rfl, ⟨hR1.congr (fun j hj => hk2 j (by omega)), hm2, (hmk.ride (by omega) (by omega)).1, by omega, hN⟩, hZ, hmk.l64, hmk.2.1, by omega, by omega, by omega, ?_⟩
      have hlt2 := zrows_lt (c := zride D.1 D.2.1 D.2.2.1 C.1) (S := Z) (M := C.1 1) (G := 0) hn1 (Nat.le_refl 6)
      have hbc2 : zBC b cy E2 (T, D, C, I, S, tr) := hbc.ahead hm2.sh (fun j hj => by rw [hk2 j (by omega), hk1 j (by omega)])
      simp only [e_cut, e_iload, e_aload, e_istore, e_astore, e_iinc, e_const, e_lconst, e_bin, e_bin0, e_un, e_ladd, e_dupi, e_dupr, e_dup2, e_pop, e_if, e_icmp, e_sw, e_sw0, e_sw1, e_get, e_put, e_ald, e_ast, e_aald, e_aast, e_copy, e_new, e_newa, e_anewa, e_min, e_abs, e_oinit, e_callI, e_callV, e_callS, e_iret, e_zret, e_lret, e_vret, e_tl1, e_tl0, e_tl2, e_tl3, z10, Bool.false_eq_true, e_argi, e_argr, e_argn, zld_c, zst_n, zst_c, zpick_n, zpick_c, List.drop_succ_cons, List.drop_zero, List.take_succ_cons, List.take_zero, List.length_cons, List.length_nil, List.reverse_cons, List.reverse_nil, List.nil_append, List.cons_append, List.append_nil, List.getElem?_cons_zero, List.getElem?_cons_succ, List.set_cons_zero, List.set_cons_succ, Nat.add_sub_cancel_left, Nat.sub_self, Nat.add_zero, Nat.zero_add, Nat.le_add_right, Nat.le_refl, true_and, and_true, va_rf, zok, Nat.add_left_cancel_iff, Nat.add_eq_left, Nat.left_eq_add, eq_self, if_true, if_false, not_false_eq_true, not_true_eq_false, false_implies, true_implies, Nat.reduceEqDiff, Nat.reduceAdd, Nat.reduceLT, Nat.reduceLeDiff, reduceIte, hgt _ hlt2, B_X5_soon_0, B_X5_soon_76]
      refine ⟨fun c2 => ?_, fun c2 => ?_⟩
      · rw [if_neg (by omega)] at hP
        exact hP E2 hbc2 (fun j hj => by rw [hk2 j (by omega), hk1 j (by omega)])
      · rw [if_pos (by omega)] at hP
        exact hP E2 hbc2 (fun j hj => by rw [hk2 j (by omega), hk1 j (by omega)])
    · rw [if_pos (by omega)] at hP
      exact hP E hbc (fun _ _ => rfl)
  · rw [if_neg q1] at hP
    simp only [e_cut, e_iload, e_aload, e_istore, e_astore, e_iinc, e_const, e_lconst, e_bin, e_bin0, e_un, e_ladd, e_dupi, e_dupr, e_dup2, e_pop, e_if, e_icmp, e_sw, e_sw0, e_sw1, e_get, e_put, e_ald, e_ast, e_aald, e_aast, e_copy, e_new, e_newa, e_anewa, e_min, e_abs, e_oinit, e_callI, e_callV, e_callS, e_iret, e_zret, e_lret, e_vret, e_tl1, e_tl0, e_tl2, e_tl3, z10, Bool.false_eq_true, e_argi, e_argr, e_argn, zld_c, zst_n, zst_c, zpick_n, zpick_c, List.drop_succ_cons, List.drop_zero, List.take_succ_cons, List.take_zero, List.length_cons, List.length_nil, List.reverse_cons, List.reverse_nil, List.nil_append, List.cons_append, List.append_nil, List.getElem?_cons_zero, List.getElem?_cons_succ, List.set_cons_zero, List.set_cons_succ, Nat.add_sub_cancel_left, Nat.sub_self, Nat.add_zero, Nat.zero_add, Nat.le_add_right, Nat.le_refl, true_and, and_true, va_rf, zok, Nat.add_left_cancel_iff, Nat.add_eq_left, Nat.left_eq_add, eq_self, if_true, if_false, not_false_eq_true, not_true_eq_false, false_implies, true_implies, Nat.reduceEqDiff, Nat.reduceAdd, Nat.reduceLT, Nat.reduceLeDiff, reduceIte, q1]
    exact hP E hbc (fun _ _ => rfl)
set_option maxRecDepth 20000 in
theorem f_X5_soon_29 : Cond.fieldLink RX5 29 (TX5 3).1 (TX5 3).2.1 (TX5 3).2.2.1 ∈ wsX5_soon := by decide +kernel
set_option maxRecDepth 20000 in
theorem k_X5_soon_5 : ∀ w ∈ u_ws RX5 TX5 11, w ∈ wsX5_soon := fun _ h => List.mem_cons_of_mem _ (List.mem_append_left _ (List.mem_append_left _ (List.mem_append_left _ (List.mem_append_right _ h))))
set_option maxRecDepth 20000 in
theorem f_X5_soon_76 : Cond.fieldLink RX5 76 (TX0 0).1 (TX0 0).2.1 (TX0 0).2.2.1 ∈ wsX5_soon := by decide +kernel
set_option maxRecDepth 20000 in
theorem k_X5_soon_0 : ∀ w ∈ u_ws RX0 TX0 2, w ∈ wsX5_soon := fun _ h => List.mem_cons_of_mem _ (List.mem_append_left _ (List.mem_append_left _ (List.mem_append_right _ h)))
set_option maxRecDepth 20000 in
theorem f_X5_soon_98 : Cond.fieldLink RX5 98 (TX1 1).1 (TX1 1).2.1 (TX1 1).2.2.1 ∈ wsX5_soon := by decide +kernel
set_option maxRecDepth 20000 in
theorem k_X5_soon_1 : ∀ w ∈ u_ws RX1 TX1 7, w ∈ wsX5_soon := fun _ h => List.mem_cons_of_mem _ (List.mem_append_left _ (List.mem_append_right _ h))
set_option maxRecDepth 20000 in
theorem f_X5_soon_40 : Cond.fieldLink RX5 40 (TX5 6).1 (TX5 6).2.1 (TX5 6).2.2.1 ∈ wsX5_soon := by decide +kernel
set_option maxRecDepth 100000 in
set_option maxHeartbeats 4000000 in
theorem S_X5_soon_76 {p : Program} {e : Env} {s : State} {m : MethodId} {args : Array Value} {below : List Frame} {meth : Method} {c : Code} {D : va_G} {cy : zY} {b n0 : Nat} {P : zPo} (la : Launch) (X : zX p la e (rm_X5_soon) s m args below meth c 3 D cy b n0 cX5_soon wsX5_soon RX5) (hr : meth.sig.returnType = (some .int)) (h_X1_areAboard : zMet la yX1_areAboard wsX1_areAboard rm_X1_areAboard 0 0 sp_X1_areAboard) (h_X1_copyFrom : zMet la yX1_copyFrom wsX1_copyFrom rm_X1_copyFrom 0 0 sp_X1_copyFrom) (h_X5_ride : zMet la yX5_ride wsX5_ride rm_X5_ride 0 0 sp_X5_ride) (h_X5_rowsFrom : zMet la yX5_rowsFrom wsX5_rowsFrom (rm_rec 8) 0 0 (sp_X5_rowsFrom 8)) : zS p la e (rm_X5_soon) s m args below meth c (MQ below (zQ D b (n0 + 0) P) args s 0 0 (fun q => b ≤ q)) 3 D b n0 76 (B_X5_soon_76 b n0 cy P (zAt p la e (rm_X5_soon) s m args below meth c (MQ below (zQ D b (n0 + 0) P) args s 0 0 (fun q => b ≤ q)) 3 D b n0)) := by
  unfold B_X5_soon_76
  exact (s_iret X dX5_soon_76 hr)
set_option maxRecDepth 100000 in
set_option maxHeartbeats 4000000 in
theorem S_X5_soon_0 {p : Program} {e : Env} {s : State} {m : MethodId} {args : Array Value} {below : List Frame} {meth : Method} {c : Code} {D : va_G} {cy : zY} {b n0 : Nat} {P : zPo} (la : Launch) (X : zX p la e (rm_X5_soon) s m args below meth c 3 D cy b n0 cX5_soon wsX5_soon RX5) (hr : meth.sig.returnType = (some .int)) (h_X1_areAboard : zMet la yX1_areAboard wsX1_areAboard rm_X1_areAboard 0 0 sp_X1_areAboard) (h_X1_copyFrom : zMet la yX1_copyFrom wsX1_copyFrom rm_X1_copyFrom 0 0 sp_X1_copyFrom) (h_X5_ride : zMet la yX5_ride wsX5_ride rm_X5_ride 0 0 sp_X5_ride) (h_X5_rowsFrom : zMet la yX5_rowsFrom wsX5_rowsFrom (rm_rec 8) 0 0 (sp_X5_rowsFrom 8)) : zS p la e (rm_X5_soon) s m args below meth c (MQ below (zQ D b (n0 + 0) P) args s 0 0 (fun q => b ≤ q)) 3 D b n0 0 (B_X5_soon_0 b n0 cy P (zAt p la e (rm_X5_soon) s m args below meth c (MQ below (zQ D b (n0 + 0) P) args s 0 0 (fun q => b ≤ q)) 3 D b n0)) := by
  unfold B_X5_soon_0
  exact (s_aload_n X dX5_soon_0 rfl (s_get X dX5_soon_1 rfl k_X5_soon_5 (by decide) f_X5_soon_29 (s_get X dX5_soon_4 rfl k_X5_soon_0 (by decide) f_X5_soon_76 (s_astore_n X dX5_soon_7 rfl (by decide) (s_aload_n X dX5_soon_8 rfl (s_iload_n X dX5_soon_9 rfl (s_callV X h_X1_areAboard dX5_soon_10 rfl gX5_soon_X1_areAboard rfl rfl rfl (by decide +kernel) ⟨by decide, by decide⟩ (s_if_ne X dX5_soon_13 (by decide) (s_aload_n X dX5_soon_18 rfl (s_iload_n X dX5_soon_19 rfl (s_aload_n X dX5_soon_20 rfl (s_get X dX5_soon_21 rfl k_X5_soon_1 (by decide) f_X5_soon_98 (s_iconst X dX5_soon_24 (by decide) (s_iconst X dX5_soon_25 (by decide) (s_callS X h_X5_rowsFrom dX5_soon_26 gX5_soon_X5_rowsFrom rfl rfl rfl (by decide +kernel) ⟨by decide, by decide⟩ (s_if_le X dX5_soon_29 (by decide) (s_aload_n X dX5_soon_34 rfl (s_get X dX5_soon_35 rfl k_X5_soon_5 (by decide) f_X5_soon_40 (s_aload_n X dX5_soon_38 rfl (s_callV X h_X1_copyFrom dX5_soon_39 rfl gX5_soon_X1_copyFrom rfl rfl rfl (by decide +kernel) ⟨by decide, by decide⟩ (s_aload_n X dX5_soon_42 rfl (s_aload_n X dX5_soon_43 rfl (s_get X dX5_soon_44 rfl k_X5_soon_5 (by decide) f_X5_soon_40 (s_callV X h_X5_ride dX5_soon_47 rfl gX5_soon_X5_ride rfl rfl rfl (by decide +kernel) ⟨by decide, by decide⟩ (s_aload_n X dX5_soon_50 rfl (s_get X dX5_soon_51 rfl k_X5_soon_5 (by decide) f_X5_soon_40 (s_iload_n X dX5_soon_54 rfl (s_aload_n X dX5_soon_55 rfl (s_get X dX5_soon_56 rfl k_X5_soon_5 (by decide) f_X5_soon_40 (s_get X dX5_soon_59 rfl k_X5_soon_1 (by decide) f_X5_soon_98 (s_iconst X dX5_soon_62 (by decide) (s_iconst X dX5_soon_63 (by decide) (s_callS X h_X5_rowsFrom dX5_soon_64 gX5_soon_X5_rowsFrom rfl rfl rfl (by decide +kernel) ⟨by decide, by decide⟩ (s_if_le X dX5_soon_67 (by decide) (s_bipush X dX5_soon_74 (by decide) (S_X5_soon_76 la X hr h_X1_areAboard h_X1_copyFrom h_X5_ride h_X5_rowsFrom)) (s_iconst X dX5_soon_70 (by decide) (s_goto X dX5_soon_71 (by decide) (S_X5_soon_76 la X hr h_X1_areAboard h_X1_copyFrom h_X5_ride h_X5_rowsFrom))))))))))))))))))))) (s_iconst X dX5_soon_32 (by decide) (s_iret X dX5_soon_33 hr)))))))))) (s_iconst X dX5_soon_16 (by decide) (s_iret X dX5_soon_17 hr))))))))))
theorem w_X5_soon (la : Launch) (h_X1_areAboard : zMet la yX1_areAboard wsX1_areAboard rm_X1_areAboard 0 0 sp_X1_areAboard) (h_X1_copyFrom : zMet la yX1_copyFrom wsX1_copyFrom rm_X1_copyFrom 0 0 sp_X1_copyFrom) (h_X5_ride : zMet la yX5_ride wsX5_ride rm_X5_ride 0 0 sp_X5_ride) (h_X5_rowsFrom : zMet la yX5_rowsFrom wsX5_rowsFrom (rm_rec 8) 0 0 (sp_X5_rowsFrom 8)) (sp : zSp) (vc : zVC_X5_soon sp) : zMet la yX5_soon wsX5_soon (rm_X5_soon) 0 0 sp :=
  z_of (cc := cX5_soon) (maxL := 3) (ret := (some .int)) (by decide +kernel) rfl (fun p e s m args below meth c D cy b n as E P hsp X hr hin => by
    obtain ⟨h1, h2⟩ := vc b cy n as E P (zAt p la e (rm_X5_soon) s m args below meth c (MQ below (zQ D b (n + 0) P) args s 0 0 (fun q => b ≤ q)) 3 D b n) hsp
    exact ⟨h1, S_X5_soon_0 la X hr h_X1_areAboard h_X1_copyFrom h_X5_ride h_X5_rowsFrom _ _ _ _ _ h2⟩)

theorem m_X5_soon (la : Launch) : zMet la yX5_soon wsX5_soon rm_X5_soon 0 0 sp_X5_soon := w_X5_soon la (m_X1_areAboard la) (m_X1_copyFrom la) (m_X5_ride la) (m_X5_rowsFrom la 8) _ vc_X5_soon

