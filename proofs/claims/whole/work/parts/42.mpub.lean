theorem zMD.sn {b : Nat} {cy : zY} {E E' : zE} {T : zT} {D : zD} {C : zCar} {I : zIg} {S S' : zSe} {tr : Int64} (h : zMD b cy E (T, D, C, I, S, tr)) (h0 : ∃ (lt q st so va fa : Int32), E' 159 = zM0 b tr (nI T.1) lt q st so va fa (nI S'.1)) (h1 : ∃ f : Nat → Int32, E' 170 = .inl (cy 1, 6, .inl f) ∧ ∀ j, j < S'.1 → f j = nI (S'.2.1 j)) (h2 : ∃ f : Nat → Int32, E' 171 = .inl (cy 1, 6, .inl f) ∧ ∀ j, j < S'.1 → f j = nI (S'.2.2 j)) (hE : ∀ j, j ≠ 159 → j ≠ 170 → j ≠ 171 → E' j = E j) : zMD b cy E' (T, D, C, I, S', tr) := by
  obtain ⟨_, a2, a3, a4, a5, a6, a7, a8, a9, a10, a11, _, _⟩ := h
  refine ⟨h0, ?_, ?_, ?_, ?_, ?_, ?_, ?_, ?_, ?_, ?_, h1, h2⟩ <;> (rw [hE _ (by omega) (by omega) (by omega)]; assumption)
theorem zMD.txt {b : Nat} {cy : zY} {E E' : zE} {T T' : zT} {D : zD} {C : zCar} {I : zIg} {S : zSe} {tr : Int64} (h : zMD b cy E (T, D, C, I, S, tr)) (h0 : ∃ (lt q st so va fa : Int32), E' 159 = zM0 b tr (nI T'.1) lt q st so va fa (nI S.1)) (h1 : ∃ f : Nat → Int32, E' 160 = .inl (cy 0, 120, .inl f) ∧ ∀ j, j < T'.1 → f j &&& 255 = nI (T'.2 j)) (hE : ∀ j, j ≠ 159 → j ≠ 160 → E' j = E j) : zMD b cy E' (T', D, C, I, S, tr) := by
  obtain ⟨_, _, a3, a4, a5, a6, a7, a8, a9, a10, a11, a12, a13⟩ := h
  refine ⟨h0, h1, ?_, ?_, ?_, ?_, ?_, ?_, ?_, ?_, ?_, ?_, ?_⟩ <;> (rw [hE _ (by omega) (by omega)]; assumption)
theorem zbyte_all : ∀ v : Fin 256, (vp_nar .byte ((nI v.val).toInt8.toInt32)) &&& 255 = nI v.val := by decide +kernel
theorem zbyte {v : Nat} (h : v < 256) : (vp_nar .byte ((nI v).toInt8.toInt32)) &&& 255 = nI v := zbyte_all ⟨v, h⟩
def sp_X6_type : zSp := fun b cy as N E P => ∃ x : Int32, zPM (op_type x) [.int x] b cy as N E P
abbrev rm_X6_type : Room := { frames := 2, cells := 0, slots := 0, locals := 62 }
def B_X6_type_0 (b n0 : Nat) (cy : zY) (P : zPo) (A : Nat → zC) : zC :=
  z_iload 1 (z_const (0) (z_const (255) (z_callS b n0 0 0 cy 3 0 0 sp_X6_in (z_if (fun x => x = 0) (z_const (-1) (z_iret 0 0 P)) (z_aload 0 (z_get b n0 6 2 (z_const (120) (z_icmp (fun x y => x = y) (z_const (-3) (z_iret 0 0 P)) (z_aload 0 (z_get b n0 6 1 (z_aload 0 (z_get b n0 6 2 (z_iload 1 (z_un (fun x => x.toInt8.toInt32) (z_ast b n0 (cy 0) (fun x => vp_nar .byte x) (z_aload 0 (z_dup (z_get b n0 6 2 (z_const (1) (z_bin (fun x y => x + y) (z_put b n0 6 2 0 (z_aload 0 (z_get b n0 6 2 (z_iret 0 0 P))))))))))))))))))))))))
def zVC_X6_type (sp : zSp) : Prop := ∀ (b : Nat) (cy : zY) (n : Nat) (as : List Value) (E : zE) (P : zPo) (A : Nat → zC), sp b cy as n E P → zgood as 2 ∧ B_X6_type_0 b n cy P A (lv_args 0 as) [] 0 0 E

set_option maxRecDepth 100000 in
set_option maxHeartbeats 4000000 in
theorem vc_X6_type : zVC_X6_type sp_X6_type := by
  intro b cy N as E P A hsp
  obtain ⟨x, K, ⟨T, D, C, I, S, tr⟩, rfl, hmd, hok, hK, hN, hP⟩ := hsp
  refine ⟨⟨Nat.le_of_ble_eq_true rfl, zg1 rfl (zg1 rfl (zg0))⟩, ?_⟩
  have N0 : 159 < N := by omega
  have N6 : 166 < N := by omega
  obtain ⟨lt, q, st, so, va, fa, e0⟩ := hmd.o
  replace e0 : E 159 = zM0 b tr (nI T.1) lt q st so va fa (nI S.1) := e0
  have hR := hmd.mr hok hN
  obtain ⟨f, hW, hCa⟩ := hmd.wr
  have hE := hW.2.2.1
  obtain ⟨h8, h9⟩ : (∃ g : Nat → Int32, E 168 = .inl (cy 1, 52, .inl g)) ∧ (∃ g : Nat → Int32, E 169 = .inl (cy 1, 6, .inl g)) := by obtain ⟨_, _, _, _, _, _, _, _, _, a, c, _⟩ := hmd; exact ⟨a, c⟩
  obtain ⟨hn, hlo, _, _, _, ⟨hmk, hs99, hth, hm10, _⟩, _⟩ := id hok
  replace hn : D.1 ≤ 6 := hn
  obtain ⟨v0, v4, v10, v16⟩ := zCm0 hW.2.2.2
  have N1 : 160 < N := by omega
  have hT0 : T.1 ≤ 120 := hok.2.2.2.1
  have z255 : ∀ y : Int32, (if ¬ y < 0 ∧ ¬ (255 : Int32) < y then (1 : Int32) else 0) = if zisB 256 y = true then 1 else 0 := fun y => zin_iff (k := 255) (by omega) y
  obtain ⟨_, ⟨tf, t1, t2⟩, _⟩ := id hmd
  replace t1 : E 160 = .inl (cy 0, 120, .inl tf) := t1
  replace t2 : ∀ j, j < T.1 → tf j &&& 255 = nI (T.2 j) := t2
  simp only [op_type] at hP
  simp -implicitDefEqProofs only [B_X6_type_0, e_cut, e_iload, e_aload, e_istore, e_astore, e_iinc, e_const, e_lconst, e_bin, e_bin0, e_un, e_ladd, e_dupi, e_dupr, e_dup2, e_pop, e_sw, e_sw0, e_sw1, e_get, e_put, e_ald, e_ast, e_aald, e_aast, e_copy, e_new, e_newa, e_anewa, e_min, e_abs, e_oinit, e_callI, e_callV, e_callS, e_iret, e_zret, e_lret, e_vret, e_tl1, e_tl0, e_tl2, e_tl3, z10, Bool.false_eq_true, e_argi, e_argr, e_argn, zld_c, zst_n, zst_c, zpick_n, zpick_c, List.drop_succ_cons, List.drop_zero, List.take_succ_cons, List.take_zero, List.length_cons, List.length_nil, List.reverse_cons, List.reverse_nil, List.nil_append, List.cons_append, List.append_nil, List.getElem?_cons_zero, List.getElem?_cons_succ, List.set_cons_zero, List.set_cons_succ, Nat.add_sub_cancel_left, Nat.sub_self, Nat.add_zero, Nat.zero_add, Nat.le_add_right, Nat.le_refl, true_and, and_true, va_rf, zok, Nat.add_left_cancel_iff, Nat.add_eq_left, Nat.left_eq_add, eq_self, if_true, if_false, not_false_eq_true, not_true_eq_false, false_implies, true_implies, Nat.reduceEqDiff, Nat.reduceAdd, Nat.reduceLT, Nat.reduceLeDiff, reduceIte]
  refine ⟨x, 0, 255, rfl, ?_⟩
  rw [z255]
  by_cases q1 : zisB 256 x = true
  · obtain ⟨v, hv, rfl⟩ := zisB_u q1 (by omega)
    rw [if_pos q1, zcl_i (show v < 2 ^ 31 by omega)] at hP
    have k120 : (nI T.1 = 120) = (T.1 = 120) := nI_lit (n := 120) (x := 120) rfl (by omega) (by omega)
    simp -implicitDefEqProofs only [e_cut, e_iload, e_aload, e_istore, e_astore, e_iinc, e_const, e_lconst, e_bin, e_bin0, e_un, e_ladd, e_dupi, e_dupr, e_dup2, e_pop, e_sw, e_sw0, e_sw1, e_get, e_put, e_ald, e_ast, e_aald, e_aast, e_copy, e_new, e_newa, e_anewa, e_min, e_abs, e_oinit, e_callI, e_callV, e_callS, e_iret, e_zret, e_lret, e_vret, e_tl1, e_tl0, e_tl2, e_tl3, z10, Bool.false_eq_true, e_argi, e_argr, e_argn, zld_c, zst_n, zst_c, zpick_n, zpick_c, List.drop_succ_cons, List.drop_zero, List.take_succ_cons, List.take_zero, List.length_cons, List.length_nil, List.reverse_cons, List.reverse_nil, List.nil_append, List.cons_append, List.append_nil, List.getElem?_cons_zero, List.getElem?_cons_succ, List.set_cons_zero, List.set_cons_succ, Nat.add_sub_cancel_left, Nat.sub_self, Nat.add_zero, Nat.zero_add, Nat.le_add_right, Nat.le_refl, true_and, and_true, va_rf, zok, Nat.add_left_cancel_iff, Nat.add_eq_left, Nat.left_eq_add, eq_self, if_true, if_false, not_false_eq_true, not_true_eq_false, false_implies, true_implies, Nat.reduceEqDiff, Nat.reduceAdd, Nat.reduceLT, Nat.reduceLeDiff, reduceIte, e_icmp, e_iff (c1 := fun x => x = 0) (x := 1) (by decide), zM0, e0, N0, q1, k120]
    refine ⟨fun c1 => ?_, fun c1 => ?_⟩
    · rw [if_neg (by omega)] at hP; exact hP E hmd (fun _ _ => rfl)
    · rw [if_pos (by omega)] at hP
      have hin : vp_in (nI T.1) 120 := vp_in_nI (by omega) (by omega)
      have hcl : (nI T.1).toNatClampNeg = T.1 := nI_clamp (by omega)
      simp -implicitDefEqProofs only [e_cut, e_iload, e_aload, e_istore, e_astore, e_iinc, e_const, e_lconst, e_bin, e_bin0, e_un, e_ladd, e_dupi, e_dupr, e_dup2, e_pop, e_sw, e_sw0, e_sw1, e_get, e_put, e_ald, e_ast, e_aald, e_aast, e_copy, e_new, e_newa, e_anewa, e_min, e_abs, e_oinit, e_callI, e_callV, e_callS, e_iret, e_zret, e_lret, e_vret, e_tl1, e_tl0, e_tl2, e_tl3, z10, Bool.false_eq_true, e_argi, e_argr, e_argn, zld_c, zst_n, zst_c, zpick_n, zpick_c, List.drop_succ_cons, List.drop_zero, List.take_succ_cons, List.take_zero, List.length_cons, List.length_nil, List.reverse_cons, List.reverse_nil, List.nil_append, List.cons_append, List.append_nil, List.getElem?_cons_zero, List.getElem?_cons_succ, List.set_cons_zero, List.set_cons_succ, Nat.add_sub_cancel_left, Nat.sub_self, Nat.add_zero, Nat.zero_add, Nat.le_add_right, Nat.le_refl, true_and, and_true, va_rf, zok, Nat.add_left_cancel_iff, Nat.add_eq_left, Nat.left_eq_add, eq_self, if_true, if_false, not_false_eq_true, not_true_eq_false, false_implies, true_implies, Nat.reduceEqDiff, Nat.reduceAdd, Nat.reduceLT, Nat.reduceLeDiff, reduceIte, zM0, e0, N0, N1, t1, hin, hcl, e_up, nI_1]
      refine hP _ (hmd.txt ⟨lt, q, st, so, va, fa, u_eq⟩ ⟨upd tf T.1 (vp_nar .byte ((nI v).toInt8.toInt32)), (u_ne (by omega)).trans u_eq, fun j hj => ?_⟩ (fun j a c => (u_ne a).trans (u_ne c))) (fun j hj => (u_ne (by omega)).trans (u_ne (by omega)))
      replace hj : j < T.1 + 1 := hj
      show upd tf T.1 _ j &&& 255 = nI (zup T.2 T.1 v j)
      simp only [upd, zup]
      by_cases e : j = T.1
      · rw [if_pos e, if_pos e]; exact zbyte hv
      · rw [if_neg e, if_neg e]; exact t2 j (by omega)
  · rw [if_neg q1] at hP
    simp -implicitDefEqProofs only [e_cut, e_iload, e_aload, e_istore, e_astore, e_iinc, e_const, e_lconst, e_bin, e_bin0, e_un, e_ladd, e_dupi, e_dupr, e_dup2, e_pop, e_sw, e_sw0, e_sw1, e_get, e_put, e_ald, e_ast, e_aald, e_aast, e_copy, e_new, e_newa, e_anewa, e_min, e_abs, e_oinit, e_callI, e_callV, e_callS, e_iret, e_zret, e_lret, e_vret, e_tl1, e_tl0, e_tl2, e_tl3, z10, Bool.false_eq_true, e_argi, e_argr, e_argn, zld_c, zst_n, zst_c, zpick_n, zpick_c, List.drop_succ_cons, List.drop_zero, List.take_succ_cons, List.take_zero, List.length_cons, List.length_nil, List.reverse_cons, List.reverse_nil, List.nil_append, List.cons_append, List.append_nil, List.getElem?_cons_zero, List.getElem?_cons_succ, List.set_cons_zero, List.set_cons_succ, Nat.add_sub_cancel_left, Nat.sub_self, Nat.add_zero, Nat.zero_add, Nat.le_add_right, Nat.le_refl, true_and, and_true, va_rf, zok, Nat.add_left_cancel_iff, Nat.add_eq_left, Nat.left_eq_add, eq_self, if_true, if_false, not_false_eq_true, not_true_eq_false, false_implies, true_implies, Nat.reduceEqDiff, Nat.reduceAdd, Nat.reduceLT, Nat.reduceLeDiff, reduceIte, e_ift (c1 := fun x => x = 0) (x := 0) rfl, q1]
    exact hP E hmd (fun _ _ => rfl)
set_option maxRecDepth 20000 in
theorem f_X6_type_58 : Cond.fieldLink RX6 58 (TX6 2).1 (TX6 2).2.1 (TX6 2).2.2.1 ∈ wsX6_type := by decide +kernel
set_option maxRecDepth 20000 in
theorem k_X6_type_6 : ∀ w ∈ u_ws RX6 TX6 21, w ∈ wsX6_type := fun _ h => List.mem_cons_of_mem _ (List.mem_append_right _ h)
set_option maxRecDepth 20000 in
theorem f_X6_type_7 : Cond.fieldLink RX6 7 (TX6 1).1 (TX6 1).2.1 (TX6 1).2.2.1 ∈ wsX6_type := by decide +kernel
set_option maxRecDepth 100000 in
set_option maxHeartbeats 4000000 in
theorem S_X6_type_0 {p : Program} {e : Env} {s : State} {m : MethodId} {args : Array Value} {below : List Frame} {meth : Method} {c : Code} {D : va_G} {cy : zY} {b n0 : Nat} {P : zPo} (la : Launch) (X : zX p la e (rm_X6_type) s m args below meth c 2 D cy b n0 cX6_type wsX6_type RX6) (hr : meth.sig.returnType = (some .int)) (h_X6_in : zMet la yX6_in wsX6_in rm_X6_in 0 0 sp_X6_in) : zS p la e (rm_X6_type) s m args below meth c (MQ below (zQ D b (n0 + 0) P) args s 0 0 (fun q => b ≤ q)) 2 D b n0 0 (B_X6_type_0 b n0 cy P (zAt p la e (rm_X6_type) s m args below meth c (MQ below (zQ D b (n0 + 0) P) args s 0 0 (fun q => b ≤ q)) 2 D b n0)) := by
  unfold B_X6_type_0
  exact (s_iload_n X dX6_type_0 rfl (s_iconst X dX6_type_1 (by decide) (s_sipush X dX6_type_2 (by decide) (s_callS X h_X6_in dX6_type_5 gX6_type_X6_in rfl rfl rfl (by decide +kernel) ⟨by decide, by decide⟩ (s_if_ne X dX6_type_8 (by decide) (s_aload_n X dX6_type_13 rfl (s_get X dX6_type_14 rfl k_X6_type_6 (by decide) f_X6_type_58 (s_bipush X dX6_type_17 (by decide) (s_icmp_ne X dX6_type_19 (by decide) (s_aload_n X dX6_type_25 rfl (s_get X dX6_type_26 rfl k_X6_type_6 (by decide) f_X6_type_7 (s_aload_n X dX6_type_29 rfl (s_get X dX6_type_30 rfl k_X6_type_6 (by decide) f_X6_type_58 (s_iload_n X dX6_type_33 rfl (s_i2b X dX6_type_34 (s_bast X dX6_type_35 (s_aload_n X dX6_type_36 rfl (s_dup X dX6_type_37 (s_get X dX6_type_38 rfl k_X6_type_6 (by decide) f_X6_type_58 (s_iconst X dX6_type_41 (by decide) (s_iadd X dX6_type_42 (s_put X dX6_type_43 rfl k_X6_type_6 tyX6_ok nmX6 (by decide) f_X6_type_58 rfl (tyX6_ok 2 (by decide)) zok_int (s_aload_n X dX6_type_46 rfl (s_get X dX6_type_47 rfl k_X6_type_6 (by decide) f_X6_type_58 (s_iret X dX6_type_50 hr)))))))))))))))) (s_bipush X dX6_type_22 (by decide) (s_iret X dX6_type_24 hr)))))) (s_iconst X dX6_type_11 (by decide) (s_iret X dX6_type_12 hr)))))))
theorem w_X6_type (la : Launch) (h_X6_in : zMet la yX6_in wsX6_in rm_X6_in 0 0 sp_X6_in) (sp : zSp) (vc : zVC_X6_type sp) : zMet la yX6_type wsX6_type (rm_X6_type) 0 0 sp :=
  z_of (cc := cX6_type) (maxL := 2) (ret := (some .int)) (by decide +kernel) rfl (fun p e s m args below meth c D cy b n as E P hsp X hr hin => by
    obtain ⟨h1, h2⟩ := vc b cy n as E P (zAt p la e (rm_X6_type) s m args below meth c (MQ below (zQ D b (n + 0) P) args s 0 0 (fun q => b ≤ q)) 2 D b n) hsp
    exact ⟨h1, S_X6_type_0 la X hr h_X6_in _ _ _ _ _ h2⟩)

theorem m_X6_type (la : Launch) : zMet la yX6_type wsX6_type rm_X6_type 0 0 sp_X6_type := w_X6_type la (m_X6_in la) _ vc_X6_type
theorem zisA_f {n : Nat} {c : Nat → Nat} {x y : Int32} : (zisA n c x y = true) = ((zisB n x = true ∧ (c 1).testBit (zcl x) = true) ∧ (zisB n y = true ∧ (c 1).testBit (zcl y) = true) ∧ ¬ x = y) := by
  apply propext
  simp only [zisA, zisP, zcl, Bool.and_eq_true, decide_eq_true_eq]
  exact ⟨fun ⟨⟨⟨a, b'⟩, d⟩, e, g⟩ => ⟨⟨a, e⟩, ⟨b', g⟩, d⟩, fun ⟨⟨a, e⟩, ⟨b', g⟩, d⟩ => ⟨⟨⟨a, b'⟩, d⟩, e, g⟩⟩
def sp_X6_saw : zSp := fun b cy as N E P => ∃ x y : Int32, zPM (op_saw x y) [.int x, .int y] b cy as N E P
abbrev rm_X6_saw : Room := { frames := 4, cells := 0, slots := 0, locals := 104 }
def B_X6_saw_21 (b n0 : Nat) (cy : zY) (P : zPo) (A : Nat → zC) : zC :=
  z_const (-1) (z_iret 0 0 P)
def B_X6_saw_0 (b n0 : Nat) (cy : zY) (P : zPo) (A : Nat → zC) : zC :=
  z_aload 0 (z_iload 1 (z_callV b n0 0 0 cy 6 1 0 0 sp_X6_isHere (z_if (fun x => x = 0) (B_X6_saw_21 b n0 cy P A) (z_aload 0 (z_iload 2 (z_callV b n0 0 0 cy 6 1 0 0 sp_X6_isHere (z_if (fun x => x = 0) (B_X6_saw_21 b n0 cy P A) (z_iload 1 (z_iload 2 (z_icmp (fun x y => x = y) (B_X6_saw_21 b n0 cy P A) (z_aload 0 (z_get b n0 6 20 (z_const (6) (z_icmp (fun x y => x = y) (z_const (-3) (z_iret 0 0 P)) (z_aload 0 (z_get b n0 6 18 (z_aload 0 (z_get b n0 6 20 (z_iload 1 (z_ast b n0 (cy 1) (fun x => x) (z_aload 0 (z_get b n0 6 19 (z_aload 0 (z_get b n0 6 20 (z_iload 2 (z_ast b n0 (cy 1) (fun x => x) (z_aload 0 (z_dup (z_get b n0 6 20 (z_const (1) (z_bin (fun x y => x + y) (z_put b n0 6 20 0 (z_aload 0 (z_get b n0 6 20 (z_iret 0 0 P)))))))))))))))))))))))))))))))))))
def zVC_X6_saw (sp : zSp) : Prop := ∀ (b : Nat) (cy : zY) (n : Nat) (as : List Value) (E : zE) (P : zPo) (A : Nat → zC), sp b cy as n E P → zgood as 3 ∧ B_X6_saw_0 b n cy P A (lv_args 0 as) [] 0 0 E

set_option maxRecDepth 100000 in
set_option maxHeartbeats 4000000 in
theorem vc_X6_saw : zVC_X6_saw sp_X6_saw := by
  intro b cy N as E P A hsp
  obtain ⟨x, y, K, ⟨T, D, C, I, S, tr⟩, rfl, hmd, hok, hK, hN, hP⟩ := hsp
  refine ⟨⟨Nat.le_of_ble_eq_true rfl, zg1 rfl (zg1 rfl (zg1 rfl (zg0)))⟩, ?_⟩
  have N0 : 159 < N := by omega
  have N6 : 166 < N := by omega
  obtain ⟨lt, q, st, so, va, fa, e0⟩ := hmd.o
  replace e0 : E 159 = zM0 b tr (nI T.1) lt q st so va fa (nI S.1) := e0
  have hR := hmd.mr hok hN
  obtain ⟨f, hW, hCa⟩ := hmd.wr
  have hE := hW.2.2.1
  obtain ⟨h8, h9⟩ : (∃ g : Nat → Int32, E 168 = .inl (cy 1, 52, .inl g)) ∧ (∃ g : Nat → Int32, E 169 = .inl (cy 1, 6, .inl g)) := by obtain ⟨_, _, _, _, _, _, _, _, _, a, c, _⟩ := hmd; exact ⟨a, c⟩
  obtain ⟨hn, hlo, _, _, _, ⟨hmk, hs99, hth, hm10, _⟩, _⟩ := id hok
  replace hn : D.1 ≤ 6 := hn
  obtain ⟨v0, v4, v10, v16⟩ := zCm0 hW.2.2.2
  have N10 : 170 < N := by omega
  have N11 : 171 < N := by omega
  have hS6 : S.1 ≤ 6 := hok.2.2.2.2.2.2.2.1
  obtain ⟨_, _, _, _, _, _, _, _, _, _, _, ⟨af, a1, a2⟩, ⟨wf, w1, w2⟩⟩ := id hmd
  replace a1 : E 170 = .inl (cy 1, 6, .inl af) := a1
  replace w1 : E 171 = .inl (cy 1, 6, .inl wf) := w1
  replace a2 : ∀ j, j < S.1 → af j = nI (S.2.1 j) := a2
  replace w2 : ∀ j, j < S.1 → wf j = nI (S.2.2 j) := w2
  simp only [op_saw, zisA_f] at hP
  simp -implicitDefEqProofs only [B_X6_saw_0, B_X6_saw_21, e_cut, e_iload, e_aload, e_istore, e_astore, e_iinc, e_const, e_lconst, e_bin, e_bin0, e_un, e_ladd, e_dupi, e_dupr, e_dup2, e_pop, e_sw, e_sw0, e_sw1, e_get, e_put, e_ald, e_ast, e_aald, e_aast, e_copy, e_new, e_newa, e_anewa, e_min, e_abs, e_oinit, e_callI, e_callV, e_callS, e_iret, e_zret, e_lret, e_vret, e_tl1, e_tl0, e_tl2, e_tl3, z10, Bool.false_eq_true, e_argi, e_argr, e_argn, zld_c, zst_n, zst_c, zpick_n, zpick_c, List.drop_succ_cons, List.drop_zero, List.take_succ_cons, List.take_zero, List.length_cons, List.length_nil, List.reverse_cons, List.reverse_nil, List.nil_append, List.cons_append, List.append_nil, List.getElem?_cons_zero, List.getElem?_cons_succ, List.set_cons_zero, List.set_cons_succ, Nat.add_sub_cancel_left, Nat.sub_self, Nat.add_zero, Nat.zero_add, Nat.le_add_right, Nat.le_refl, true_and, and_true, va_rf, zok, Nat.add_left_cancel_iff, Nat.add_eq_left, Nat.left_eq_add, eq_self, if_true, if_false, not_false_eq_true, not_true_eq_false, false_implies, true_implies, Nat.reduceEqDiff, Nat.reduceAdd, Nat.reduceLT, Nat.reduceLeDiff, reduceIte, zM0, e0, N0]
  refine ⟨_, _, _, C.1, x, rfl, hR, hW.ar, hmk.l64, ?_⟩
  by_cases q1 : zisB D.1 x = true ∧ (C.1 1).testBit (zcl x) = true
  · rw [if_pos q1]
    simp -implicitDefEqProofs only [e_cut, e_iload, e_aload, e_istore, e_astore, e_iinc, e_const, e_lconst, e_bin, e_bin0, e_un, e_ladd, e_dupi, e_dupr, e_dup2, e_pop, e_sw, e_sw0, e_sw1, e_get, e_put, e_ald, e_ast, e_aald, e_aast, e_copy, e_new, e_newa, e_anewa, e_min, e_abs, e_oinit, e_callI, e_callV, e_callS, e_iret, e_zret, e_lret, e_vret, e_tl1, e_tl0, e_tl2, e_tl3, z10, Bool.false_eq_true, e_argi, e_argr, e_argn, zld_c, zst_n, zst_c, zpick_n, zpick_c, List.drop_succ_cons, List.drop_zero, List.take_succ_cons, List.take_zero, List.length_cons, List.length_nil, List.reverse_cons, List.reverse_nil, List.nil_append, List.cons_append, List.append_nil, List.getElem?_cons_zero, List.getElem?_cons_succ, List.set_cons_zero, List.set_cons_succ, Nat.add_sub_cancel_left, Nat.sub_self, Nat.add_zero, Nat.zero_add, Nat.le_add_right, Nat.le_refl, true_and, and_true, va_rf, zok, Nat.add_left_cancel_iff, Nat.add_eq_left, Nat.left_eq_add, eq_self, if_true, if_false, not_false_eq_true, not_true_eq_false, false_implies, true_implies, Nat.reduceEqDiff, Nat.reduceAdd, Nat.reduceLT, Nat.reduceLeDiff, reduceIte, e_iff (c1 := fun x => x = 0) (x := 1) (by decide), zM0, e0, N0]
    refine ⟨_, _, _, C.1, y, rfl, hR, hW.ar, hmk.l64, ?_⟩
    by_cases q2 : zisB D.1 y = true ∧ (C.1 1).testBit (zcl y) = true
    · rw [if_pos q2]
      have k6 : (nI S.1 = 6) = (S.1 = 6) := nI_lit (n := 6) (x := 6) rfl (by omega) (by omega)
      simp -implicitDefEqProofs only [e_cut, e_iload, e_aload, e_istore, e_astore, e_iinc, e_const, e_lconst, e_bin, e_bin0, e_un, e_ladd, e_dupi, e_dupr, e_dup2, e_pop, e_sw, e_sw0, e_sw1, e_get, e_put, e_ald, e_ast, e_aald, e_aast, e_copy, e_new, e_newa, e_anewa, e_min, e_abs, e_oinit, e_callI, e_callV, e_callS, e_iret, e_zret, e_lret, e_vret, e_tl1, e_tl0, e_tl2, e_tl3, z10, Bool.false_eq_true, e_argi, e_argr, e_argn, zld_c, zst_n, zst_c, zpick_n, zpick_c, List.drop_succ_cons, List.drop_zero, List.take_succ_cons, List.take_zero, List.length_cons, List.length_nil, List.reverse_cons, List.reverse_nil, List.nil_append, List.cons_append, List.append_nil, List.getElem?_cons_zero, List.getElem?_cons_succ, List.set_cons_zero, List.set_cons_succ, Nat.add_sub_cancel_left, Nat.sub_self, Nat.add_zero, Nat.zero_add, Nat.le_add_right, Nat.le_refl, true_and, and_true, va_rf, zok, Nat.add_left_cancel_iff, Nat.add_eq_left, Nat.left_eq_add, eq_self, if_true, if_false, not_false_eq_true, not_true_eq_false, false_implies, true_implies, Nat.reduceEqDiff, Nat.reduceAdd, Nat.reduceLT, Nat.reduceLeDiff, reduceIte, e_icmp, e_iff (c1 := fun x => x = 0) (x := 1) (by decide), zM0, e0, N0, k6]
      refine ⟨fun c1 => ?_, fun c1 => ⟨fun c2 => ?_, fun c2 => ?_⟩⟩
      · rw [if_neg (fun h => h.2.2 c1)] at hP; exact hP E hmd (fun _ _ => rfl)
      · rw [if_pos ⟨q1, q2, c1⟩, if_neg (by omega)] at hP; exact hP E hmd (fun _ _ => rfl)
      · rw [if_pos ⟨q1, q2, c1⟩, if_pos (by omega)] at hP
        obtain ⟨r, hr, rfl⟩ := zisB_t q1.1 hn
        obtain ⟨s, hs, rfl⟩ := zisB_t q2.1 hn
        rw [zcl_i (show r < 2 ^ 31 by omega), zcl_i (show s < 2 ^ 31 by omega)] at hP
        have hin : vp_in (nI S.1) 6 := vp_in_nI (by omega) (by omega)
        have hcl : (nI S.1).toNatClampNeg = S.1 := nI_clamp (by omega)
        simp -implicitDefEqProofs only [e_cut, e_iload, e_aload, e_istore, e_astore, e_iinc, e_const, e_lconst, e_bin, e_bin0, e_un, e_ladd, e_dupi, e_dupr, e_dup2, e_pop, e_sw, e_sw0, e_sw1, e_get, e_put, e_ald, e_ast, e_aald, e_aast, e_copy, e_new, e_newa, e_anewa, e_min, e_abs, e_oinit, e_callI, e_callV, e_callS, e_iret, e_zret, e_lret, e_vret, e_tl1, e_tl0, e_tl2, e_tl3, z10, Bool.false_eq_true, e_argi, e_argr, e_argn, zld_c, zst_n, zst_c, zpick_n, zpick_c, List.drop_succ_cons, List.drop_zero, List.take_succ_cons, List.take_zero, List.length_cons, List.length_nil, List.reverse_cons, List.reverse_nil, List.nil_append, List.cons_append, List.append_nil, List.getElem?_cons_zero, List.getElem?_cons_succ, List.set_cons_zero, List.set_cons_succ, Nat.add_sub_cancel_left, Nat.sub_self, Nat.add_zero, Nat.zero_add, Nat.le_add_right, Nat.le_refl, true_and, and_true, va_rf, zok, Nat.add_left_cancel_iff, Nat.add_eq_left, Nat.left_eq_add, eq_self, if_true, if_false, not_false_eq_true, not_true_eq_false, false_implies, true_implies, Nat.reduceEqDiff, Nat.reduceAdd, Nat.reduceLT, Nat.reduceLeDiff, reduceIte, zM0, e0, N0, N10, N11, a1, w1, hin, hcl, e_up, nI_1]
        refine hP _ (hmd.sn ⟨lt, q, st, so, va, fa, u_eq⟩ ⟨upd af S.1 (nI r), (u_ne (by omega)).trans ((u_ne (by omega)).trans u_eq), fun j hj => ?_⟩ ⟨upd wf S.1 (nI s), (u_ne (by omega)).trans u_eq, fun j hj => ?_⟩ (fun j a c d => (u_ne a).trans ((u_ne d).trans (u_ne c)))) (fun j hj => (u_ne (by omega)).trans ((u_ne (by omega)).trans (u_ne (by omega))))
        · replace hj : j < S.1 + 1 := hj
          show upd af S.1 (nI r) j = nI (zup S.2.1 S.1 r j)
          simp only [upd, zup]
          by_cases e : j = S.1
          · rw [if_pos e, if_pos e]
          · rw [if_neg e, if_neg e]; exact a2 j (by omega)
        · replace hj : j < S.1 + 1 := hj
          show upd wf S.1 (nI s) j = nI (zup S.2.2 S.1 s j)
          simp only [upd, zup]
          by_cases e : j = S.1
          · rw [if_pos e, if_pos e]
          · rw [if_neg e, if_neg e]; exact w2 j (by omega)
    · rw [if_neg q2]
      simp -implicitDefEqProofs only [e_cut, e_iload, e_aload, e_istore, e_astore, e_iinc, e_const, e_lconst, e_bin, e_bin0, e_un, e_ladd, e_dupi, e_dupr, e_dup2, e_pop, e_sw, e_sw0, e_sw1, e_get, e_put, e_ald, e_ast, e_aald, e_aast, e_copy, e_new, e_newa, e_anewa, e_min, e_abs, e_oinit, e_callI, e_callV, e_callS, e_iret, e_zret, e_lret, e_vret, e_tl1, e_tl0, e_tl2, e_tl3, z10, Bool.false_eq_true, e_argi, e_argr, e_argn, zld_c, zst_n, zst_c, zpick_n, zpick_c, List.drop_succ_cons, List.drop_zero, List.take_succ_cons, List.take_zero, List.length_cons, List.length_nil, List.reverse_cons, List.reverse_nil, List.nil_append, List.cons_append, List.append_nil, List.getElem?_cons_zero, List.getElem?_cons_succ, List.set_cons_zero, List.set_cons_succ, Nat.add_sub_cancel_left, Nat.sub_self, Nat.add_zero, Nat.zero_add, Nat.le_add_right, Nat.le_refl, true_and, and_true, va_rf, zok, Nat.add_left_cancel_iff, Nat.add_eq_left, Nat.left_eq_add, eq_self, if_true, if_false, not_false_eq_true, not_true_eq_false, false_implies, true_implies, Nat.reduceEqDiff, Nat.reduceAdd, Nat.reduceLT, Nat.reduceLeDiff, reduceIte, e_ift (c1 := fun x => x = 0) (x := 0) rfl]
      rw [if_neg (fun h => q2 h.2.1)] at hP; exact hP E hmd (fun _ _ => rfl)
  · rw [if_neg q1]
    simp -implicitDefEqProofs only [e_cut, e_iload, e_aload, e_istore, e_astore, e_iinc, e_const, e_lconst, e_bin, e_bin0, e_un, e_ladd, e_dupi, e_dupr, e_dup2, e_pop, e_sw, e_sw0, e_sw1, e_get, e_put, e_ald, e_ast, e_aald, e_aast, e_copy, e_new, e_newa, e_anewa, e_min, e_abs, e_oinit, e_callI, e_callV, e_callS, e_iret, e_zret, e_lret, e_vret, e_tl1, e_tl0, e_tl2, e_tl3, z10, Bool.false_eq_true, e_argi, e_argr, e_argn, zld_c, zst_n, zst_c, zpick_n, zpick_c, List.drop_succ_cons, List.drop_zero, List.take_succ_cons, List.take_zero, List.length_cons, List.length_nil, List.reverse_cons, List.reverse_nil, List.nil_append, List.cons_append, List.append_nil, List.getElem?_cons_zero, List.getElem?_cons_succ, List.set_cons_zero, List.set_cons_succ, Nat.add_sub_cancel_left, Nat.sub_self, Nat.add_zero, Nat.zero_add, Nat.le_add_right, Nat.le_refl, true_and, and_true, va_rf, zok, Nat.add_left_cancel_iff, Nat.add_eq_left, Nat.left_eq_add, eq_self, if_true, if_false, not_false_eq_true, not_true_eq_false, false_implies, true_implies, Nat.reduceEqDiff, Nat.reduceAdd, Nat.reduceLT, Nat.reduceLeDiff, reduceIte, e_ift (c1 := fun x => x = 0) (x := 0) rfl]
    rw [if_neg (fun h => q1 h.1)] at hP; exact hP E hmd (fun _ _ => rfl)
set_option maxRecDepth 20000 in
theorem f_X6_saw_96 : Cond.fieldLink RX6 96 (TX6 20).1 (TX6 20).2.1 (TX6 20).2.2.1 ∈ wsX6_saw := by decide +kernel
set_option maxRecDepth 20000 in
theorem k_X6_saw_6 : ∀ w ∈ u_ws RX6 TX6 21, w ∈ wsX6_saw := fun _ h => List.mem_cons_of_mem _ (List.mem_append_right _ h)
set_option maxRecDepth 20000 in
theorem f_X6_saw_42 : Cond.fieldLink RX6 42 (TX6 18).1 (TX6 18).2.1 (TX6 18).2.2.1 ∈ wsX6_saw := by decide +kernel
set_option maxRecDepth 20000 in
theorem f_X6_saw_45 : Cond.fieldLink RX6 45 (TX6 19).1 (TX6 19).2.1 (TX6 19).2.2.1 ∈ wsX6_saw := by decide +kernel
set_option maxRecDepth 100000 in
set_option maxHeartbeats 4000000 in
theorem S_X6_saw_21 {p : Program} {e : Env} {s : State} {m : MethodId} {args : Array Value} {below : List Frame} {meth : Method} {c : Code} {D : va_G} {cy : zY} {b n0 : Nat} {P : zPo} (la : Launch) (X : zX p la e (rm_X6_saw) s m args below meth c 3 D cy b n0 cX6_saw wsX6_saw RX6) (hr : meth.sig.returnType = (some .int)) (h_X6_isHere : zMet la yX6_isHere wsX6_isHere rm_X6_isHere 0 0 sp_X6_isHere) : zS p la e (rm_X6_saw) s m args below meth c (MQ below (zQ D b (n0 + 0) P) args s 0 0 (fun q => b ≤ q)) 3 D b n0 21 (B_X6_saw_21 b n0 cy P (zAt p la e (rm_X6_saw) s m args below meth c (MQ below (zQ D b (n0 + 0) P) args s 0 0 (fun q => b ≤ q)) 3 D b n0)) := by
  unfold B_X6_saw_21
  exact (s_iconst X dX6_saw_21 (by decide) (s_iret X dX6_saw_22 hr))
set_option maxRecDepth 100000 in
set_option maxHeartbeats 4000000 in
theorem S_X6_saw_0 {p : Program} {e : Env} {s : State} {m : MethodId} {args : Array Value} {below : List Frame} {meth : Method} {c : Code} {D : va_G} {cy : zY} {b n0 : Nat} {P : zPo} (la : Launch) (X : zX p la e (rm_X6_saw) s m args below meth c 3 D cy b n0 cX6_saw wsX6_saw RX6) (hr : meth.sig.returnType = (some .int)) (h_X6_isHere : zMet la yX6_isHere wsX6_isHere rm_X6_isHere 0 0 sp_X6_isHere) : zS p la e (rm_X6_saw) s m args below meth c (MQ below (zQ D b (n0 + 0) P) args s 0 0 (fun q => b ≤ q)) 3 D b n0 0 (B_X6_saw_0 b n0 cy P (zAt p la e (rm_X6_saw) s m args below meth c (MQ below (zQ D b (n0 + 0) P) args s 0 0 (fun q => b ≤ q)) 3 D b n0)) := by
  unfold B_X6_saw_0
  exact (s_aload_n X dX6_saw_0 rfl (s_iload_n X dX6_saw_1 rfl (s_callV X h_X6_isHere dX6_saw_2 rfl gX6_saw_X6_isHere rfl rfl rfl (by decide +kernel) ⟨by decide, by decide⟩ (s_if_eq X dX6_saw_5 (by decide) (S_X6_saw_21 la X hr h_X6_isHere) (s_aload_n X dX6_saw_8 rfl (s_iload_n X dX6_saw_9 rfl (s_callV X h_X6_isHere dX6_saw_10 rfl gX6_saw_X6_isHere rfl rfl rfl (by decide +kernel) ⟨by decide, by decide⟩ (s_if_eq X dX6_saw_13 (by decide) (S_X6_saw_21 la X hr h_X6_isHere) (s_iload_n X dX6_saw_16 rfl (s_iload_n X dX6_saw_17 rfl (s_icmp_ne X dX6_saw_18 (by decide) (s_aload_n X dX6_saw_23 rfl (s_get X dX6_saw_24 rfl k_X6_saw_6 (by decide) f_X6_saw_96 (s_bipush X dX6_saw_27 (by decide) (s_icmp_ne X dX6_saw_29 (by decide) (s_aload_n X dX6_saw_35 rfl (s_get X dX6_saw_36 rfl k_X6_saw_6 (by decide) f_X6_saw_42 (s_aload_n X dX6_saw_39 rfl (s_get X dX6_saw_40 rfl k_X6_saw_6 (by decide) f_X6_saw_96 (s_iload_n X dX6_saw_43 rfl (s_iast X dX6_saw_44 (s_aload_n X dX6_saw_45 rfl (s_get X dX6_saw_46 rfl k_X6_saw_6 (by decide) f_X6_saw_45 (s_aload_n X dX6_saw_49 rfl (s_get X dX6_saw_50 rfl k_X6_saw_6 (by decide) f_X6_saw_96 (s_iload_n X dX6_saw_53 rfl (s_iast X dX6_saw_54 (s_aload_n X dX6_saw_55 rfl (s_dup X dX6_saw_56 (s_get X dX6_saw_57 rfl k_X6_saw_6 (by decide) f_X6_saw_96 (s_iconst X dX6_saw_60 (by decide) (s_iadd X dX6_saw_61 (s_put X dX6_saw_62 rfl k_X6_saw_6 tyX6_ok nmX6 (by decide) f_X6_saw_96 rfl (tyX6_ok 20 (by decide)) zok_int (s_aload_n X dX6_saw_65 rfl (s_get X dX6_saw_66 rfl k_X6_saw_6 (by decide) f_X6_saw_96 (s_iret X dX6_saw_69 hr))))))))))))))))))))) (s_bipush X dX6_saw_32 (by decide) (s_iret X dX6_saw_34 hr)))))) (S_X6_saw_21 la X hr h_X6_isHere))))))))))))
theorem w_X6_saw (la : Launch) (h_X6_isHere : zMet la yX6_isHere wsX6_isHere rm_X6_isHere 0 0 sp_X6_isHere) (sp : zSp) (vc : zVC_X6_saw sp) : zMet la yX6_saw wsX6_saw (rm_X6_saw) 0 0 sp :=
  z_of (cc := cX6_saw) (maxL := 3) (ret := (some .int)) (by decide +kernel) rfl (fun p e s m args below meth c D cy b n as E P hsp X hr hin => by
    obtain ⟨h1, h2⟩ := vc b cy n as E P (zAt p la e (rm_X6_saw) s m args below meth c (MQ below (zQ D b (n + 0) P) args s 0 0 (fun q => b ≤ q)) 3 D b n) hsp
    exact ⟨h1, S_X6_saw_0 la X hr h_X6_isHere _ _ _ _ _ h2⟩)

theorem m_X6_saw (la : Launch) : zMet la yX6_saw wsX6_saw rm_X6_saw 0 0 sp_X6_saw := w_X6_saw la (m_X6_isHere la) _ vc_X6_saw
theorem zCa.cp {f g : Nat → Int32} {o p n : Nat} {C : zCar} (h : zCa f o n C) (hn : n ≤ 6) (hm : C.2.1 ≤ 10) (hg : ∀ j, j < 573 → g (p + j) = f (o + j)) : zCa g p n C := by
  obtain ⟨h1, h2, h3⟩ := h
  refine ⟨h1.cp hn (fun j hj => hg j (by omega)), by rw [hg 52 (by omega)]; exact h2, fun t ht => (h3 t ht).cp hn (fun j hj => ?_)⟩
  rw [show p + (53 + 52 * t) + j = p + (53 + 52 * t + j) by omega, show o + (53 + 52 * t) + j = o + (53 + 52 * t + j) by omega]
  exact hg (53 + 52 * t + j) (by omega)
theorem zin01 (y : Int32) : (if ¬ y < 0 ∧ ¬ (1 : Int32) < y then (1 : Int32) else 0) = if zisB 2 y = true then 1 else 0 := zin_iff (k := 1) (by omega) y
def sp_X6_keep : zSp := fun b cy as N E P => ∃ x : Int32, zPM (op_keep x) [.int x] b cy as N E P
abbrev rm_X6_keep : Room := { frames := 2, cells := 0, slots := 0, locals := 62 }
def B_X6_keep_13 (b n0 : Nat) (cy : zY) (P : zPo) (A : Nat → zC) : zC :=
  z_iload 2 (z_const (573) (z_icmp (fun x y => y ≤ x) (z_aload 0 (z_get b n0 6 15 (z_iload 1 (z_const (1) (z_ast b n0 (cy 2) (fun x => vp_nar .boolean x) (z_aload 0 (z_get b n0 6 14 (z_const (0) (z_ald b n0 (cy 1) (z_iret 0 0 P)))))))))) (z_aload 0 (z_get b n0 6 14 (z_const (573) (z_const (1) (z_iload 1 (z_bin (fun x y => x + y) (z_bin (fun x y => x * y) (z_iload 2 (z_bin (fun x y => x + y) (z_aload 0 (z_get b n0 6 14 (z_iload 2 (z_ald b n0 (cy 1) (z_ast b n0 (cy 1) (fun x => x) (z_iinc 2 (1) (z_cut [0, 1, 2] (A 13)))))))))))))))))))
def B_X6_keep_0 (b n0 : Nat) (cy : zY) (P : zPo) (A : Nat → zC) : zC :=
  z_iload 1 (z_const (0) (z_const (1) (z_callS b n0 0 0 cy 3 0 0 sp_X6_in (z_if (fun x => x = 0) (z_const (-1) (z_iret 0 0 P)) (z_const (0) (z_istore 2 (z_cut [0, 1, 2] (A 13))))))))
def zVC_X6_keep (sp : zSp) : Prop := ∀ (b : Nat) (cy : zY) (n : Nat) (as : List Value) (E : zE) (P : zPo) (A : Nat → zC), (∀ l st k u E, B_X6_keep_13 b n cy P A l st k u E → A 13 l st k u E) → sp b cy as n E P → zgood as 3 ∧ B_X6_keep_0 b n cy P A (lv_args 0 as) [] 0 0 E

set_option maxRecDepth 100000 in
set_option maxHeartbeats 4000000 in
theorem vc_X6_keep : zVC_X6_keep sp_X6_keep := by
  intro b cy N as E P A hA hsp
  obtain ⟨x, K, ⟨T, D, C, I, S, tr⟩, rfl, hmd, hok, hK, hN, hP⟩ := hsp
  refine ⟨⟨Nat.le_of_ble_eq_true rfl, zg1 rfl (zg1 rfl (zg0))⟩, ?_⟩
  have N0 : 159 < N := by omega
  have N6 : 166 < N := by omega
  obtain ⟨lt, q, st, so, va, fa, e0⟩ := hmd.o
  replace e0 : E 159 = zM0 b tr (nI T.1) lt q st so va fa (nI S.1) := e0
  have hR := hmd.mr hok hN
  obtain ⟨f, hW, hCa⟩ := hmd.wr
  have hE := hW.2.2.1
  obtain ⟨h8, h9⟩ : (∃ g : Nat → Int32, E 168 = .inl (cy 1, 52, .inl g)) ∧ (∃ g : Nat → Int32, E 169 = .inl (cy 1, 6, .inl g)) := by obtain ⟨_, _, _, _, _, _, _, _, _, a, c, _⟩ := hmd; exact ⟨a, c⟩
  obtain ⟨hn, hlo, _, _, _, ⟨hmk, hs99, hth, hm10, _⟩, _⟩ := id hok
  replace hn : D.1 ≤ 6 := hn
  obtain ⟨v0, v4, v10, v16⟩ := zCm0 hW.2.2.2
  have N7 : 167 < N := by omega
  have hm10' : C.2.1 ≤ 10 := hm10
  simp only [op_keep] at hP
  simp -implicitDefEqProofs only [B_X6_keep_0, e_cut, e_iload, e_aload, e_istore, e_astore, e_iinc, e_const, e_lconst, e_bin, e_bin0, e_un, e_ladd, e_dupi, e_dupr, e_dup2, e_pop, e_sw, e_sw0, e_sw1, e_get, e_put, e_ald, e_ast, e_aald, e_aast, e_copy, e_new, e_newa, e_anewa, e_min, e_abs, e_oinit, e_callI, e_callV, e_callS, e_iret, e_zret, e_lret, e_vret, e_tl1, e_tl0, e_tl2, e_tl3, z10, Bool.false_eq_true, e_argi, e_argr, e_argn, zld_c, zst_n, zst_c, zpick_n, zpick_c, List.drop_succ_cons, List.drop_zero, List.take_succ_cons, List.take_zero, List.length_cons, List.length_nil, List.reverse_cons, List.reverse_nil, List.nil_append, List.cons_append, List.append_nil, List.getElem?_cons_zero, List.getElem?_cons_succ, List.set_cons_zero, List.set_cons_succ, Nat.add_sub_cancel_left, Nat.sub_self, Nat.add_zero, Nat.zero_add, Nat.le_add_right, Nat.le_refl, true_and, and_true, va_rf, zok, Nat.add_left_cancel_iff, Nat.add_eq_left, Nat.left_eq_add, eq_self, if_true, if_false, not_false_eq_true, not_true_eq_false, false_implies, true_implies, Nat.reduceEqDiff, Nat.reduceAdd, Nat.reduceLT, Nat.reduceLeDiff, reduceIte]
  refine ⟨x, 0, 1, rfl, ?_⟩
  rw [zin01]
  by_cases q1 : zisB 2 x = true
  · obtain ⟨i, hi, rfl⟩ := zisB_u q1 (by omega)
    rw [if_pos q1, zcl_i (show i < 2 ^ 31 by omega)] at hP
    obtain ⟨a0, a1, a2, a3, a4, a5, a6, ⟨fq, a7, _, a8, a9⟩, ⟨kf, k1, k2, k3⟩, _, _, a13, a14⟩ := id hmd
    rw [show E 166 = _ from hE] at a7
    obtain rfl : f = fq := by simpa using a7
    replace k1 : E 167 = .inl (cy 2, 2, .inl kf) := k1
    have inn : ∀ k, k < 1719 → vp_in (nI k) 1719 := fun k hk => vp_in_nI hk (by omega)
    have cln : ∀ k, k < 1719 → (nI k).toNatClampNeg = k := fun k hk => nI_clamp (by omega)
    have k573 : (573 : Int32) = nI 573 := rfl
    have ki : (1 : Int32) + nI i = nI (1 + i) := nI_add 1 i
    have in2 : vp_in (nI i) 2 := vp_in_nI hi (by omega)
    have cl2 : (nI i).toNatClampNeg = i := nI_clamp (by omega)
    have in0 : vp_in 0 1719 := inn 0 (by omega)
    have cl0 : (0 : Int32).toNatClampNeg = 0 := by decide
    have nb : vp_nar .boolean 1 = 1 := by decide
    have loop : ∀ (d k : Nat) (g : Nat → Int32) (E1 : zE), d + k = 573 → (∀ j, j < k → g (573 * (1 + i) + j) = f j) → (∀ j, (j < 573 * (1 + i) ∨ 573 * (1 + i) + k ≤ j) → g j = f j) → E1 166 = .inl (cy 1, 1719, .inl g) → (∀ j, j ≠ 166 → E1 j = E j) → A 13 [(0, .ref (b + 159)), (1, .int (nI i)), (2, .int (nI k))] [] 0 0 E1 := by
      intro d
      induction d with
      | zero =>
        intro k g E1 hd h1 h2 h6 hk
        obtain rfl : k = 573 := by omega
        apply hA
        have cle : nI 573 ≤ nI 573 := by decide
        have f0 := (hk 159 (by omega)).trans e0
        have f7 := (hk 167 (by omega)).trans k1
        have w0 : g 0 = nI (C.1 0) := (h2 0 (by omega)).trans (v0 0 (by omega))
        simp -implicitDefEqProofs only [B_X6_keep_13, e_cut, e_iload, e_aload, e_istore, e_astore, e_iinc, e_const, e_lconst, e_bin, e_bin0, e_un, e_ladd, e_dupi, e_dupr, e_dup2, e_pop, e_sw, e_sw0, e_sw1, e_get, e_put, e_ald, e_ast, e_aald, e_aast, e_copy, e_new, e_newa, e_anewa, e_min, e_abs, e_oinit, e_callI, e_callV, e_callS, e_iret, e_zret, e_lret, e_vret, e_tl1, e_tl0, e_tl2, e_tl3, z10, Bool.false_eq_true, e_argi, e_argr, e_argn, zld_c, zst_n, zst_c, zpick_n, zpick_c, List.drop_succ_cons, List.drop_zero, List.take_succ_cons, List.take_zero, List.length_cons, List.length_nil, List.reverse_cons, List.reverse_nil, List.nil_append, List.cons_append, List.append_nil, List.getElem?_cons_zero, List.getElem?_cons_succ, List.set_cons_zero, List.set_cons_succ, Nat.add_sub_cancel_left, Nat.sub_self, Nat.add_zero, Nat.zero_add, Nat.le_add_right, Nat.le_refl, true_and, and_true, va_rf, zok, Nat.add_left_cancel_iff, Nat.add_eq_left, Nat.left_eq_add, eq_self, if_true, if_false, not_false_eq_true, not_true_eq_false, false_implies, true_implies, Nat.reduceEqDiff, Nat.reduceAdd, Nat.reduceLT, Nat.reduceLeDiff, reduceIte, k573, e_icmpt (c2 := fun x y => y ≤ x) cle, zM0, f0, f7, h6, N0, N6, N7, in2, cl2, e_up, in0, cl0, w0, nb]
        have kk : ∀ j, j ≠ 166 → j ≠ 167 → va_up E1 167 (.inl (cy 2, 2, .inl (upd kf i 1))) j = E j := fun j a c => (u_ne c).trans (hk j a)
        refine hP _ ⟨?_, ?_, ?_, ?_, ?_, ?_, ?_, ⟨g, (u_ne (by omega)).trans h6, hCa.cp hn hm10' (fun j hj => ?_), fun C' hC => ?_, fun C' hC => ?_⟩, ⟨upd kf i 1, u_eq, ?_, ?_⟩, ?_, ?_, ?_, ?_⟩ (fun j hj => kk j (by omega) (by omega))
        · rw [kk _ (by omega) (by omega)]; exact a0
        · rw [kk _ (by omega) (by omega)]; exact a1
        · rw [kk _ (by omega) (by omega)]; exact a2
        · rw [kk _ (by omega) (by omega)]; exact a3
        · rw [kk _ (by omega) (by omega)]; exact a4
        · rw [kk _ (by omega) (by omega)]; exact a5
        · rw [kk _ (by omega) (by omega)]; exact a6
        · rw [Nat.zero_add]; exact h2 j (by omega)
        · replace hC : (if 0 = i then some C else I 0) = some C' := hC
          rcases (show i = 0 ∨ i = 1 by omega) with rfl | rfl
          · rw [if_pos rfl] at hC; cases hC
            exact hCa.cp hn hm10' (fun j hj => by have := h1 j hj; rwa [Nat.zero_add])
          · rw [if_neg (by omega)] at hC
            exact (a8 C' hC).cp hn ((hok.2.2.2.2.2.2.1 0 (by omega) C' hC).2.2.2.1) (fun j hj => h2 _ (by omega))
        · replace hC : (if 1 = i then some C else I 1) = some C' := hC
          rcases (show i = 0 ∨ i = 1 by omega) with rfl | rfl
          · rw [if_neg (by omega)] at hC
            exact (a9 C' hC).cp hn ((hok.2.2.2.2.2.2.1 1 (by omega) C' hC).2.2.2.1) (fun j hj => h2 _ (by omega))
          · rw [if_pos rfl] at hC; cases hC
            exact hCa.cp hn hm10' (fun j hj => by have := h1 j hj; rwa [Nat.zero_add])
        · show upd kf i 1 0 = if (if 0 = i then some C else I 0).isSome = true then 1 else 0
          rcases (show i = 0 ∨ i = 1 by omega) with rfl | rfl
          · simp [upd]
          · show kf 0 = if (I 0).isSome = true then 1 else 0
            exact k2
        · show upd kf i 1 1 = if (if 1 = i then some C else I 1).isSome = true then 1 else 0
          rcases (show i = 0 ∨ i = 1 by omega) with rfl | rfl
          · show kf 1 = if (I 1).isSome = true then 1 else 0
            exact k3
          · simp [upd]
        · rw [kk _ (by omega) (by omega)]; exact h8
        · rw [kk _ (by omega) (by omega)]; exact h9
        · rw [kk _ (by omega) (by omega)]; exact a13
        · rw [kk _ (by omega) (by omega)]; exact a14
      | succ d ih =>
        intro k g E1 hd h1 h2 h6 hk
        apply hA
        have cle : ¬ nI 573 ≤ nI k := nI_ge (b := 573) (show k < 573 by omega) (by decide)
        have f0 := (hk 159 (by omega)).trans e0
        have hx : nI 573 * nI (1 + i) + nI k = nI (573 * (1 + i) + k) := by rw [pk_mul, nI_add]
        simp -implicitDefEqProofs only [B_X6_keep_13, e_cut, e_iload, e_aload, e_istore, e_astore, e_iinc, e_const, e_lconst, e_bin, e_bin0, e_un, e_ladd, e_dupi, e_dupr, e_dup2, e_pop, e_sw, e_sw0, e_sw1, e_get, e_put, e_ald, e_ast, e_aald, e_aast, e_copy, e_new, e_newa, e_anewa, e_min, e_abs, e_oinit, e_callI, e_callV, e_callS, e_iret, e_zret, e_lret, e_vret, e_tl1, e_tl0, e_tl2, e_tl3, z10, Bool.false_eq_true, e_argi, e_argr, e_argn, zld_c, zst_n, zst_c, zpick_n, zpick_c, List.drop_succ_cons, List.drop_zero, List.take_succ_cons, List.take_zero, List.length_cons, List.length_nil, List.reverse_cons, List.reverse_nil, List.nil_append, List.cons_append, List.append_nil, List.getElem?_cons_zero, List.getElem?_cons_succ, List.set_cons_zero, List.set_cons_succ, Nat.add_sub_cancel_left, Nat.sub_self, Nat.add_zero, Nat.zero_add, Nat.le_add_right, Nat.le_refl, true_and, and_true, va_rf, zok, Nat.add_left_cancel_iff, Nat.add_eq_left, Nat.left_eq_add, eq_self, if_true, if_false, not_false_eq_true, not_true_eq_false, false_implies, true_implies, Nat.reduceEqDiff, Nat.reduceAdd, Nat.reduceLT, Nat.reduceLeDiff, reduceIte, k573, ki, e_icmpf (c2 := fun x y => y ≤ x) cle, zM0, f0, h6, N0, N6, hx, inn (573 * (1 + i) + k) (by omega), cln (573 * (1 + i) + k) (by omega), inn k (by omega), cln k (by omega), nI_1]
        refine ih (k + 1) (upd g (573 * (1 + i) + k) (g k)) _ (by omega) (fun j hj => ?_) (fun j hj => ?_) u_eq (fun j hj => (u_ne hj).trans (hk j hj))
        · simp only [upd]
          by_cases e : j = k
          · rw [if_pos (by omega), h2 k (by omega), e]
          · rw [if_neg (by omega)]; exact h1 j (by omega)
        · simp only [upd]; rw [if_neg (by omega)]; exact h2 j (by omega)
    simp -implicitDefEqProofs only [e_cut, e_iload, e_aload, e_istore, e_astore, e_iinc, e_const, e_lconst, e_bin, e_bin0, e_un, e_ladd, e_dupi, e_dupr, e_dup2, e_pop, e_sw, e_sw0, e_sw1, e_get, e_put, e_ald, e_ast, e_aald, e_aast, e_copy, e_new, e_newa, e_anewa, e_min, e_abs, e_oinit, e_callI, e_callV, e_callS, e_iret, e_zret, e_lret, e_vret, e_tl1, e_tl0, e_tl2, e_tl3, z10, Bool.false_eq_true, e_argi, e_argr, e_argn, zld_c, zst_n, zst_c, zpick_n, zpick_c, List.drop_succ_cons, List.drop_zero, List.take_succ_cons, List.take_zero, List.length_cons, List.length_nil, List.reverse_cons, List.reverse_nil, List.nil_append, List.cons_append, List.append_nil, List.getElem?_cons_zero, List.getElem?_cons_succ, List.set_cons_zero, List.set_cons_succ, Nat.add_sub_cancel_left, Nat.sub_self, Nat.add_zero, Nat.zero_add, Nat.le_add_right, Nat.le_refl, true_and, and_true, va_rf, zok, Nat.add_left_cancel_iff, Nat.add_eq_left, Nat.left_eq_add, eq_self, if_true, if_false, not_false_eq_true, not_true_eq_false, false_implies, true_implies, Nat.reduceEqDiff, Nat.reduceAdd, Nat.reduceLT, Nat.reduceLeDiff, reduceIte, e_iff (c1 := fun x => x = 0) (x := 1) (by decide), q1]
    exact loop 573 0 f E rfl (fun j hj => absurd hj (Nat.not_lt_zero _)) (fun j _ => rfl) hE (fun _ _ => rfl)
  · rw [if_neg q1] at hP
    simp -implicitDefEqProofs only [e_cut, e_iload, e_aload, e_istore, e_astore, e_iinc, e_const, e_lconst, e_bin, e_bin0, e_un, e_ladd, e_dupi, e_dupr, e_dup2, e_pop, e_sw, e_sw0, e_sw1, e_get, e_put, e_ald, e_ast, e_aald, e_aast, e_copy, e_new, e_newa, e_anewa, e_min, e_abs, e_oinit, e_callI, e_callV, e_callS, e_iret, e_zret, e_lret, e_vret, e_tl1, e_tl0, e_tl2, e_tl3, z10, Bool.false_eq_true, e_argi, e_argr, e_argn, zld_c, zst_n, zst_c, zpick_n, zpick_c, List.drop_succ_cons, List.drop_zero, List.take_succ_cons, List.take_zero, List.length_cons, List.length_nil, List.reverse_cons, List.reverse_nil, List.nil_append, List.cons_append, List.append_nil, List.getElem?_cons_zero, List.getElem?_cons_succ, List.set_cons_zero, List.set_cons_succ, Nat.add_sub_cancel_left, Nat.sub_self, Nat.add_zero, Nat.zero_add, Nat.le_add_right, Nat.le_refl, true_and, and_true, va_rf, zok, Nat.add_left_cancel_iff, Nat.add_eq_left, Nat.left_eq_add, eq_self, if_true, if_false, not_false_eq_true, not_true_eq_false, false_implies, true_implies, Nat.reduceEqDiff, Nat.reduceAdd, Nat.reduceLT, Nat.reduceLeDiff, reduceIte, e_ift (c1 := fun x => x = 0) (x := 0) rfl, q1]
    exact hP E hmd (fun _ _ => rfl)
set_option maxRecDepth 20000 in
theorem f_X6_keep_32 : Cond.fieldLink RX6 32 (TX6 15).1 (TX6 15).2.1 (TX6 15).2.2.1 ∈ wsX6_keep := by decide +kernel
set_option maxRecDepth 20000 in
theorem k_X6_keep_6 : ∀ w ∈ u_ws RX6 TX6 21, w ∈ wsX6_keep := fun _ h => List.mem_cons_of_mem _ (List.mem_append_right _ h)
set_option maxRecDepth 20000 in
theorem f_X6_keep_29 : Cond.fieldLink RX6 29 (TX6 14).1 (TX6 14).2.1 (TX6 14).2.2.1 ∈ wsX6_keep := by decide +kernel
set_option maxRecDepth 100000 in
set_option maxHeartbeats 4000000 in
theorem S_X6_keep_13 {p : Program} {e : Env} {s : State} {m : MethodId} {args : Array Value} {below : List Frame} {meth : Method} {c : Code} {D : va_G} {cy : zY} {b n0 : Nat} {P : zPo} (la : Launch) (X : zX p la e (rm_X6_keep) s m args below meth c 3 D cy b n0 cX6_keep wsX6_keep RX6) (hr : meth.sig.returnType = (some .int)) (h_X6_in : zMet la yX6_in wsX6_in rm_X6_in 0 0 sp_X6_in) : zS p la e (rm_X6_keep) s m args below meth c (MQ below (zQ D b (n0 + 0) P) args s 0 0 (fun q => b ≤ q)) 3 D b n0 13 (B_X6_keep_13 b n0 cy P (zAt p la e (rm_X6_keep) s m args below meth c (MQ below (zQ D b (n0 + 0) P) args s 0 0 (fun q => b ≤ q)) 3 D b n0)) := by
  unfold B_X6_keep_13
  exact (s_iload_n X dX6_keep_13 rfl (s_sipush X dX6_keep_14 (by decide) (s_icmp_ge X dX6_keep_17 (by decide) (s_aload_n X dX6_keep_46 rfl (s_get X dX6_keep_47 rfl k_X6_keep_6 (by decide) f_X6_keep_32 (s_iload_n X dX6_keep_50 rfl (s_iconst X dX6_keep_51 (by decide) (s_zast X dX6_keep_52 (s_aload_n X dX6_keep_53 rfl (s_get X dX6_keep_54 rfl k_X6_keep_6 (by decide) f_X6_keep_29 (s_iconst X dX6_keep_57 (by decide) (s_iald X dX6_keep_58 (s_iret X dX6_keep_59 hr)))))))))) (s_aload_n X dX6_keep_20 rfl (s_get X dX6_keep_21 rfl k_X6_keep_6 (by decide) f_X6_keep_29 (s_sipush X dX6_keep_24 (by decide) (s_iconst X dX6_keep_27 (by decide) (s_iload_n X dX6_keep_28 rfl (s_iadd X dX6_keep_29 (s_imul X dX6_keep_30 (s_iload_n X dX6_keep_31 rfl (s_iadd X dX6_keep_32 (s_aload_n X dX6_keep_33 rfl (s_get X dX6_keep_34 rfl k_X6_keep_6 (by decide) f_X6_keep_29 (s_iload_n X dX6_keep_37 rfl (s_iald X dX6_keep_38 (s_iast X dX6_keep_39 (s_iinc X dX6_keep_40 (by decide) (by decide) (s_goto X dX6_keep_43 (by decide) (s_cut (by decide) zS_at))))))))))))))))))))
set_option maxRecDepth 100000 in
set_option maxHeartbeats 4000000 in
theorem S_X6_keep_0 {p : Program} {e : Env} {s : State} {m : MethodId} {args : Array Value} {below : List Frame} {meth : Method} {c : Code} {D : va_G} {cy : zY} {b n0 : Nat} {P : zPo} (la : Launch) (X : zX p la e (rm_X6_keep) s m args below meth c 3 D cy b n0 cX6_keep wsX6_keep RX6) (hr : meth.sig.returnType = (some .int)) (h_X6_in : zMet la yX6_in wsX6_in rm_X6_in 0 0 sp_X6_in) : zS p la e (rm_X6_keep) s m args below meth c (MQ below (zQ D b (n0 + 0) P) args s 0 0 (fun q => b ≤ q)) 3 D b n0 0 (B_X6_keep_0 b n0 cy P (zAt p la e (rm_X6_keep) s m args below meth c (MQ below (zQ D b (n0 + 0) P) args s 0 0 (fun q => b ≤ q)) 3 D b n0)) := by
  unfold B_X6_keep_0
  exact (s_iload_n X dX6_keep_0 rfl (s_iconst X dX6_keep_1 (by decide) (s_iconst X dX6_keep_2 (by decide) (s_callS X h_X6_in dX6_keep_3 gX6_keep_X6_in rfl rfl rfl (by decide +kernel) ⟨by decide, by decide⟩ (s_if_ne X dX6_keep_6 (by decide) (s_iconst X dX6_keep_11 (by decide) (s_istore_n X dX6_keep_12 rfl (by decide) (s_cut (by decide) zS_at))) (s_iconst X dX6_keep_9 (by decide) (s_iret X dX6_keep_10 hr)))))))
theorem w_X6_keep (la : Launch) (h_X6_in : zMet la yX6_in wsX6_in rm_X6_in 0 0 sp_X6_in) (sp : zSp) (vc : zVC_X6_keep sp) : zMet la yX6_keep wsX6_keep (rm_X6_keep) 0 0 sp :=
  z_of (cc := cX6_keep) (maxL := 3) (ret := (some .int)) (by decide +kernel) rfl (fun p e s m args below meth c D cy b n as E P hsp X hr hin => by
    obtain ⟨h1, h2⟩ := vc b cy n as E P (zAt p la e (rm_X6_keep) s m args below meth c (MQ below (zQ D b (n + 0) P) args s 0 0 (fun q => b ≤ q)) 3 D b n) (fun _ _ _ _ _ q => S_X6_keep_13 la X hr h_X6_in _ _ _ _ _ q) hsp
    exact ⟨h1, S_X6_keep_0 la X hr h_X6_in _ _ _ _ _ h2⟩)

theorem m_X6_keep (la : Launch) : zMet la yX6_keep wsX6_keep rm_X6_keep 0 0 sp_X6_keep := w_X6_keep la (m_X6_in la) _ vc_X6_keep
def sp_X6_back : zSp := fun b cy as N E P => ∃ x : Int32, zPM (op_back x) [.int x] b cy as N E P
abbrev rm_X6_back : Room := { frames := 2, cells := 0, slots := 0, locals := 62 }
def B_X6_back_25 (b n0 : Nat) (cy : zY) (P : zPo) (A : Nat → zC) : zC :=
  z_iload 2 (z_const (573) (z_icmp (fun x y => y ≤ x) (z_aload 0 (z_get b n0 6 14 (z_const (0) (z_ald b n0 (cy 1) (z_iret 0 0 P))))) (z_aload 0 (z_get b n0 6 14 (z_iload 2 (z_aload 0 (z_get b n0 6 14 (z_const (573) (z_const (1) (z_iload 1 (z_bin (fun x y => x + y) (z_bin (fun x y => x * y) (z_iload 2 (z_bin (fun x y => x + y) (z_ald b n0 (cy 1) (z_ast b n0 (cy 1) (fun x => x) (z_iinc 2 (1) (z_cut [0, 1, 2] (A 25)))))))))))))))))))
def B_X6_back_0 (b n0 : Nat) (cy : zY) (P : zPo) (A : Nat → zC) : zC :=
  z_iload 1 (z_const (0) (z_const (1) (z_callS b n0 0 0 cy 3 0 0 sp_X6_in (z_if (fun x => x = 0) (z_const (-1) (z_iret 0 0 P)) (z_aload 0 (z_get b n0 6 15 (z_iload 1 (z_ald b n0 (cy 2) (z_if (fun x => x = 0) (z_const (-2) (z_iret 0 0 P)) (z_const (0) (z_istore 2 (z_cut [0, 1, 2] (A 25)))))))))))))
def zVC_X6_back (sp : zSp) : Prop := ∀ (b : Nat) (cy : zY) (n : Nat) (as : List Value) (E : zE) (P : zPo) (A : Nat → zC), (∀ l st k u E, B_X6_back_25 b n cy P A l st k u E → A 25 l st k u E) → sp b cy as n E P → zgood as 3 ∧ B_X6_back_0 b n cy P A (lv_args 0 as) [] 0 0 E

set_option maxRecDepth 100000 in
set_option maxHeartbeats 4000000 in
theorem vc_X6_back : zVC_X6_back sp_X6_back := by
  intro b cy N as E P A hA hsp
  obtain ⟨x, K, ⟨T, D, C, I, S, tr⟩, rfl, hmd, hok, hK, hN, hP⟩ := hsp
  refine ⟨⟨Nat.le_of_ble_eq_true rfl, zg1 rfl (zg1 rfl (zg0))⟩, ?_⟩
  have N0 : 159 < N := by omega
  have N6 : 166 < N := by omega
  obtain ⟨lt, q, st, so, va, fa, e0⟩ := hmd.o
  replace e0 : E 159 = zM0 b tr (nI T.1) lt q st so va fa (nI S.1) := e0
  have hR := hmd.mr hok hN
  obtain ⟨f, hW, hCa⟩ := hmd.wr
  have hE := hW.2.2.1
  obtain ⟨h8, h9⟩ : (∃ g : Nat → Int32, E 168 = .inl (cy 1, 52, .inl g)) ∧ (∃ g : Nat → Int32, E 169 = .inl (cy 1, 6, .inl g)) := by obtain ⟨_, _, _, _, _, _, _, _, _, a, c, _⟩ := hmd; exact ⟨a, c⟩
  obtain ⟨hn, hlo, _, _, _, ⟨hmk, hs99, hth, hm10, _⟩, _⟩ := id hok
  replace hn : D.1 ≤ 6 := hn
  obtain ⟨v0, v4, v10, v16⟩ := zCm0 hW.2.2.2
  have N7 : 167 < N := by omega
  simp only [op_back] at hP
  simp -implicitDefEqProofs only [B_X6_back_0, e_cut, e_iload, e_aload, e_istore, e_astore, e_iinc, e_const, e_lconst, e_bin, e_bin0, e_un, e_ladd, e_dupi, e_dupr, e_dup2, e_pop, e_sw, e_sw0, e_sw1, e_get, e_put, e_ald, e_ast, e_aald, e_aast, e_copy, e_new, e_newa, e_anewa, e_min, e_abs, e_oinit, e_callI, e_callV, e_callS, e_iret, e_zret, e_lret, e_vret, e_tl1, e_tl0, e_tl2, e_tl3, z10, Bool.false_eq_true, e_argi, e_argr, e_argn, zld_c, zst_n, zst_c, zpick_n, zpick_c, List.drop_succ_cons, List.drop_zero, List.take_succ_cons, List.take_zero, List.length_cons, List.length_nil, List.reverse_cons, List.reverse_nil, List.nil_append, List.cons_append, List.append_nil, List.getElem?_cons_zero, List.getElem?_cons_succ, List.set_cons_zero, List.set_cons_succ, Nat.add_sub_cancel_left, Nat.sub_self, Nat.add_zero, Nat.zero_add, Nat.le_add_right, Nat.le_refl, true_and, and_true, va_rf, zok, Nat.add_left_cancel_iff, Nat.add_eq_left, Nat.left_eq_add, eq_self, if_true, if_false, not_false_eq_true, not_true_eq_false, false_implies, true_implies, Nat.reduceEqDiff, Nat.reduceAdd, Nat.reduceLT, Nat.reduceLeDiff, reduceIte]
  refine ⟨x, 0, 1, rfl, ?_⟩
  rw [zin01]
  by_cases q1 : zisB 2 x = true
  · obtain ⟨i, hi, rfl⟩ := zisB_u q1 (by omega)
    rw [if_pos q1, zcl_i (show i < 2 ^ 31 by omega)] at hP
    obtain ⟨_, _, _, _, _, _, _, ⟨fq, a7, _, a8, a9⟩, ⟨kf, k1, k2, k3⟩, _⟩ := id hmd
    rw [show E 166 = _ from hE] at a7
    obtain rfl : f = fq := by simpa using a7
    replace k1 : E 167 = .inl (cy 2, 2, .inl kf) := k1
    have inn : ∀ k, k < 1719 → vp_in (nI k) 1719 := fun k hk => vp_in_nI hk (by omega)
    have cln : ∀ k, k < 1719 → (nI k).toNatClampNeg = k := fun k hk => nI_clamp (by omega)
    have k573 : (573 : Int32) = nI 573 := rfl
    have ki : (1 : Int32) + nI i = nI (1 + i) := nI_add 1 i
    have in2 : vp_in (nI i) 2 := vp_in_nI hi (by omega)
    have cl2 : (nI i).toNatClampNeg = i := nI_clamp (by omega)
    have in0 : vp_in 0 1719 := inn 0 (by omega)
    have cl0 : (0 : Int32).toNatClampNeg = 0 := by decide
    have kfi : kf i = if (I i).isSome = true then 1 else 0 := by
      rcases (show i = 0 ∨ i = 1 by omega) with rfl | rfl
      · exact k2
      · exact k3
    cases hI : I i with
    | none =>
      rw [hI] at hP kfi
      replace kfi : kf i = 0 := kfi
      simp -implicitDefEqProofs only [e_cut, e_iload, e_aload, e_istore, e_astore, e_iinc, e_const, e_lconst, e_bin, e_bin0, e_un, e_ladd, e_dupi, e_dupr, e_dup2, e_pop, e_sw, e_sw0, e_sw1, e_get, e_put, e_ald, e_ast, e_aald, e_aast, e_copy, e_new, e_newa, e_anewa, e_min, e_abs, e_oinit, e_callI, e_callV, e_callS, e_iret, e_zret, e_lret, e_vret, e_tl1, e_tl0, e_tl2, e_tl3, z10, Bool.false_eq_true, e_argi, e_argr, e_argn, zld_c, zst_n, zst_c, zpick_n, zpick_c, List.drop_succ_cons, List.drop_zero, List.take_succ_cons, List.take_zero, List.length_cons, List.length_nil, List.reverse_cons, List.reverse_nil, List.nil_append, List.cons_append, List.append_nil, List.getElem?_cons_zero, List.getElem?_cons_succ, List.set_cons_zero, List.set_cons_succ, Nat.add_sub_cancel_left, Nat.sub_self, Nat.add_zero, Nat.zero_add, Nat.le_add_right, Nat.le_refl, true_and, and_true, va_rf, zok, Nat.add_left_cancel_iff, Nat.add_eq_left, Nat.left_eq_add, eq_self, if_true, if_false, not_false_eq_true, not_true_eq_false, false_implies, true_implies, Nat.reduceEqDiff, Nat.reduceAdd, Nat.reduceLT, Nat.reduceLeDiff, reduceIte, e_iff (c1 := fun x => x = 0) (x := 1) (by decide), e_ift (c1 := fun x => x = 0) (x := 0) rfl, q1, zM0, e0, N0, N7, k1, in2, cl2, kfi]
      exact hP E hmd (fun _ _ => rfl)
    | some C' =>
      rw [hI] at hP kfi
      replace kfi : kf i = 1 := kfi
      replace hP : ∀ E', zMD b cy E' (T, D, C', I, S, tr) → (∀ j, j < 159 → E' j = E j) → P (some (.int (nI (C'.1 0)))) E' := hP
      have hok' := hok.2.2.2.2.2.2.1 i hi C' hI
      have hm' : C'.2.1 ≤ 10 := hok'.2.2.2.1
      have hC' : zCa f (573 * (1 + i)) D.1 C' := by
        rcases (show i = 0 ∨ i = 1 by omega) with rfl | rfl
        · exact a8 C' hI
        · exact a9 C' hI
      have loop : ∀ (d k : Nat) (g : Nat → Int32) (E1 : zE), d + k = 573 → (∀ j, j < k → g j = f (573 * (1 + i) + j)) → (∀ j, k ≤ j → g j = f j) → E1 166 = .inl (cy 1, 1719, .inl g) → (∀ j, j ≠ 166 → E1 j = E j) → A 25 [(0, .ref (b + 159)), (1, .int (nI i)), (2, .int (nI k))] [] 0 0 E1 := by
        intro d
        induction d with
        | zero =>
          intro k g E1 hd h1 h2 h6 hk
          obtain rfl : k = 573 := by omega
          apply hA
          have cle : nI 573 ≤ nI 573 := by decide
          have f0 := (hk 159 (by omega)).trans e0
          have hg : zCa g 0 D.1 C' := hC'.cp hn hm' (fun j hj => by rw [Nat.zero_add]; exact h1 j hj)
          have w0 : g 0 = nI (C'.1 0) := (zCm0 hg.1).1 0 (by omega)
          simp -implicitDefEqProofs only [B_X6_back_25, e_cut, e_iload, e_aload, e_istore, e_astore, e_iinc, e_const, e_lconst, e_bin, e_bin0, e_un, e_ladd, e_dupi, e_dupr, e_dup2, e_pop, e_sw, e_sw0, e_sw1, e_get, e_put, e_ald, e_ast, e_aald, e_aast, e_copy, e_new, e_newa, e_anewa, e_min, e_abs, e_oinit, e_callI, e_callV, e_callS, e_iret, e_zret, e_lret, e_vret, e_tl1, e_tl0, e_tl2, e_tl3, z10, Bool.false_eq_true, e_argi, e_argr, e_argn, zld_c, zst_n, zst_c, zpick_n, zpick_c, List.drop_succ_cons, List.drop_zero, List.take_succ_cons, List.take_zero, List.length_cons, List.length_nil, List.reverse_cons, List.reverse_nil, List.nil_append, List.cons_append, List.append_nil, List.getElem?_cons_zero, List.getElem?_cons_succ, List.set_cons_zero, List.set_cons_succ, Nat.add_sub_cancel_left, Nat.sub_self, Nat.add_zero, Nat.zero_add, Nat.le_add_right, Nat.le_refl, true_and, and_true, va_rf, zok, Nat.add_left_cancel_iff, Nat.add_eq_left, Nat.left_eq_add, eq_self, if_true, if_false, not_false_eq_true, not_true_eq_false, false_implies, true_implies, Nat.reduceEqDiff, Nat.reduceAdd, Nat.reduceLT, Nat.reduceLeDiff, reduceIte, k573, e_icmpt (c2 := fun x y => y ≤ x) cle, zM0, f0, h6, N0, N6, in0, cl0, w0]
          exact hP E1 (hmd.cur hE hn h6 hg (fun j hj => h2 j (by omega)) (fun j a _ _ => hk j a) (by rw [hk _ (by omega)]; exact h8) (by rw [hk _ (by omega)]; exact h9)) (fun j hj => hk j (by omega))
        | succ d ih =>
          intro k g E1 hd h1 h2 h6 hk
          apply hA
          have cle : ¬ nI 573 ≤ nI k := nI_ge (b := 573) (show k < 573 by omega) (by decide)
          have f0 := (hk 159 (by omega)).trans e0
          have hx : nI 573 * nI (1 + i) + nI k = nI (573 * (1 + i) + k) := by rw [pk_mul, nI_add]
          simp -implicitDefEqProofs only [B_X6_back_25, e_cut, e_iload, e_aload, e_istore, e_astore, e_iinc, e_const, e_lconst, e_bin, e_bin0, e_un, e_ladd, e_dupi, e_dupr, e_dup2, e_pop, e_sw, e_sw0, e_sw1, e_get, e_put, e_ald, e_ast, e_aald, e_aast, e_copy, e_new, e_newa, e_anewa, e_min, e_abs, e_oinit, e_callI, e_callV, e_callS, e_iret, e_zret, e_lret, e_vret, e_tl1, e_tl0, e_tl2, e_tl3, z10, Bool.false_eq_true, e_argi, e_argr, e_argn, zld_c, zst_n, zst_c, zpick_n, zpick_c, List.drop_succ_cons, List.drop_zero, List.take_succ_cons, List.take_zero, List.length_cons, List.length_nil, List.reverse_cons, List.reverse_nil, List.nil_append, List.cons_append, List.append_nil, List.getElem?_cons_zero, List.getElem?_cons_succ, List.set_cons_zero, List.set_cons_succ, Nat.add_sub_cancel_left, Nat.sub_self, Nat.add_zero, Nat.zero_add, Nat.le_add_right, Nat.le_refl, true_and, and_true, va_rf, zok, Nat.add_left_cancel_iff, Nat.add_eq_left, Nat.left_eq_add, eq_self, if_true, if_false, not_false_eq_true, not_true_eq_false, false_implies, true_implies, Nat.reduceEqDiff, Nat.reduceAdd, Nat.reduceLT, Nat.reduceLeDiff, reduceIte, k573, ki, e_icmpf (c2 := fun x y => y ≤ x) cle, zM0, f0, h6, N0, N6, hx, inn (573 * (1 + i) + k) (by omega), cln (573 * (1 + i) + k) (by omega), inn k (by omega), cln k (by omega), nI_1]
          refine ih (k + 1) (upd g k (g (573 * (1 + i) + k))) _ (by omega) (fun j hj => ?_) (fun j hj => ?_) u_eq (fun j hj => (u_ne hj).trans (hk j hj))
          · simp only [upd]
            by_cases e : j = k
            · rw [if_pos e, h2 _ (by omega), e]
            · rw [if_neg e]; exact h1 j (by omega)
          · simp only [upd]; rw [if_neg (by omega)]; exact h2 j (by omega)
      simp -implicitDefEqProofs only [e_cut, e_iload, e_aload, e_istore, e_astore, e_iinc, e_const, e_lconst, e_bin, e_bin0, e_un, e_ladd, e_dupi, e_dupr, e_dup2, e_pop, e_sw, e_sw0, e_sw1, e_get, e_put, e_ald, e_ast, e_aald, e_aast, e_copy, e_new, e_newa, e_anewa, e_min, e_abs, e_oinit, e_callI, e_callV, e_callS, e_iret, e_zret, e_lret, e_vret, e_tl1, e_tl0, e_tl2, e_tl3, z10, Bool.false_eq_true, e_argi, e_argr, e_argn, zld_c, zst_n, zst_c, zpick_n, zpick_c, List.drop_succ_cons, List.drop_zero, List.take_succ_cons, List.take_zero, List.length_cons, List.length_nil, List.reverse_cons, List.reverse_nil, List.nil_append, List.cons_append, List.append_nil, List.getElem?_cons_zero, List.getElem?_cons_succ, List.set_cons_zero, List.set_cons_succ, Nat.add_sub_cancel_left, Nat.sub_self, Nat.add_zero, Nat.zero_add, Nat.le_add_right, Nat.le_refl, true_and, and_true, va_rf, zok, Nat.add_left_cancel_iff, Nat.add_eq_left, Nat.left_eq_add, eq_self, if_true, if_false, not_false_eq_true, not_true_eq_false, false_implies, true_implies, Nat.reduceEqDiff, Nat.reduceAdd, Nat.reduceLT, Nat.reduceLeDiff, reduceIte, e_iff (c1 := fun x => x = 0) (x := 1) (by decide), q1, zM0, e0, N0, N7, k1, in2, cl2, kfi]
      exact loop 573 0 f E rfl (fun j hj => absurd hj (Nat.not_lt_zero _)) (fun j _ => rfl) hE (fun _ _ => rfl)
  · rw [if_neg q1] at hP
    simp -implicitDefEqProofs only [e_cut, e_iload, e_aload, e_istore, e_astore, e_iinc, e_const, e_lconst, e_bin, e_bin0, e_un, e_ladd, e_dupi, e_dupr, e_dup2, e_pop, e_sw, e_sw0, e_sw1, e_get, e_put, e_ald, e_ast, e_aald, e_aast, e_copy, e_new, e_newa, e_anewa, e_min, e_abs, e_oinit, e_callI, e_callV, e_callS, e_iret, e_zret, e_lret, e_vret, e_tl1, e_tl0, e_tl2, e_tl3, z10, Bool.false_eq_true, e_argi, e_argr, e_argn, zld_c, zst_n, zst_c, zpick_n, zpick_c, List.drop_succ_cons, List.drop_zero, List.take_succ_cons, List.take_zero, List.length_cons, List.length_nil, List.reverse_cons, List.reverse_nil, List.nil_append, List.cons_append, List.append_nil, List.getElem?_cons_zero, List.getElem?_cons_succ, List.set_cons_zero, List.set_cons_succ, Nat.add_sub_cancel_left, Nat.sub_self, Nat.add_zero, Nat.zero_add, Nat.le_add_right, Nat.le_refl, true_and, and_true, va_rf, zok, Nat.add_left_cancel_iff, Nat.add_eq_left, Nat.left_eq_add, eq_self, if_true, if_false, not_false_eq_true, not_true_eq_false, false_implies, true_implies, Nat.reduceEqDiff, Nat.reduceAdd, Nat.reduceLT, Nat.reduceLeDiff, reduceIte, e_ift (c1 := fun x => x = 0) (x := 0) rfl, q1]
    exact hP E hmd (fun _ _ => rfl)
set_option maxRecDepth 20000 in
theorem f_X6_back_29 : Cond.fieldLink RX6 29 (TX6 14).1 (TX6 14).2.1 (TX6 14).2.2.1 ∈ wsX6_back := by decide +kernel
set_option maxRecDepth 20000 in
theorem k_X6_back_6 : ∀ w ∈ u_ws RX6 TX6 21, w ∈ wsX6_back := fun _ h => List.mem_cons_of_mem _ (List.mem_append_right _ h)
set_option maxRecDepth 20000 in
theorem f_X6_back_32 : Cond.fieldLink RX6 32 (TX6 15).1 (TX6 15).2.1 (TX6 15).2.2.1 ∈ wsX6_back := by decide +kernel
set_option maxRecDepth 100000 in
set_option maxHeartbeats 4000000 in
theorem S_X6_back_25 {p : Program} {e : Env} {s : State} {m : MethodId} {args : Array Value} {below : List Frame} {meth : Method} {c : Code} {D : va_G} {cy : zY} {b n0 : Nat} {P : zPo} (la : Launch) (X : zX p la e (rm_X6_back) s m args below meth c 3 D cy b n0 cX6_back wsX6_back RX6) (hr : meth.sig.returnType = (some .int)) (h_X6_in : zMet la yX6_in wsX6_in rm_X6_in 0 0 sp_X6_in) : zS p la e (rm_X6_back) s m args below meth c (MQ below (zQ D b (n0 + 0) P) args s 0 0 (fun q => b ≤ q)) 3 D b n0 25 (B_X6_back_25 b n0 cy P (zAt p la e (rm_X6_back) s m args below meth c (MQ below (zQ D b (n0 + 0) P) args s 0 0 (fun q => b ≤ q)) 3 D b n0)) := by
  unfold B_X6_back_25
  exact (s_iload_n X dX6_back_25 rfl (s_sipush X dX6_back_26 (by decide) (s_icmp_ge X dX6_back_29 (by decide) (s_aload_n X dX6_back_58 rfl (s_get X dX6_back_59 rfl k_X6_back_6 (by decide) f_X6_back_29 (s_iconst X dX6_back_62 (by decide) (s_iald X dX6_back_63 (s_iret X dX6_back_64 hr))))) (s_aload_n X dX6_back_32 rfl (s_get X dX6_back_33 rfl k_X6_back_6 (by decide) f_X6_back_29 (s_iload_n X dX6_back_36 rfl (s_aload_n X dX6_back_37 rfl (s_get X dX6_back_38 rfl k_X6_back_6 (by decide) f_X6_back_29 (s_sipush X dX6_back_41 (by decide) (s_iconst X dX6_back_44 (by decide) (s_iload_n X dX6_back_45 rfl (s_iadd X dX6_back_46 (s_imul X dX6_back_47 (s_iload_n X dX6_back_48 rfl (s_iadd X dX6_back_49 (s_iald X dX6_back_50 (s_iast X dX6_back_51 (s_iinc X dX6_back_52 (by decide) (by decide) (s_goto X dX6_back_55 (by decide) (s_cut (by decide) zS_at))))))))))))))))))))
set_option maxRecDepth 100000 in
set_option maxHeartbeats 4000000 in
theorem S_X6_back_0 {p : Program} {e : Env} {s : State} {m : MethodId} {args : Array Value} {below : List Frame} {meth : Method} {c : Code} {D : va_G} {cy : zY} {b n0 : Nat} {P : zPo} (la : Launch) (X : zX p la e (rm_X6_back) s m args below meth c 3 D cy b n0 cX6_back wsX6_back RX6) (hr : meth.sig.returnType = (some .int)) (h_X6_in : zMet la yX6_in wsX6_in rm_X6_in 0 0 sp_X6_in) : zS p la e (rm_X6_back) s m args below meth c (MQ below (zQ D b (n0 + 0) P) args s 0 0 (fun q => b ≤ q)) 3 D b n0 0 (B_X6_back_0 b n0 cy P (zAt p la e (rm_X6_back) s m args below meth c (MQ below (zQ D b (n0 + 0) P) args s 0 0 (fun q => b ≤ q)) 3 D b n0)) := by
  unfold B_X6_back_0
  exact (s_iload_n X dX6_back_0 rfl (s_iconst X dX6_back_1 (by decide) (s_iconst X dX6_back_2 (by decide) (s_callS X h_X6_in dX6_back_3 gX6_back_X6_in rfl rfl rfl (by decide +kernel) ⟨by decide, by decide⟩ (s_if_ne X dX6_back_6 (by decide) (s_aload_n X dX6_back_11 rfl (s_get X dX6_back_12 rfl k_X6_back_6 (by decide) f_X6_back_32 (s_iload_n X dX6_back_15 rfl (s_zald X dX6_back_16 (s_if_ne X dX6_back_17 (by decide) (s_iconst X dX6_back_23 (by decide) (s_istore_n X dX6_back_24 rfl (by decide) (s_cut (by decide) zS_at))) (s_bipush X dX6_back_20 (by decide) (s_iret X dX6_back_22 hr))))))) (s_iconst X dX6_back_9 (by decide) (s_iret X dX6_back_10 hr)))))))
theorem w_X6_back (la : Launch) (h_X6_in : zMet la yX6_in wsX6_in rm_X6_in 0 0 sp_X6_in) (sp : zSp) (vc : zVC_X6_back sp) : zMet la yX6_back wsX6_back (rm_X6_back) 0 0 sp :=
  z_of (cc := cX6_back) (maxL := 3) (ret := (some .int)) (by decide +kernel) rfl (fun p e s m args below meth c D cy b n as E P hsp X hr hin => by
    obtain ⟨h1, h2⟩ := vc b cy n as E P (zAt p la e (rm_X6_back) s m args below meth c (MQ below (zQ D b (n + 0) P) args s 0 0 (fun q => b ≤ q)) 3 D b n) (fun _ _ _ _ _ q => S_X6_back_25 la X hr h_X6_in _ _ _ _ _ q) hsp
    exact ⟨h1, S_X6_back_0 la X hr h_X6_in _ _ _ _ _ h2⟩)

theorem m_X6_back (la : Launch) : zMet la yX6_back wsX6_back rm_X6_back 0 0 sp_X6_back := w_X6_back la (m_X6_in la) _ vc_X6_back

