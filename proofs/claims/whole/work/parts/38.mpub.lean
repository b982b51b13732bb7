def sp_X6_count : zSp := fun b cy as N E P => ∃ w : Int32, zPM (op_count w) [.int w] b cy as N E P
abbrev rm_X6_count : Room := { frames := 1, cells := 0, slots := 0, locals := 40 }
def B_X6_count_0 (b n0 : Nat) (cy : zY) (P : zPo) (A : Nat → zC) : zC :=
  z_iload 1 (z_switch [(0, (z_aload 0 (z_get b n0 6 3 (z_const (0) (z_ald b n0 (cy 1) (z_iret 0 0 P)))))), (1, (z_aload 0 (z_get b n0 6 7 (z_const (0) (z_ald b n0 (cy 1) (z_iret 0 0 P)))))), (2, (z_aload 0 (z_get b n0 6 20 (z_iret 0 0 P)))), (3, (z_aload 0 (z_get b n0 6 14 (z_const (52) (z_ald b n0 (cy 1) (z_iret 0 0 P)))))), (4, (z_aload 0 (z_get b n0 6 2 (z_iret 0 0 P))))] (z_const (-1) (z_iret 0 0 P)))
def zVC_X6_count (sp : zSp) : Prop := ∀ (b : Nat) (cy : zY) (n : Nat) (as : List Value) (E : zE) (P : zPo) (A : Nat → zC), sp b cy as n E P → zgood as 2 ∧ B_X6_count_0 b n cy P A (lv_args 0 as) [] 0 0 E

set_option maxRecDepth 100000 in
set_option maxHeartbeats 4000000 in
theorem vc_X6_count : zVC_X6_count sp_X6_count := by
  intro b cy N as E P A hsp
  obtain ⟨w, K, ⟨T, D, C, I, S, tr⟩, rfl, hmd, hok, hK, hN, hP⟩ := hsp
  refine ⟨⟨Nat.le_of_ble_eq_true rfl, zg1 rfl (zg1 rfl (zg0))⟩, ?_⟩
  have N0 : 159 < N := by omega
  have N6 : 166 < N := by omega
  obtain ⟨lt, q, st, so, va, fa, e0⟩ := hmd.o
  replace e0 : E 159 = zM0 b tr (nI T.1) lt q st so va fa (nI S.1) := e0
  have hR := hmd.mr hok hN
  obtain ⟨f, hW, hCa⟩ := hmd.wr
  have hE := hW.2.2.1
  obtain ⟨h8, h9⟩ : (∃ g : Nat → Int32, E 168 = .inl (cy 1, 52, .inl g)) ∧ (∃ g : Nat → Int32, E 169 = .inl (cy 1, 6, .inl g)) := by obtain ⟨_, _, _, _, _, _, _, _, _, a, c, _⟩ := hmd; exact ⟨a, c⟩
  obtain ⟨hn, hlo, _, _, _, ⟨hmk, hs99, hth, hm10, _⟩, _⟩ := id hok
  replace hn : D.1 ≤ 6 := hn
  obtain ⟨v0, v4, v10, v16⟩ := zCm0 hW.2.2.2
  have N1 : 161 < N := by omega
  have N5 : 165 < N := by omega
  replace hP := hP E hmd (fun _ _ => rfl)
  obtain ⟨_, _, ⟨rf, r1, r2⟩, _, _, _, ⟨sf, s1, s2⟩, _⟩ := id hmd
  simp only [op_count] at hP
  have hin : vp_in 0 2 := (vp_in_nI (show 0 < 2 by omega) (by omega) : vp_in (nI 0) 2)
  have hcl : (0 : Int32).toNatClampNeg = 0 := by decide
  have in52 : vp_in 52 1719 := (vp_in_nI (show 52 < 1719 by omega) (by omega) : vp_in (nI 52) 1719)
  have cl52 : (52 : Int32).toNatClampNeg = 52 := by decide
  have v52 : f 52 = nI C.2.1 := by have := hCa.2.1; rwa [Nat.zero_add] at this
  simp -implicitDefEqProofs only [B_X6_count_0, e_cut, e_iload, e_aload, e_istore, e_astore, e_iinc, e_const, e_lconst, e_bin, e_bin0, e_un, e_ladd, e_dupi, e_dupr, e_dup2, e_pop, e_if, e_icmp, e_sw, e_sw0, e_sw1, e_get, e_put, e_ald, e_ast, e_aald, e_aast, e_copy, e_new, e_newa, e_anewa, e_min, e_abs, e_oinit, e_callI, e_callV, e_callS, e_iret, e_zret, e_lret, e_vret, e_tl1, e_tl0, e_tl2, e_tl3, z10, Bool.false_eq_true, e_argi, e_argr, e_argn, zld_c, zst_n, zst_c, zpick_n, zpick_c, List.drop_succ_cons, List.drop_zero, List.take_succ_cons, List.take_zero, List.length_cons, List.length_nil, List.reverse_cons, List.reverse_nil, List.nil_append, List.cons_append, List.append_nil, List.getElem?_cons_zero, List.getElem?_cons_succ, List.set_cons_zero, List.set_cons_succ, Nat.add_sub_cancel_left, Nat.sub_self, Nat.add_zero, Nat.zero_add, Nat.le_add_right, Nat.le_refl, true_and, and_true, va_rf, zok, Nat.add_left_cancel_iff, Nat.add_eq_left, Nat.left_eq_add, eq_self, if_true, if_false, not_false_eq_true, not_true_eq_false, false_implies, true_implies, Nat.reduceEqDiff, Nat.reduceAdd, Nat.reduceLT, Nat.reduceLeDiff, reduceIte, zM0, e0, hE, N0, N1, N5, N6, r1, r2, s1, s2, hin, hcl, in52, cl52, v52]
  refine ⟨fun c0 => ?_, fun c0 => ⟨fun c1 => ?_, fun c1 => ⟨fun c2 => ?_, fun c2 => ⟨fun c3 => ?_, fun c3 => ⟨fun c4 => ?_, fun c4 => ?_⟩⟩⟩⟩⟩
  · rw [if_pos c0] at hP; exact hP
  · rw [if_neg c0, if_pos c1] at hP; exact hP
  · rw [if_neg c0, if_neg c1, if_pos c2] at hP; exact hP
  · rw [if_neg c0, if_neg c1, if_neg c2, if_pos c3] at hP; exact hP
  · rw [if_neg c0, if_neg c1, if_neg c2, if_neg c3, if_pos c4] at hP; exact hP
  · rw [if_neg c0, if_neg c1, if_neg c2, if_neg c3, if_neg c4] at hP; exact hP
set_option maxRecDepth 20000 in
theorem f_X6_count_58 : Cond.fieldLink RX6 58 (TX6 2).1 (TX6 2).2.1 (TX6 2).2.2.1 ∈ wsX6_count := by decide +kernel
set_option maxRecDepth 20000 in
theorem k_X6_count_6 : ∀ w ∈ u_ws RX6 TX6 21, w ∈ wsX6_count := fun _ h => List.mem_cons_of_mem _ (List.mem_append_right _ h)
set_option maxRecDepth 20000 in
theorem f_X6_count_29 : Cond.fieldLink RX6 29 (TX6 14).1 (TX6 14).2.1 (TX6 14).2.2.1 ∈ wsX6_count := by decide +kernel
set_option maxRecDepth 20000 in
theorem f_X6_count_96 : Cond.fieldLink RX6 96 (TX6 20).1 (TX6 20).2.1 (TX6 20).2.2.1 ∈ wsX6_count := by decide +kernel
set_option maxRecDepth 20000 in
theorem f_X6_count_26 : Cond.fieldLink RX6 26 (TX6 7).1 (TX6 7).2.1 (TX6 7).2.2.1 ∈ wsX6_count := by decide +kernel
set_option maxRecDepth 20000 in
theorem f_X6_count_13 : Cond.fieldLink RX6 13 (TX6 3).1 (TX6 3).2.1 (TX6 3).2.2.1 ∈ wsX6_count := by decide +kernel
set_option maxRecDepth 100000 in
set_option maxHeartbeats 4000000 in
theorem S_X6_count_0 {p : Program} {e : Env} {s : State} {m : MethodId} {args : Array Value} {below : List Frame} {meth : Method} {c : Code} {D : va_G} {cy : zY} {b n0 : Nat} {P : zPo} (la : Launch) (X : zX p la e (rm_X6_count) s m args below meth c 2 D cy b n0 cX6_count wsX6_count RX6) (hr : meth.sig.returnType = (some .int)) : zS p la e (rm_X6_count) s m args below meth c (MQ below (zQ D b (n0 + 0) P) args s 0 0 (fun q => b ≤ q)) 2 D b n0 0 (B_X6_count_0 b n0 cy P (zAt p la e (rm_X6_count) s m args below meth c (MQ below (zQ D b (n0 + 0) P) args s 0 0 (fun q => b ≤ q)) 2 D b n0)) := by
  unfold B_X6_count_0
  exact (s_iload_n X dX6_count_0 rfl (s_table X dX6_count_1 (fun x hx => by have q0 := lv_neT (hx (0, _) (List.mem_of_getElem? (i := 0) rfl)) (a := 0) rfl; have q1 := lv_neT (hx (1, _) (List.mem_of_getElem? (i := 1) rfl)) (a := 1) rfl; have q2 := lv_neT (hx (2, _) (List.mem_of_getElem? (i := 2) rfl)) (a := 2) rfl; have q3 := lv_neT (hx (3, _) (List.mem_of_getElem? (i := 3) rfl)) (a := 3) rfl; have q4 := lv_neT (hx (4, _) (List.mem_of_getElem? (i := 4) rfl)) (a := 4) rfl; omega) (by decide) (s_iconst X dX6_count_68 (by decide) (s_iret X dX6_count_69 hr)) (List.forall_mem_cons.mpr ⟨⟨35, 36, (show ¬ (0 : Int32).toInt < 0 from by decide), (show ¬ 4 < (0 : Int32).toInt from by decide), rfl, by decide, (s_aload_n X dX6_count_36 rfl (s_get X dX6_count_37 rfl k_X6_count_6 (by decide) f_X6_count_13 (s_iconst X dX6_count_40 (by decide) (s_iald X dX6_count_41 (s_iret X dX6_count_42 hr)))))⟩, List.forall_mem_cons.mpr ⟨⟨42, 43, (show ¬ (1 : Int32).toInt < 0 from by decide), (show ¬ 4 < (1 : Int32).toInt from by decide), rfl, by decide, (s_aload_n X dX6_count_43 rfl (s_get X dX6_count_44 rfl k_X6_count_6 (by decide) f_X6_count_26 (s_iconst X dX6_count_47 (by decide) (s_iald X dX6_count_48 (s_iret X dX6_count_49 hr)))))⟩, List.forall_mem_cons.mpr ⟨⟨49, 50, (show ¬ (2 : Int32).toInt < 0 from by decide), (show ¬ 4 < (2 : Int32).toInt from by decide), rfl, by decide, (s_aload_n X dX6_count_50 rfl (s_get X dX6_count_51 rfl k_X6_count_6 (by decide) f_X6_count_96 (s_iret X dX6_count_54 hr)))⟩, List.forall_mem_cons.mpr ⟨⟨54, 55, (show ¬ (3 : Int32).toInt < 0 from by decide), (show ¬ 4 < (3 : Int32).toInt from by decide), rfl, by decide, (s_aload_n X dX6_count_55 rfl (s_get X dX6_count_56 rfl k_X6_count_6 (by decide) f_X6_count_29 (s_bipush X dX6_count_59 (by decide) (s_iald X dX6_count_61 (s_iret X dX6_count_62 hr)))))⟩, List.forall_mem_cons.mpr ⟨⟨62, 63, (show ¬ (4 : Int32).toInt < 0 from by decide), (show ¬ 4 < (4 : Int32).toInt from by decide), rfl, by decide, (s_aload_n X dX6_count_63 rfl (s_get X dX6_count_64 rfl k_X6_count_6 (by decide) f_X6_count_58 (s_iret X dX6_count_67 hr)))⟩, fun _ h => absurd h List.not_mem_nil⟩⟩⟩⟩⟩)))
theorem w_X6_count (la : Launch) (sp : zSp) (vc : zVC_X6_count sp) : zMet la yX6_count wsX6_count (rm_X6_count) 0 0 sp :=
  z_of (cc := cX6_count) (maxL := 2) (ret := (some .int)) (by decide +kernel) rfl (fun p e s m args below meth c D cy b n as E P hsp X hr hin => by
    obtain ⟨h1, h2⟩ := vc b cy n as E P (zAt p la e (rm_X6_count) s m args below meth c (MQ below (zQ D b (n + 0) P) args s 0 0 (fun q => b ≤ q)) 2 D b n) hsp
    exact ⟨h1, S_X6_count_0 la X hr _ _ _ _ _ h2⟩)

theorem m_X6_count (la : Launch) : zMet la yX6_count wsX6_count rm_X6_count 0 0 sp_X6_count := w_X6_count la _ vc_X6_count

