theorem zin_iff {k : Nat} (hk : k < 2 ^ 30) (x : Int32) : (if ¬ x < 0 ∧ ¬ nI k < x then (1 : Int32) else 0) = if zisB (k + 1) x = true then 1 else 0 := by
  by_cases c1 : x < 0
  · rw [if_neg (fun h => h.1 c1), if_neg (zisB_f1 c1)]
  · obtain ⟨j, hj, rfl⟩ := nI_of c1
    by_cases c2 : j ≤ k
    · rw [if_pos ⟨c1, fun h => by have := (nI_ltI (show k < 2 ^ 31 by omega) hj).mp h; omega⟩, if_pos (zisB_v (by omega) (by omega))]
    · rw [if_neg (fun h => h.2 (nI_lt (by omega) hj)), if_neg (zisB_f2 (nI_le (by omega) hj))]
theorem zCm.upv {f : Nat → Int32} {n k v : Nat} {c : Nat → Nat} (h : zCm f 0 n c) (hn : n ≤ 6) (hk : k < 10 ∨ 16 ≤ k) : zCm (upd f k (nI v)) 0 n (zup c k v) := by
  obtain ⟨c0, c4, c10, c16⟩ := h
  refine ⟨fun j hj => ?_, fun j hj => ?_, fun j hj => ?_, fun j hj => ?_⟩
  · simp only [upd, zup, Nat.zero_add]
    by_cases e : j = k
    · rw [if_pos e, if_pos e]
    · rw [if_neg e, if_neg e]; have := c0 j hj; rwa [Nat.zero_add] at this
  · simp only [upd, zup, Nat.zero_add]
    by_cases e : 4 + j = k
    · rw [if_pos e, if_pos e]
    · rw [if_neg e, if_neg e]; have := c4 j hj; rwa [Nat.zero_add] at this
  · simp only [upd, zup, Nat.zero_add]
    rw [if_neg (by omega), if_neg (by omega)]; have := c10 j hj; rwa [Nat.zero_add] at this
  · simp only [upd, zup, Nat.zero_add]
    by_cases e : 16 + j = k
    · rw [if_pos e, if_pos e]
    · rw [if_neg e, if_neg e]; have := c16 j hj; rwa [Nat.zero_add] at this
theorem zCm.upd10 {f : Nat → Int32} {n i v : Nat} {c : Nat → Nat} (h : zCm f 0 n c) (hn : n ≤ 6) (hi : i < 6) : zCm (upd f (10 + i) (zdn v)) 0 n (zup c (10 + i) v) := by
  obtain ⟨c0, c4, c10, c16⟩ := h
  refine ⟨fun j hj => ?_, fun j hj => ?_, fun j hj => ?_, fun j hj => ?_⟩
  · simp only [upd, zup, Nat.zero_add]
    rw [if_neg (by omega), if_neg (by omega)]; have := c0 j hj; rwa [Nat.zero_add] at this
  · simp only [upd, zup, Nat.zero_add]
    rw [if_neg (by omega), if_neg (by omega)]; have := c4 j hj; rwa [Nat.zero_add] at this
  · simp only [upd, zup, Nat.zero_add]
    by_cases e : 10 + j = 10 + i
    · rw [if_pos e, if_pos e]
    · rw [if_neg e, if_neg e]; have := c10 j hj; rwa [Nat.zero_add] at this
  · simp only [upd, zup, Nat.zero_add]
    rw [if_neg (by omega), if_neg (by omega)]; have := c16 j hj; rwa [Nat.zero_add] at this
def sp_X6_rider : zSp := fun b cy as N E P => ∃ x w : Int32, zPM (op_rider x w) [.int x, .int w] b cy as N E P
abbrev rm_X6_rider : Room := { frames := 4, cells := 0, slots := 0, locals := 112 }
def B_X6_rider_175 (b n0 : Nat) (cy : zY) (P : zPo) (A : Nat → zC) : zC :=
  z_iret 0 0 P
def B_X6_rider_160 (b n0 : Nat) (cy : zY) (P : zPo) (A : Nat → zC) : zC :=
  z_iret 0 0 P
def B_X6_rider_135 (b n0 : Nat) (cy : zY) (P : zPo) (A : Nat → zC) : zC :=
  z_iret 0 0 P
def B_X6_rider_100 (b n0 : Nat) (cy : zY) (P : zPo) (A : Nat → zC) : zC :=
  z_iret 0 0 P
def B_X6_rider_0 (b n0 : Nat) (cy : zY) (P : zPo) (A : Nat → zC) : zC :=
  z_aload 0 (z_iload 1 (z_callV b n0 0 0 cy 6 1 0 0 sp_X6_isRider (z_if (fun x => x = 0) (z_const (-1) (z_iret 0 0 P)) (z_aload 0 (z_aload 0 (z_get b n0 6 14 (z_iload 1 (z_callV b n0 0 0 cy 6 2 0 0 sp_X6_isAboard (z_istore 3 (z_iload 2 (z_switch [(0, (z_aload 0 (z_get b n0 6 14 (z_const (4) (z_iload 1 (z_bin (fun x y => x + y) (z_ald b n0 (cy 1) (z_iret 0 0 P)))))))), (1, (z_aload 0 (z_get b n0 6 5 (z_iload 1 (z_ald b n0 (cy 1) (z_iret 0 0 P)))))), (2, (z_aload 0 (z_get b n0 6 6 (z_iload 1 (z_ald b n0 (cy 1) (z_iret 0 0 P)))))), (3, (z_iload 3 (z_if (fun x => x = 0) (z_const (0) (B_X6_rider_100 b n0 cy P A)) (z_const (1) (B_X6_rider_100 b n0 cy P A))))), (4, (z_aload 0 (z_get b n0 6 14 (z_const (10) (z_iload 1 (z_bin (fun x y => x + y) (z_ald b n0 (cy 1) (z_iret 0 0 P)))))))), (5, (z_iload 3 (z_if (fun x => x = 0) (z_const (-9) (B_X6_rider_135 b n0 cy P A)) (z_aload 0 (z_aload 0 (z_get b n0 6 14 (z_iload 1 (z_aload 0 (z_get b n0 6 6 (z_iload 1 (z_ald b n0 (cy 1) (z_callV b n0 0 0 cy 6 3 0 0 sp_X6_whom (B_X6_rider_135 b n0 cy P A))))))))))))), (6, (z_iload 3 (z_if (fun x => x = 0) (z_const (-9) (B_X6_rider_160 b n0 cy P A)) (z_aload 0 (z_aload 0 (z_get b n0 6 14 (z_iload 1 (z_aload 0 (z_get b n0 6 14 (z_const (1) (z_ald b n0 (cy 1) (z_callV b n0 0 0 cy 6 3 0 0 sp_X6_byRing (B_X6_rider_160 b n0 cy P A))))))))))))), (7, (z_iload 3 (z_if (fun x => x = 0) (z_const (-9) (B_X6_rider_175 b n0 cy P A)) (z_aload 0 (z_iload 1 (z_callV b n0 0 0 cy 6 1 0 0 sp_X6_byTwo (B_X6_rider_175 b n0 cy P A)))))))] (z_const (-1) (z_iret 0 0 P)))))))))))))
def zVC_X6_rider (sp : zSp) : Prop := ∀ (b : Nat) (cy : zY) (n : Nat) (as : List Value) (E : zE) (P : zPo) (A : Nat → zC), sp b cy as n E P → zgood as 4 ∧ B_X6_rider_0 b n cy P A (lv_args 0 as) [] 0 0 E

set_option maxRecDepth 100000 in
set_option maxHeartbeats 4000000 in
theorem vc_X6_rider : zVC_X6_rider sp_X6_rider := by
  intro b cy N as E P A hsp
  obtain ⟨x, w, K, ⟨T, D, C, I, S, tr⟩, rfl, hmd, hok, hK, hN, hP⟩ := hsp
  refine ⟨⟨Nat.le_of_ble_eq_true rfl, zg1 rfl (zg1 rfl (zg1 rfl (zg0)))⟩, ?_⟩
  have N0 : 159 < N := by omega
  have N6 : 166 < N := by omega
  obtain ⟨lt, q, st, so, va, fa, e0⟩ := hmd.o
  replace e0 : E 159 = zM0 b tr (nI T.1) lt q st so va fa (nI S.1) := e0
  have hR := hmd.mr hok hN
  obtain ⟨f, hW, hCa⟩ := hmd.wr
  have hE := hW.2.2.1
  obtain ⟨h8, h9⟩ : (∃ g : Nat → Int32, E 168 = .inl (cy 1, 52, .inl g)) ∧ (∃ g : Nat → Int32, E 169 = .inl (cy 1, 6, .inl g)) := by obtain ⟨_, _, _, _, _, _, _, _, _, a, c, _⟩ := hmd; exact ⟨a, c⟩
  obtain ⟨hn, hlo, _, _, _, ⟨hmk, hs99, hth, hm10, _⟩, _⟩ := id hok
  replace hn : D.1 ≤ 6 := hn
  obtain ⟨v0, v4, v10, v16⟩ := zCm0 hW.2.2.2
  have N3 : 163 < N := by omega
  have N4 : 164 < N := by omega
  replace hP := hP E hmd (fun _ _ => rfl)
  obtain ⟨_, _, _, _, ⟨lf, l1, l2⟩, ⟨wf, w1, w2⟩, _⟩ := id hmd
  replace l1 : E 163 = .inl (cy 1, 12, .inl lf) := l1
  replace w1 : E 164 = .inl (cy 1, 12, .inl wf) := w1
  simp only [op_rider] at hP
  have in1 : vp_in 1 1719 := (vp_in_nI (show 1 < 1719 by omega) (by omega) : vp_in (nI 1) 1719)
  have cl1 : (1 : Int32).toNatClampNeg = 1 := by decide
  have k4 : ∀ j : Nat, (4 : Int32) + nI j = nI (4 + j) := fun j => nI_add 4 j
  have k10 : ∀ j : Nat, (10 : Int32) + nI j = nI (10 + j) := fun j => nI_add 10 j
  simp -implicitDefEqProofs only [B_X6_rider_0, e_cut, e_iload, e_aload, e_istore, e_astore, e_iinc, e_const, e_lconst, e_bin, e_bin0, e_un, e_ladd, e_dupi, e_dupr, e_dup2, e_pop, e_sw, e_sw0, e_sw1, e_get, e_put, e_ald, e_ast, e_aald, e_aast, e_copy, e_new, e_newa, e_anewa, e_min, e_abs, e_oinit, e_callI, e_callV, e_callS, e_iret, e_zret, e_lret, e_vret, e_tl1, e_tl0, e_tl2, e_tl3, z10, Bool.false_eq_true, e_argi, e_argr, e_argn, zld_c, zst_n, zst_c, zpick_n, zpick_c, List.drop_succ_cons, List.drop_zero, List.take_succ_cons, List.take_zero, List.length_cons, List.length_nil, List.reverse_cons, List.reverse_nil, List.nil_append, List.cons_append, List.append_nil, List.getElem?_cons_zero, List.getElem?_cons_succ, List.set_cons_zero, List.set_cons_succ, Nat.add_sub_cancel_left, Nat.sub_self, Nat.add_zero, Nat.zero_add, Nat.le_add_right, Nat.le_refl, true_and, and_true, va_rf, zok, Nat.add_left_cancel_iff, Nat.add_eq_left, Nat.left_eq_add, eq_self, if_true, if_false, not_false_eq_true, not_true_eq_false, false_implies, true_implies, Nat.reduceEqDiff, Nat.reduceAdd, Nat.reduceLT, Nat.reduceLeDiff, reduceIte, zM0, e0, N0]
  refine ⟨_, _, _, x, rfl, hR, ?_⟩
  by_cases q1 : zisB D.1 x = true
  · obtain ⟨r, hr, rfl⟩ := zisB_t q1 hn
    have hr6 : r < 6 := by omega
    have hin : vp_in (nI r) 12 := vp_in_nI (by omega) (by omega)
    have hcl : (nI r).toNatClampNeg = r := nI_clamp (by omega)
    have i4 : vp_in (nI (4 + r)) 1719 := vp_in_nI (by omega) (by omega)
    have j4 : (nI (4 + r)).toNatClampNeg = 4 + r := nI_clamp (by omega)
    have i10 : vp_in (nI (10 + r)) 1719 := vp_in_nI (by omega) (by omega)
    have j10 : (nI (10 + r)).toNatClampNeg = 10 + r := nI_clamp (by omega)
    simp only [q1, if_true, zcl_i (show r < 2 ^ 31 by omega)] at hP
    simp -implicitDefEqProofs only [e_cut, e_iload, e_aload, e_istore, e_astore, e_iinc, e_const, e_lconst, e_bin, e_bin0, e_un, e_ladd, e_dupi, e_dupr, e_dup2, e_pop, e_sw, e_sw0, e_sw1, e_get, e_put, e_ald, e_ast, e_aald, e_aast, e_copy, e_new, e_newa, e_anewa, e_min, e_abs, e_oinit, e_callI, e_callV, e_callS, e_iret, e_zret, e_lret, e_vret, e_tl1, e_tl0, e_tl2, e_tl3, z10, Bool.false_eq_true, e_argi, e_argr, e_argn, zld_c, zst_n, zst_c, zpick_n, zpick_c, List.drop_succ_cons, List.drop_zero, List.take_succ_cons, List.take_zero, List.length_cons, List.length_nil, List.reverse_cons, List.reverse_nil, List.nil_append, List.cons_append, List.append_nil, List.getElem?_cons_zero, List.getElem?_cons_succ, List.set_cons_zero, List.set_cons_succ, Nat.add_sub_cancel_left, Nat.sub_self, Nat.add_zero, Nat.zero_add, Nat.le_add_right, Nat.le_refl, true_and, and_true, va_rf, zok, Nat.add_left_cancel_iff, Nat.add_eq_left, Nat.left_eq_add, eq_self, if_true, if_false, not_false_eq_true, not_true_eq_false, false_implies, true_implies, Nat.reduceEqDiff, Nat.reduceAdd, Nat.reduceLT, Nat.reduceLeDiff, reduceIte, e_iff (c1 := fun x => x = 0) (x := 1) (by decide), zM0, e0, N0, q1]
    refine ⟨166, r, D.1, C.1, rfl, hW.ar, N6, hr6, hmk.l64, ?_⟩
    simp -implicitDefEqProofs only [e_cut, e_iload, e_aload, e_istore, e_astore, e_iinc, e_const, e_lconst, e_bin, e_bin0, e_un, e_ladd, e_dupi, e_dupr, e_dup2, e_pop, e_sw, e_sw0, e_sw1, e_get, e_put, e_ald, e_ast, e_aald, e_aast, e_copy, e_new, e_newa, e_anewa, e_min, e_abs, e_oinit, e_callI, e_callV, e_callS, e_iret, e_zret, e_lret, e_vret, e_tl1, e_tl0, e_tl2, e_tl3, z10, Bool.false_eq_true, e_argi, e_argr, e_argn, zld_c, zst_n, zst_c, zpick_n, zpick_c, List.drop_succ_cons, List.drop_zero, List.take_succ_cons, List.take_zero, List.length_cons, List.length_nil, List.reverse_cons, List.reverse_nil, List.nil_append, List.cons_append, List.append_nil, List.getElem?_cons_zero, List.getElem?_cons_succ, List.set_cons_zero, List.set_cons_succ, Nat.add_sub_cancel_left, Nat.sub_self, Nat.add_zero, Nat.zero_add, Nat.le_add_right, Nat.le_refl, true_and, and_true, va_rf, zok, Nat.add_left_cancel_iff, Nat.add_eq_left, Nat.left_eq_add, eq_self, if_true, if_false, not_false_eq_true, not_true_eq_false, false_implies, true_implies, Nat.reduceEqDiff, Nat.reduceAdd, Nat.reduceLT, Nat.reduceLeDiff, reduceIte, zM0, e0, N0, N3, N4, N6, hE, l1, w1, k4, k10, hin, hcl, i4, j4, i10, j10, v4 r hr, v10 r hr6, l2 r hr, w2 r hr, in1, cl1, v0 1 (by omega)]
    refine ⟨fun c0 => ?_, fun c0 => ⟨fun c1 => ?_, fun c1 => ⟨fun c2 => ?_, fun c2 => ⟨fun c3 => ?_, fun c3 => ⟨fun c4 => ?_, fun c4 => ⟨fun c5 => ?_, fun c5 => ⟨fun c6 => ?_, fun c6 => ⟨fun c7 => ?_, fun c7 => ?_⟩⟩⟩⟩⟩⟩⟩⟩
    · rw [if_pos c0] at hP; exact hP
    · rw [if_neg c0, if_pos c1] at hP; exact hP
    · rw [if_neg c0, if_neg c1, if_pos c2] at hP; exact hP
    · rw [if_neg c0, if_neg c1, if_neg c2, if_pos c3] at hP
      by_cases q2 : (C.1 1).testBit r = true
      · simp only [q2, if_true] at hP
        simp -implicitDefEqProofs only [e_cut, e_iload, e_aload, e_istore, e_astore, e_iinc, e_const, e_lconst, e_bin, e_bin0, e_un, e_ladd, e_dupi, e_dupr, e_dup2, e_pop, e_sw, e_sw0, e_sw1, e_get, e_put, e_ald, e_ast, e_aald, e_aast, e_copy, e_new, e_newa, e_anewa, e_min, e_abs, e_oinit, e_callI, e_callV, e_callS, e_iret, e_zret, e_lret, e_vret, e_tl1, e_tl0, e_tl2, e_tl3, z10, Bool.false_eq_true, e_argi, e_argr, e_argn, zld_c, zst_n, zst_c, zpick_n, zpick_c, List.drop_succ_cons, List.drop_zero, List.take_succ_cons, List.take_zero, List.length_cons, List.length_nil, List.reverse_cons, List.reverse_nil, List.nil_append, List.cons_append, List.append_nil, List.getElem?_cons_zero, List.getElem?_cons_succ, List.set_cons_zero, List.set_cons_succ, Nat.add_sub_cancel_left, Nat.sub_self, Nat.add_zero, Nat.zero_add, Nat.le_add_right, Nat.le_refl, true_and, and_true, va_rf, zok, Nat.add_left_cancel_iff, Nat.add_eq_left, Nat.left_eq_add, eq_self, if_true, if_false, not_false_eq_true, not_true_eq_false, false_implies, true_implies, Nat.reduceEqDiff, Nat.reduceAdd, Nat.reduceLT, Nat.reduceLeDiff, reduceIte, q2, e_iff (c1 := fun x => x = 0) (x := 1) (by decide), B_X6_rider_100]; exact hP
      · simp only [q2, if_false] at hP
        simp -implicitDefEqProofs only [e_cut, e_iload, e_aload, e_istore, e_astore, e_iinc, e_const, e_lconst, e_bin, e_bin0, e_un, e_ladd, e_dupi, e_dupr, e_dup2, e_pop, e_sw, e_sw0, e_sw1, e_get, e_put, e_ald, e_ast, e_aald, e_aast, e_copy, e_new, e_newa, e_anewa, e_min, e_abs, e_oinit, e_callI, e_callV, e_callS, e_iret, e_zret, e_lret, e_vret, e_tl1, e_tl0, e_tl2, e_tl3, z10, Bool.false_eq_true, e_argi, e_argr, e_argn, zld_c, zst_n, zst_c, zpick_n, zpick_c, List.drop_succ_cons, List.drop_zero, List.take_succ_cons, List.take_zero, List.length_cons, List.length_nil, List.reverse_cons, List.reverse_nil, List.nil_append, List.cons_append, List.append_nil, List.getElem?_cons_zero, List.getElem?_cons_succ, List.set_cons_zero, List.set_cons_succ, Nat.add_sub_cancel_left, Nat.sub_self, Nat.add_zero, Nat.zero_add, Nat.le_add_right, Nat.le_refl, true_and, and_true, va_rf, zok, Nat.add_left_cancel_iff, Nat.add_eq_left, Nat.left_eq_add, eq_self, if_true, if_false, not_false_eq_true, not_true_eq_false, false_implies, true_implies, Nat.reduceEqDiff, Nat.reduceAdd, Nat.reduceLT, Nat.reduceLeDiff, reduceIte, q2, e_ift (c1 := fun x => x = 0) (x := 0) rfl, B_X6_rider_100]; exact hP
    · rw [if_neg c0, if_neg c1, if_neg c2, if_neg c3, if_pos c4] at hP; exact hP
    · rw [if_neg c0, if_neg c1, if_neg c2, if_neg c3, if_neg c4, if_pos c5] at hP
      unfold zwhom at hP
      by_cases q2 : (C.1 1).testBit r = true
      · rw [if_pos q2] at hP
        simp -implicitDefEqProofs only [e_cut, e_iload, e_aload, e_istore, e_astore, e_iinc, e_const, e_lconst, e_bin, e_bin0, e_un, e_ladd, e_dupi, e_dupr, e_dup2, e_pop, e_sw, e_sw0, e_sw1, e_get, e_put, e_ald, e_ast, e_aald, e_aast, e_copy, e_new, e_newa, e_anewa, e_min, e_abs, e_oinit, e_callI, e_callV, e_callS, e_iret, e_zret, e_lret, e_vret, e_tl1, e_tl0, e_tl2, e_tl3, z10, Bool.false_eq_true, e_argi, e_argr, e_argn, zld_c, zst_n, zst_c, zpick_n, zpick_c, List.drop_succ_cons, List.drop_zero, List.take_succ_cons, List.take_zero, List.length_cons, List.length_nil, List.reverse_cons, List.reverse_nil, List.nil_append, List.cons_append, List.append_nil, List.getElem?_cons_zero, List.getElem?_cons_succ, List.set_cons_zero, List.set_cons_succ, Nat.add_sub_cancel_left, Nat.sub_self, Nat.add_zero, Nat.zero_add, Nat.le_add_right, Nat.le_refl, true_and, and_true, va_rf, zok, Nat.add_left_cancel_iff, Nat.add_eq_left, Nat.left_eq_add, eq_self, if_true, if_false, not_false_eq_true, not_true_eq_false, false_implies, true_implies, Nat.reduceEqDiff, Nat.reduceAdd, Nat.reduceLT, Nat.reduceLeDiff, reduceIte, q2, e_iff (c1 := fun x => x = 0) (x := 1) (by decide), zM0, e0, N0, N4, w1, hin, hcl, w2 r hr]
        refine ⟨_, _, _, C.1, 166, r, _, rfl, hR, hW.ar, hmk, N6, hr, (hlo r hr).2, ?_⟩
        simp -implicitDefEqProofs only [e_cut, e_iload, e_aload, e_istore, e_astore, e_iinc, e_const, e_lconst, e_bin, e_bin0, e_un, e_ladd, e_dupi, e_dupr, e_dup2, e_pop, e_sw, e_sw0, e_sw1, e_get, e_put, e_ald, e_ast, e_aald, e_aast, e_copy, e_new, e_newa, e_anewa, e_min, e_abs, e_oinit, e_callI, e_callV, e_callS, e_iret, e_zret, e_lret, e_vret, e_tl1, e_tl0, e_tl2, e_tl3, z10, Bool.false_eq_true, e_argi, e_argr, e_argn, zld_c, zst_n, zst_c, zpick_n, zpick_c, List.drop_succ_cons, List.drop_zero, List.take_succ_cons, List.take_zero, List.length_cons, List.length_nil, List.reverse_cons, List.reverse_nil, List.nil_append, List.cons_append, List.append_nil, List.getElem?_cons_zero, List.getElem?_cons_succ, List.set_cons_zero, List.set_cons_succ, Nat.add_sub_cancel_left, Nat.sub_self, Nat.add_zero, Nat.zero_add, Nat.le_add_right, Nat.le_refl, true_and, and_true, va_rf, zok, Nat.add_left_cancel_iff, Nat.add_eq_left, Nat.left_eq_add, eq_self, if_true, if_false, not_false_eq_true, not_true_eq_false, false_implies, true_implies, Nat.reduceEqDiff, Nat.reduceAdd, Nat.reduceLT, Nat.reduceLeDiff, reduceIte, B_X6_rider_135]; exact hP
      · rw [if_neg q2] at hP
        simp -implicitDefEqProofs only [e_cut, e_iload, e_aload, e_istore, e_astore, e_iinc, e_const, e_lconst, e_bin, e_bin0, e_un, e_ladd, e_dupi, e_dupr, e_dup2, e_pop, e_sw, e_sw0, e_sw1, e_get, e_put, e_ald, e_ast, e_aald, e_aast, e_copy, e_new, e_newa, e_anewa, e_min, e_abs, e_oinit, e_callI, e_callV, e_callS, e_iret, e_zret, e_lret, e_vret, e_tl1, e_tl0, e_tl2, e_tl3, z10, Bool.false_eq_true, e_argi, e_argr, e_argn, zld_c, zst_n, zst_c, zpick_n, zpick_c, List.drop_succ_cons, List.drop_zero, List.take_succ_cons, List.take_zero, List.length_cons, List.length_nil, List.reverse_cons, List.reverse_nil, List.nil_append, List.cons_append, List.append_nil, List.getElem?_cons_zero, List.getElem?_cons_succ, List.set_cons_zero, List.set_cons_succ, Nat.add_sub_cancel_left, Nat.sub_self, Nat.add_zero, Nat.zero_add, Nat.le_add_right, Nat.le_refl, true_and, and_true, va_rf, zok, Nat.add_left_cancel_iff, Nat.add_eq_left, Nat.left_eq_add, eq_self, if_true, if_false, not_false_eq_true, not_true_eq_false, false_implies, true_implies, Nat.reduceEqDiff, Nat.reduceAdd, Nat.reduceLT, Nat.reduceLeDiff, reduceIte, q2, e_ift (c1 := fun x => x = 0) (x := 0) rfl, B_X6_rider_135]; exact hP
    · rw [if_neg c0, if_neg c1, if_neg c2, if_neg c3, if_neg c4, if_neg c5, if_pos c6] at hP
      by_cases q2 : (C.1 1).testBit r = true
      · rw [if_pos q2] at hP
        simp -implicitDefEqProofs only [e_cut, e_iload, e_aload, e_istore, e_astore, e_iinc, e_const, e_lconst, e_bin, e_bin0, e_un, e_ladd, e_dupi, e_dupr, e_dup2, e_pop, e_sw, e_sw0, e_sw1, e_get, e_put, e_ald, e_ast, e_aald, e_aast, e_copy, e_new, e_newa, e_anewa, e_min, e_abs, e_oinit, e_callI, e_callV, e_callS, e_iret, e_zret, e_lret, e_vret, e_tl1, e_tl0, e_tl2, e_tl3, z10, Bool.false_eq_true, e_argi, e_argr, e_argn, zld_c, zst_n, zst_c, zpick_n, zpick_c, List.drop_succ_cons, List.drop_zero, List.take_succ_cons, List.take_zero, List.length_cons, List.length_nil, List.reverse_cons, List.reverse_nil, List.nil_append, List.cons_append, List.append_nil, List.getElem?_cons_zero, List.getElem?_cons_succ, List.set_cons_zero, List.set_cons_succ, Nat.add_sub_cancel_left, Nat.sub_self, Nat.add_zero, Nat.zero_add, Nat.le_add_right, Nat.le_refl, true_and, and_true, va_rf, zok, Nat.add_left_cancel_iff, Nat.add_eq_left, Nat.left_eq_add, eq_self, if_true, if_false, not_false_eq_true, not_true_eq_false, false_implies, true_implies, Nat.reduceEqDiff, Nat.reduceAdd, Nat.reduceLT, Nat.reduceLeDiff, reduceIte, q2, e_iff (c1 := fun x => x = 0) (x := 1) (by decide), zM0, e0, N0, N6, hE, in1, cl1, v0 1 (by omega)]
        refine ⟨_, _, _, C.1, 166, r, _, rfl, hR, hW.ar, hmk, N6, hr6, hmk.l64, ?_⟩
        simp -implicitDefEqProofs only [e_cut, e_iload, e_aload, e_istore, e_astore, e_iinc, e_const, e_lconst, e_bin, e_bin0, e_un, e_ladd, e_dupi, e_dupr, e_dup2, e_pop, e_sw, e_sw0, e_sw1, e_get, e_put, e_ald, e_ast, e_aald, e_aast, e_copy, e_new, e_newa, e_anewa, e_min, e_abs, e_oinit, e_callI, e_callV, e_callS, e_iret, e_zret, e_lret, e_vret, e_tl1, e_tl0, e_tl2, e_tl3, z10, Bool.false_eq_true, e_argi, e_argr, e_argn, zld_c, zst_n, zst_c, zpick_n, zpick_c, List.drop_succ_cons, List.drop_zero, List.take_succ_cons, List.take_zero, List.length_cons, List.length_nil, List.reverse_cons, List.reverse_nil, List.nil_append, List.cons_append, List.append_nil, List.getElem?_cons_zero, List.getElem?_cons_succ, List.set_cons_zero, List.set_cons_succ, Nat.add_sub_cancel_left, Nat.sub_self, Nat.add_zero, Nat.zero_add, Nat.le_add_right, Nat.le_refl, true_and, and_true, va_rf, zok, Nat.add_left_cancel_iff, Nat.add_eq_left, Nat.left_eq_add, eq_self, if_true, if_false, not_false_eq_true, not_true_eq_false, false_implies, true_implies, Nat.reduceEqDiff, Nat.reduceAdd, Nat.reduceLT, Nat.reduceLeDiff, reduceIte, B_X6_rider_160]; exact hP
      · rw [if_neg q2] at hP
        simp -implicitDefEqProofs only [e_cut, e_iload, e_aload, e_istore, e_astore, e_iinc, e_const, e_lconst, e_bin, e_bin0, e_un, e_ladd, e_dupi, e_dupr, e_dup2, e_pop, e_sw, e_sw0, e_sw1, e_get, e_put, e_ald, e_ast, e_aald, e_aast, e_copy, e_new, e_newa, e_anewa, e_min, e_abs, e_oinit, e_callI, e_callV, e_callS, e_iret, e_zret, e_lret, e_vret, e_tl1, e_tl0, e_tl2, e_tl3, z10, Bool.false_eq_true, e_argi, e_argr, e_argn, zld_c, zst_n, zst_c, zpick_n, zpick_c, List.drop_succ_cons, List.drop_zero, List.take_succ_cons, List.take_zero, List.length_cons, List.length_nil, List.reverse_cons, List.reverse_nil, List.nil_append, List.cons_append, List.append_nil, List.getElem?_cons_zero, List.getElem?_cons_succ, List.set_cons_zero, List.set_cons_succ, Nat.add_sub_cancel_left, Nat.sub_self, Nat.add_zero, Nat.zero_add, Nat.le_add_right, Nat.le_refl, true_and, and_true, va_rf, zok, Nat.add_left_cancel_iff, Nat.add_eq_left, Nat.left_eq_add, eq_self, if_true, if_false, not_false_eq_true, not_true_eq_false, false_implies, true_implies, Nat.reduceEqDiff, Nat.reduceAdd, Nat.reduceLT, Nat.reduceLeDiff, reduceIte, q2, e_ift (c1 := fun x => x = 0) (x := 0) rfl, B_X6_rider_160]; exact hP
    · rw [if_neg c0, if_neg c1, if_neg c2, if_neg c3, if_neg c4, if_neg c5, if_neg c6, if_pos c7] at hP
      by_cases q2 : (C.1 1).testBit r = true
      · rw [if_pos q2] at hP
        simp -implicitDefEqProofs only [e_cut, e_iload, e_aload, e_istore, e_astore, e_iinc, e_const, e_lconst, e_bin, e_bin0, e_un, e_ladd, e_dupi, e_dupr, e_dup2, e_pop, e_sw, e_sw0, e_sw1, e_get, e_put, e_ald, e_ast, e_aald, e_aast, e_copy, e_new, e_newa, e_anewa, e_min, e_abs, e_oinit, e_callI, e_callV, e_callS, e_iret, e_zret, e_lret, e_vret, e_tl1, e_tl0, e_tl2, e_tl3, z10, Bool.false_eq_true, e_argi, e_argr, e_argn, zld_c, zst_n, zst_c, zpick_n, zpick_c, List.drop_succ_cons, List.drop_zero, List.take_succ_cons, List.take_zero, List.length_cons, List.length_nil, List.reverse_cons, List.reverse_nil, List.nil_append, List.cons_append, List.append_nil, List.getElem?_cons_zero, List.getElem?_cons_succ, List.set_cons_zero, List.set_cons_succ, Nat.add_sub_cancel_left, Nat.sub_self, Nat.add_zero, Nat.zero_add, Nat.le_add_right, Nat.le_refl, true_and, and_true, va_rf, zok, Nat.add_left_cancel_iff, Nat.add_eq_left, Nat.left_eq_add, eq_self, if_true, if_false, not_false_eq_true, not_true_eq_false, false_implies, true_implies, Nat.reduceEqDiff, Nat.reduceAdd, Nat.reduceLT, Nat.reduceLeDiff, reduceIte, q2, e_iff (c1 := fun x => x = 0) (x := 1) (by decide), zM0, e0, N0]
        refine ⟨_, _, _, C.1, r, rfl, hR, hW.ar, hmk, hr6, ?_⟩
        simp -implicitDefEqProofs only [e_cut, e_iload, e_aload, e_istore, e_astore, e_iinc, e_const, e_lconst, e_bin, e_bin0, e_un, e_ladd, e_dupi, e_dupr, e_dup2, e_pop, e_sw, e_sw0, e_sw1, e_get, e_put, e_ald, e_ast, e_aald, e_aast, e_copy, e_new, e_newa, e_anewa, e_min, e_abs, e_oinit, e_callI, e_callV, e_callS, e_iret, e_zret, e_lret, e_vret, e_tl1, e_tl0, e_tl2, e_tl3, z10, Bool.false_eq_true, e_argi, e_argr, e_argn, zld_c, zst_n, zst_c, zpick_n, zpick_c, List.drop_succ_cons, List.drop_zero, List.take_succ_cons, List.take_zero, List.length_cons, List.length_nil, List.reverse_cons, List.reverse_nil, List.nil_append, List.cons_append, List.append_nil, List.getElem?_cons_zero, List.getElem?_cons_succ, List.set_cons_zero, List.set_cons_succ, Nat.add_sub_cancel_left, Nat.sub_self, Nat.add_zero, Nat.zero_add, Nat.le_add_right, Nat.le_refl, true_and, and_true, va_rf, zok, Nat.add_left_cancel_iff, Nat.add_eq_left, Nat.left_eq_add, eq_self, if_true, if_false, not_false_eq_true, not_true_eq_false, false_implies, true_implies, Nat.reduceEqDiff, Nat.reduceAdd, Nat.reduceLT, Nat.reduceLeDiff, reduceIte, B_X6_rider_175]; exact hP
      · rw [if_neg q2] at hP
        simp -implicitDefEqProofs only [e_cut, e_iload, e_aload, e_istore, e_astore, e_iinc, e_const, e_lconst, e_bin, e_bin0, e_un, e_ladd, e_dupi, e_dupr, e_dup2, e_pop, e_sw, e_sw0, e_sw1, e_get, e_put, e_ald, e_ast, e_aald, e_aast, e_copy, e_new, e_newa, e_anewa, e_min, e_abs, e_oinit, e_callI, e_callV, e_callS, e_iret, e_zret, e_lret, e_vret, e_tl1, e_tl0, e_tl2, e_tl3, z10, Bool.false_eq_true, e_argi, e_argr, e_argn, zld_c, zst_n, zst_c, zpick_n, zpick_c, List.drop_succ_cons, List.drop_zero, List.take_succ_cons, List.take_zero, List.length_cons, List.length_nil, List.reverse_cons, List.reverse_nil, List.nil_append, List.cons_append, List.append_nil, List.getElem?_cons_zero, List.getElem?_cons_succ, List.set_cons_zero, List.set_cons_succ, Nat.add_sub_cancel_left, Nat.sub_self, Nat.add_zero, Nat.zero_add, Nat.le_add_right, Nat.le_refl, true_and, and_true, va_rf, zok, Nat.add_left_cancel_iff, Nat.add_eq_left, Nat.left_eq_add, eq_self, if_true, if_false, not_false_eq_true, not_true_eq_false, false_implies, true_implies, Nat.reduceEqDiff, Nat.reduceAdd, Nat.reduceLT, Nat.reduceLeDiff, reduceIte, q2, e_ift (c1 := fun x => x = 0) (x := 0) rfl, B_X6_rider_175]; exact hP
    · rw [if_neg c0, if_neg c1, if_neg c2, if_neg c3, if_neg c4, if_neg c5, if_neg c6, if_neg c7] at hP; exact hP
  · rw [if_neg q1] at hP
    simp -implicitDefEqProofs only [e_cut, e_iload, e_aload, e_istore, e_astore, e_iinc, e_const, e_lconst, e_bin, e_bin0, e_un, e_ladd, e_dupi, e_dupr, e_dup2, e_pop, e_sw, e_sw0, e_sw1, e_get, e_put, e_ald, e_ast, e_aald, e_aast, e_copy, e_new, e_newa, e_anewa, e_min, e_abs, e_oinit, e_callI, e_callV, e_callS, e_iret, e_zret, e_lret, e_vret, e_tl1, e_tl0, e_tl2, e_tl3, z10, Bool.false_eq_true, e_argi, e_argr, e_argn, zld_c, zst_n, zst_c, zpick_n, zpick_c, List.drop_succ_cons, List.drop_zero, List.take_succ_cons, List.take_zero, List.length_cons, List.length_nil, List.reverse_cons, List.reverse_nil, List.nil_append, List.cons_append, List.append_nil, List.getElem?_cons_zero, List.getElem?_cons_succ, List.set_cons_zero, List.set_cons_succ, Nat.add_sub_cancel_left, Nat.sub_self, Nat.add_zero, Nat.zero_add, Nat.le_add_right, Nat.le_refl, true_and, and_true, va_rf, zok, Nat.add_left_cancel_iff, Nat.add_eq_left, Nat.left_eq_add, eq_self, if_true, if_false, not_false_eq_true, not_true_eq_false, false_implies, true_implies, Nat.reduceEqDiff, Nat.reduceAdd, Nat.reduceLT, Nat.reduceLeDiff, reduceIte, e_ift (c1 := fun x => x = 0) (x := 0) rfl, q1]
    exact hP
set_option maxRecDepth 20000 in
theorem f_X6_rider_29 : Cond.fieldLink RX6 29 (TX6 14).1 (TX6 14).2.1 (TX6 14).2.2.1 ∈ wsX6_rider := by decide +kernel
set_option maxRecDepth 20000 in
theorem k_X6_rider_6 : ∀ w ∈ u_ws RX6 TX6 21, w ∈ wsX6_rider := fun _ h => List.mem_cons_of_mem _ (List.mem_append_right _ h)
set_option maxRecDepth 20000 in
theorem f_X6_rider_23 : Cond.fieldLink RX6 23 (TX6 6).1 (TX6 6).2.1 (TX6 6).2.2.1 ∈ wsX6_rider := by decide +kernel
set_option maxRecDepth 20000 in
theorem f_X6_rider_20 : Cond.fieldLink RX6 20 (TX6 5).1 (TX6 5).2.1 (TX6 5).2.2.1 ∈ wsX6_rider := by decide +kernel
set_option maxRecDepth 100000 in
set_option maxHeartbeats 4000000 in
theorem S_X6_rider_175 {p : Program} {e : Env} {s : State} {m : MethodId} {args : Array Value} {below : List Frame} {meth : Method} {c : Code} {D : va_G} {cy : zY} {b n0 : Nat} {P : zPo} (la : Launch) (X : zX p la e (rm_X6_rider) s m args below meth c 4 D cy b n0 cX6_rider wsX6_rider RX6) (hr : meth.sig.returnType = (some .int)) (h_X6_byRing : zMet la yX6_byRing wsX6_byRing rm_X6_byRing 0 0 sp_X6_byRing) (h_X6_byTwo : zMet la yX6_byTwo wsX6_byTwo rm_X6_byTwo 0 0 sp_X6_byTwo) (h_X6_isAboard : zMet la yX6_isAboard wsX6_isAboard rm_X6_isAboard 0 0 sp_X6_isAboard) (h_X6_isRider : zMet la yX6_isRider wsX6_isRider rm_X6_isRider 0 0 sp_X6_isRider) (h_X6_whom : zMet la yX6_whom wsX6_whom rm_X6_whom 0 0 sp_X6_whom) : zS p la e (rm_X6_rider) s m args below meth c (MQ below (zQ D b (n0 + 0) P) args s 0 0 (fun q => b ≤ q)) 4 D b n0 175 (B_X6_rider_175 b n0 cy P (zAt p la e (rm_X6_rider) s m args below meth c (MQ below (zQ D b (n0 + 0) P) args s 0 0 (fun q => b ≤ q)) 4 D b n0)) := by
  unfold B_X6_rider_175
  exact (s_iret X dX6_rider_175 hr)
set_option maxRecDepth 100000 in
set_option maxHeartbeats 4000000 in
theorem S_X6_rider_160 {p : Program} {e : Env} {s : State} {m : MethodId} {args : Array Value} {below : List Frame} {meth : Method} {c : Code} {D : va_G} {cy : zY} {b n0 : Nat} {P : zPo} (la : Launch) (X : zX p la e (rm_X6_rider) s m args below meth c 4 D cy b n0 cX6_rider wsX6_rider RX6) (hr : meth.sig.returnType = (some .int)) (h_X6_byRing : zMet la yX6_byRing wsX6_byRing rm_X6_byRing 0 0 sp_X6_byRing) (h_X6_byTwo : zMet la yX6_byTwo wsX6_byTwo rm_X6_byTwo 0 0 sp_X6_byTwo) (h_X6_isAboard : zMet la yX6_isAboard wsX6_isAboard rm_X6_isAboard 0 0 sp_X6_isAboard) (h_X6_isRider : zMet la yX6_isRider wsX6_isRider rm_X6_isRider 0 0 sp_X6_isRider) (h_X6_whom : zMet la yX6_whom wsX6_whom rm_X6_whom 0 0 sp_X6_whom) : zS p la e (rm_X6_rider) s m args below meth c (MQ below (zQ D b (n0 + 0) P) args s 0 0 (fun q => b ≤ q)) 4 D b n0 160 (B_X6_rider_160 b n0 cy P (zAt p la e (rm_X6_rider) s m args below meth c (MQ below (zQ D b (n0 + 0) P) args s 0 0 (fun q => b ≤ q)) 4 D b n0)) := by
  unfold B_X6_rider_160
  exact (s_iret X dX6_rider_160 hr)
set_option maxRecDepth 100000 in
set_option maxHeartbeats 4000000 in
theorem S_X6_rider_135 {p : Program} {e : Env} {s : State} {m : MethodId} {args : Array Value} {below : List Frame} {meth : Method} {c : Code} {D : va_G} {cy : zY} {b n0 : Nat} {P : zPo} (la : Launch) (X : zX p la e (rm_X6_rider) s m args below meth c 4 D cy b n0 cX6_rider wsX6_rider RX6) (hr : meth.sig.returnType = (some .int)) (h_X6_byRing : zMet la yX6_byRing wsX6_byRing rm_X6_byRing 0 0 sp_X6_byRing) (h_X6_byTwo : zMet la yX6_byTwo wsX6_byTwo rm_X6_byTwo 0 0 sp_X6_byTwo) (h_X6_isAboard : zMet la yX6_isAboard wsX6_isAboard rm_X6_isAboard 0 0 sp_X6_isAboard) (h_X6_isRider : zMet la yX6_isRider wsX6_isRider rm_X6_isRider 0 0 sp_X6_isRider) (h_X6_whom : zMet la yX6_whom wsX6_whom rm_X6_whom 0 0 sp_X6_whom) : zS p la e (rm_X6_rider) s m args below meth c (MQ below (zQ D b (n0 + 0) P) args s 0 0 (fun q => b ≤ q)) 4 D b n0 135 (B_X6_rider_135 b n0 cy P (zAt p la e (rm_X6_rider) s m args below meth c (MQ below (zQ D b (n0 + 0) P) args s 0 0 (fun q => b ≤ q)) 4 D b n0)) := by
  unfold B_X6_rider_135
  exact (s_iret X dX6_rider_135 hr)
set_option maxRecDepth 100000 in
set_option maxHeartbeats 4000000 in
theorem S_X6_rider_100 {p : Program} {e : Env} {s : State} {m : MethodId} {args : Array Value} {below : List Frame} {meth : Method} {c : Code} {D : va_G} {cy : zY} {b n0 : Nat} {P : zPo} (la : Launch) (X : zX p la e (rm_X6_rider) s m args below meth c 4 D cy b n0 cX6_rider wsX6_rider RX6) (hr : meth.sig.returnType = (some .int)) (h_X6_byRing : zMet la yX6_byRing wsX6_byRing rm_X6_byRing 0 0 sp_X6_byRing) (h_X6_byTwo : zMet la yX6_byTwo wsX6_byTwo rm_X6_byTwo 0 0 sp_X6_byTwo) (h_X6_isAboard : zMet la yX6_isAboard wsX6_isAboard rm_X6_isAboard 0 0 sp_X6_isAboard) (h_X6_isRider : zMet la yX6_isRider wsX6_isRider rm_X6_isRider 0 0 sp_X6_isRider) (h_X6_whom : zMet la yX6_whom wsX6_whom rm_X6_whom 0 0 sp_X6_whom) : zS p la e (rm_X6_rider) s m args below meth c (MQ below (zQ D b (n0 + 0) P) args s 0 0 (fun q => b ≤ q)) 4 D b n0 100 (B_X6_rider_100 b n0 cy P (zAt p la e (rm_X6_rider) s m args below meth c (MQ below (zQ D b (n0 + 0) P) args s 0 0 (fun q => b ≤ q)) 4 D b n0)) := by
  unfold B_X6_rider_100
  exact (s_iret X dX6_rider_100 hr)
set_option maxRecDepth 100000 in
set_option maxHeartbeats 4000000 in
theorem S_X6_rider_0 {p : Program} {e : Env} {s : State} {m : MethodId} {args : Array Value} {below : List Frame} {meth : Method} {c : Code} {D : va_G} {cy : zY} {b n0 : Nat} {P : zPo} (la : Launch) (X : zX p la e (rm_X6_rider) s m args below meth c 4 D cy b n0 cX6_rider wsX6_rider RX6) (hr : meth.sig.returnType = (some .int)) (h_X6_byRing : zMet la yX6_byRing wsX6_byRing rm_X6_byRing 0 0 sp_X6_byRing) (h_X6_byTwo : zMet la yX6_byTwo wsX6_byTwo rm_X6_byTwo 0 0 sp_X6_byTwo) (h_X6_isAboard : zMet la yX6_isAboard wsX6_isAboard rm_X6_isAboard 0 0 sp_X6_isAboard) (h_X6_isRider : zMet la yX6_isRider wsX6_isRider rm_X6_isRider 0 0 sp_X6_isRider) (h_X6_whom : zMet la yX6_whom wsX6_whom rm_X6_whom 0 0 sp_X6_whom) : zS p la e (rm_X6_rider) s m args below meth c (MQ below (zQ D b (n0 + 0) P) args s 0 0 (fun q => b ≤ q)) 4 D b n0 0 (B_X6_rider_0 b n0 cy P (zAt p la e (rm_X6_rider) s m args below meth c (MQ below (zQ D b (n0 + 0) P) args s 0 0 (fun q => b ≤ q)) 4 D b n0)) := by
  unfold B_X6_rider_0
  exact (s_aload_n X dX6_rider_0 rfl (s_iload_n X dX6_rider_1 rfl (s_callV X h_X6_isRider dX6_rider_2 rfl gX6_rider_X6_isRider rfl rfl rfl (by decide +kernel) ⟨by decide, by decide⟩ (s_if_ne X dX6_rider_5 (by decide) (s_aload_n X dX6_rider_10 rfl (s_aload_n X dX6_rider_11 rfl (s_get X dX6_rider_12 rfl k_X6_rider_6 (by decide) f_X6_rider_29 (s_iload_n X dX6_rider_15 rfl (s_callV X h_X6_isAboard dX6_rider_16 rfl gX6_rider_X6_isAboard rfl rfl rfl (by decide +kernel) ⟨by decide, by decide⟩ (s_istore_n X dX6_rider_19 rfl (by decide) (s_iload_n X dX6_rider_20 rfl (s_table X dX6_rider_21 (fun x hx => by have q0 := lv_neT (hx (0, _) (List.mem_of_getElem? (i := 0) rfl)) (a := 0) rfl; have q1 := lv_neT (hx (1, _) (List.mem_of_getElem? (i := 1) rfl)) (a := 1) rfl; have q2 := lv_neT (hx (2, _) (List.mem_of_getElem? (i := 2) rfl)) (a := 2) rfl; have q3 := lv_neT (hx (3, _) (List.mem_of_getElem? (i := 3) rfl)) (a := 3) rfl; have q4 := lv_neT (hx (4, _) (List.mem_of_getElem? (i := 4) rfl)) (a := 4) rfl; have q5 := lv_neT (hx (5, _) (List.mem_of_getElem? (i := 5) rfl)) (a := 5) rfl; have q6 := lv_neT (hx (6, _) (List.mem_of_getElem? (i := 6) rfl)) (a := 6) rfl; have q7 := lv_neT (hx (7, _) (List.mem_of_getElem? (i := 7) rfl)) (a := 7) rfl; omega) (by decide) (s_iconst X dX6_rider_176 (by decide) (s_iret X dX6_rider_177 hr)) (List.forall_mem_cons.mpr ⟨⟨47, 68, (show ¬ (0 : Int32).toInt < 0 from by decide), (show ¬ 7 < (0 : Int32).toInt from by decide), rfl, by decide, (s_aload_n X dX6_rider_68 rfl (s_get X dX6_rider_69 rfl k_X6_rider_6 (by decide) f_X6_rider_29 (s_iconst X dX6_rider_72 (by decide) (s_iload_n X dX6_rider_73 rfl (s_iadd X dX6_rider_74 (s_iald X dX6_rider_75 (s_iret X dX6_rider_76 hr)))))))⟩, List.forall_mem_cons.mpr ⟨⟨56, 77, (show ¬ (1 : Int32).toInt < 0 from by decide), (show ¬ 7 < (1 : Int32).toInt from by decide), rfl, by decide, (s_aload_n X dX6_rider_77 rfl (s_get X dX6_rider_78 rfl k_X6_rider_6 (by decide) f_X6_rider_20 (s_iload_n X dX6_rider_81 rfl (s_iald X dX6_rider_82 (s_iret X dX6_rider_83 hr)))))⟩, List.forall_mem_cons.mpr ⟨⟨63, 84, (show ¬ (2 : Int32).toInt < 0 from by decide), (show ¬ 7 < (2 : Int32).toInt from by decide), rfl, by decide, (s_aload_n X dX6_rider_84 rfl (s_get X dX6_rider_85 rfl k_X6_rider_6 (by decide) f_X6_rider_23 (s_iload_n X dX6_rider_88 rfl (s_iald X dX6_rider_89 (s_iret X dX6_rider_90 hr)))))⟩, List.forall_mem_cons.mpr ⟨⟨70, 91, (show ¬ (3 : Int32).toInt < 0 from by decide), (show ¬ 7 < (3 : Int32).toInt from by decide), rfl, by decide, (s_iload_n X dX6_rider_91 rfl (s_if_eq X dX6_rider_92 (by decide) (s_iconst X dX6_rider_99 (by decide) (S_X6_rider_100 la X hr h_X6_byRing h_X6_byTwo h_X6_isAboard h_X6_isRider h_X6_whom)) (s_iconst X dX6_rider_95 (by decide) (s_goto X dX6_rider_96 (by decide) (S_X6_rider_100 la X hr h_X6_byRing h_X6_byTwo h_X6_isAboard h_X6_isRider h_X6_whom)))))⟩, List.forall_mem_cons.mpr ⟨⟨80, 101, (show ¬ (4 : Int32).toInt < 0 from by decide), (show ¬ 7 < (4 : Int32).toInt from by decide), rfl, by decide, (s_aload_n X dX6_rider_101 rfl (s_get X dX6_rider_102 rfl k_X6_rider_6 (by decide) f_X6_rider_29 (s_bipush X dX6_rider_105 (by decide) (s_iload_n X dX6_rider_107 rfl (s_iadd X dX6_rider_108 (s_iald X dX6_rider_109 (s_iret X dX6_rider_110 hr)))))))⟩, List.forall_mem_cons.mpr ⟨⟨90, 111, (show ¬ (5 : Int32).toInt < 0 from by decide), (show ¬ 7 < (5 : Int32).toInt from by decide), rfl, by decide, (s_iload_n X dX6_rider_111 rfl (s_if_eq X dX6_rider_112 (by decide) (s_bipush X dX6_rider_133 (by decide) (S_X6_rider_135 la X hr h_X6_byRing h_X6_byTwo h_X6_isAboard h_X6_isRider h_X6_whom)) (s_aload_n X dX6_rider_115 rfl (s_aload_n X dX6_rider_116 rfl (s_get X dX6_rider_117 rfl k_X6_rider_6 (by decide) f_X6_rider_29 (s_iload_n X dX6_rider_120 rfl (s_aload_n X dX6_rider_121 rfl (s_get X dX6_rider_122 rfl k_X6_rider_6 (by decide) f_X6_rider_23 (s_iload_n X dX6_rider_125 rfl (s_iald X dX6_rider_126 (s_callV X h_X6_whom dX6_rider_127 rfl gX6_rider_X6_whom rfl rfl rfl (by decide +kernel) ⟨by decide, by decide⟩ (s_goto X dX6_rider_130 (by decide) (S_X6_rider_135 la X hr h_X6_byRing h_X6_byTwo h_X6_isAboard h_X6_isRider h_X6_whom)))))))))))))⟩, List.forall_mem_cons.mpr ⟨⟨115, 136, (show ¬ (6 : Int32).toInt < 0 from by decide), (show ¬ 7 < (6 : Int32).toInt from by decide), rfl, by decide, (s_iload_n X dX6_rider_136 rfl (s_if_eq X dX6_rider_137 (by decide) (s_bipush X dX6_rider_158 (by decide) (S_X6_rider_160 la X hr h_X6_byRing h_X6_byTwo h_X6_isAboard h_X6_isRider h_X6_whom)) (s_aload_n X dX6_rider_140 rfl (s_aload_n X dX6_rider_141 rfl (s_get X dX6_rider_142 rfl k_X6_rider_6 (by decide) f_X6_rider_29 (s_iload_n X dX6_rider_145 rfl (s_aload_n X dX6_rider_146 rfl (s_get X dX6_rider_147 rfl k_X6_rider_6 (by decide) f_X6_rider_29 (s_iconst X dX6_rider_150 (by decide) (s_iald X dX6_rider_151 (s_callV X h_X6_byRing dX6_rider_152 rfl gX6_rider_X6_byRing rfl rfl rfl (by decide +kernel) ⟨by decide, by decide⟩ (s_goto X dX6_rider_155 (by decide) (S_X6_rider_160 la X hr h_X6_byRing h_X6_byTwo h_X6_isAboard h_X6_isRider h_X6_whom)))))))))))))⟩, List.forall_mem_cons.mpr ⟨⟨140, 161, (show ¬ (7 : Int32).toInt < 0 from by decide), (show ¬ 7 < (7 : Int32).toInt from by decide), rfl, by decide, (s_iload_n X dX6_rider_161 rfl (s_if_eq X dX6_rider_162 (by decide) (s_bipush X dX6_rider_173 (by decide) (S_X6_rider_175 la X hr h_X6_byRing h_X6_byTwo h_X6_isAboard h_X6_isRider h_X6_whom)) (s_aload_n X dX6_rider_165 rfl (s_iload_n X dX6_rider_166 rfl (s_callV X h_X6_byTwo dX6_rider_167 rfl gX6_rider_X6_byTwo rfl rfl rfl (by decide +kernel) ⟨by decide, by decide⟩ (s_goto X dX6_rider_170 (by decide) (S_X6_rider_175 la X hr h_X6_byRing h_X6_byTwo h_X6_isAboard h_X6_isRider h_X6_whom)))))))⟩, fun _ h => absurd h List.not_mem_nil⟩⟩⟩⟩⟩⟩⟩⟩))))))))) (s_iconst X dX6_rider_8 (by decide) (s_iret X dX6_rider_9 hr))))))
theorem w_X6_rider (la : Launch) (h_X6_byRing : zMet la yX6_byRing wsX6_byRing rm_X6_byRing 0 0 sp_X6_byRing) (h_X6_byTwo : zMet la yX6_byTwo wsX6_byTwo rm_X6_byTwo 0 0 sp_X6_byTwo) (h_X6_isAboard : zMet la yX6_isAboard wsX6_isAboard rm_X6_isAboard 0 0 sp_X6_isAboard) (h_X6_isRider : zMet la yX6_isRider wsX6_isRider rm_X6_isRider 0 0 sp_X6_isRider) (h_X6_whom : zMet la yX6_whom wsX6_whom rm_X6_whom 0 0 sp_X6_whom) (sp : zSp) (vc : zVC_X6_rider sp) : zMet la yX6_rider wsX6_rider (rm_X6_rider) 0 0 sp :=
  z_of (cc := cX6_rider) (maxL := 4) (ret := (some .int)) (by decide +kernel) rfl (fun p e s m args below meth c D cy b n as E P hsp X hr hin => by
    obtain ⟨h1, h2⟩ := vc b cy n as E P (zAt p la e (rm_X6_rider) s m args below meth c (MQ below (zQ D b (n + 0) P) args s 0 0 (fun q => b ≤ q)) 4 D b n) hsp
    exact ⟨h1, S_X6_rider_0 la X hr h_X6_byRing h_X6_byTwo h_X6_isAboard h_X6_isRider h_X6_whom _ _ _ _ _ h2⟩)

theorem m_X6_rider (la : Launch) : zMet la yX6_rider wsX6_rider rm_X6_rider 0 0 sp_X6_rider := w_X6_rider la (m_X6_byRing la) (m_X6_byTwo la) (m_X6_isAboard la) (m_X6_isRider la) (m_X6_whom la) _ vc_X6_rider
def sp_X6_seats : zSp := fun b cy as N E P => ∃ x s : Int32, zPM (op_seats x s) [.int x, .int s] b cy as N E P
abbrev rm_X6_seats : Room := { frames := 3, cells := 0, slots := 0, locals := 83 }
def B_X6_seats_46 (b n0 : Nat) (cy : zY) (P : zPo) (A : Nat → zC) : zC :=
  z_const (-2) (z_iret 0 0 P)
def B_X6_seats_18 (b n0 : Nat) (cy : zY) (P : zPo) (A : Nat → zC) : zC :=
  z_const (-1) (z_iret 0 0 P)
def B_X6_seats_0 (b n0 : Nat) (cy : zY) (P : zPo) (A : Nat → zC) : zC :=
  z_aload 0 (z_iload 1 (z_callV b n0 0 0 cy 6 1 0 0 sp_X6_isRider (z_if (fun x => x = 0) (B_X6_seats_18 b n0 cy P A) (z_iload 2 (z_const (0) (z_const (9) (z_callS b n0 0 0 cy 3 0 0 sp_X6_in (z_if (fun x => x = 0) (B_X6_seats_18 b n0 cy P A) (z_aload 0 (z_get b n0 6 14 (z_const (4) (z_iload 1 (z_bin (fun x y => x + y) (z_ald b n0 (cy 1) (z_istore 3 (z_aload 0 (z_aload 0 (z_get b n0 6 14 (z_iload 1 (z_callV b n0 0 0 cy 6 2 0 0 sp_X6_isAboard (z_if (fun x => x = 0) (B_X6_seats_46 b n0 cy P A) (z_iload 3 (z_iload 2 (z_icmp (fun x y => x = y) (B_X6_seats_46 b n0 cy P A) (z_aload 0 (z_callV b n0 0 0 cy 6 0 0 0 sp_X6_know (z_aload 0 (z_get b n0 6 14 (z_const (4) (z_iload 1 (z_bin (fun x y => x + y) (z_iload 2 (z_ast b n0 (cy 1) (fun x => x) (z_iload 3 (z_iret 0 0 P)))))))))))))))))))))))))))))))))))
def zVC_X6_seats (sp : zSp) : Prop := ∀ (b : Nat) (cy : zY) (n : Nat) (as : List Value) (E : zE) (P : zPo) (A : Nat → zC), sp b cy as n E P → zgood as 4 ∧ B_X6_seats_0 b n cy P A (lv_args 0 as) [] 0 0 E

set_option maxRecDepth 100000 in
set_option maxHeartbeats 4000000 in
theorem vc_X6_seats : zVC_X6_seats sp_X6_seats := by
  intro b cy N as E P A hsp
  obtain ⟨x, s, K, ⟨T, D, C, I, S, tr⟩, rfl, hmd, hok, hK, hN, hP⟩ := hsp
  refine ⟨⟨Nat.le_of_ble_eq_true rfl, zg1 rfl (zg1 rfl (zg1 rfl (zg0)))⟩, ?_⟩
  have N0 : 159 < N := by omega
  have N6 : 166 < N := by omega
  obtain ⟨lt, q, st, so, va, fa, e0⟩ := hmd.o
  replace e0 : E 159 = zM0 b tr (nI T.1) lt q st so va fa (nI S.1) := e0
  have hR := hmd.mr hok hN
  obtain ⟨f, hW, hCa⟩ := hmd.wr
  have hE := hW.2.2.1
  obtain ⟨h8, h9⟩ : (∃ g : Nat → Int32, E 168 = .inl (cy 1, 52, .inl g)) ∧ (∃ g : Nat → Int32, E 169 = .inl (cy 1, 6, .inl g)) := by obtain ⟨_, _, _, _, _, _, _, _, _, a, c, _⟩ := hmd; exact ⟨a, c⟩
  obtain ⟨hn, hlo, _, _, _, ⟨hmk, hs99, hth, hm10, _⟩, _⟩ := id hok
  replace hn : D.1 ≤ 6 := hn
  obtain ⟨v0, v4, v10, v16⟩ := zCm0 hW.2.2.2
  have z9 : ∀ y : Int32, (if ¬ y < 0 ∧ ¬ (9 : Int32) < y then (1 : Int32) else 0) = if zisB 10 y = true then 1 else 0 := fun y => zin_iff (k := 9) (by omega) y
  have k4 : ∀ j : Nat, (4 : Int32) + nI j = nI (4 + j) := fun j => nI_add 4 j
  simp only [op_seats] at hP
  simp -implicitDefEqProofs only [B_X6_seats_0, B_X6_seats_18, B_X6_seats_46, e_cut, e_iload, e_aload, e_istore, e_astore, e_iinc, e_const, e_lconst, e_bin, e_bin0, e_un, e_ladd, e_dupi, e_dupr, e_dup2, e_pop, e_sw, e_sw0, e_sw1, e_get, e_put, e_ald, e_ast, e_aald, e_aast, e_copy, e_new, e_newa, e_anewa, e_min, e_abs, e_oinit, e_callI, e_callV, e_callS, e_iret, e_zret, e_lret, e_vret, e_tl1, e_tl0, e_tl2, e_tl3, z10, Bool.false_eq_true, e_argi, e_argr, e_argn, zld_c, zst_n, zst_c, zpick_n, zpick_c, List.drop_succ_cons, List.drop_zero, List.take_succ_cons, List.take_zero, List.length_cons, List.length_nil, List.reverse_cons, List.reverse_nil, List.nil_append, List.cons_append, List.append_nil, List.getElem?_cons_zero, List.getElem?_cons_succ, List.set_cons_zero, List.set_cons_succ, Nat.add_sub_cancel_left, Nat.sub_self, Nat.add_zero, Nat.zero_add, Nat.le_add_right, Nat.le_refl, true_and, and_true, va_rf, zok, Nat.add_left_cancel_iff, Nat.add_eq_left, Nat.left_eq_add, eq_self, if_true, if_false, not_false_eq_true, not_true_eq_false, false_implies, true_implies, Nat.reduceEqDiff, Nat.reduceAdd, Nat.reduceLT, Nat.reduceLeDiff, reduceIte, zM0, e0, N0]
  refine ⟨_, _, _, x, rfl, hR, ?_⟩
  by_cases q1 : zisB D.1 x = true
  · obtain ⟨r, hr, rfl⟩ := zisB_t q1 hn
    have hr6 : r < 6 := by omega
    have i4 : vp_in (nI (4 + r)) 1719 := vp_in_nI (by omega) (by omega)
    have j4 : (nI (4 + r)).toNatClampNeg = 4 + r := nI_clamp (by omega)
    simp only [q1, true_and, zcl_i (show r < 2 ^ 31 by omega)] at hP
    simp -implicitDefEqProofs only [e_cut, e_iload, e_aload, e_istore, e_astore, e_iinc, e_const, e_lconst, e_bin, e_bin0, e_un, e_ladd, e_dupi, e_dupr, e_dup2, e_pop, e_sw, e_sw0, e_sw1, e_get, e_put, e_ald, e_ast, e_aald, e_aast, e_copy, e_new, e_newa, e_anewa, e_min, e_abs, e_oinit, e_callI, e_callV, e_callS, e_iret, e_zret, e_lret, e_vret, e_tl1, e_tl0, e_tl2, e_tl3, z10, Bool.false_eq_true, e_argi, e_argr, e_argn, zld_c, zst_n, zst_c, zpick_n, zpick_c, List.drop_succ_cons, List.drop_zero, List.take_succ_cons, List.take_zero, List.length_cons, List.length_nil, List.reverse_cons, List.reverse_nil, List.nil_append, List.cons_append, List.append_nil, List.getElem?_cons_zero, List.getElem?_cons_succ, List.set_cons_zero, List.set_cons_succ, Nat.add_sub_cancel_left, Nat.sub_self, Nat.add_zero, Nat.zero_add, Nat.le_add_right, Nat.le_refl, true_and, and_true, va_rf, zok, Nat.add_left_cancel_iff, Nat.add_eq_left, Nat.left_eq_add, eq_self, if_true, if_false, not_false_eq_true, not_true_eq_false, false_implies, true_implies, Nat.reduceEqDiff, Nat.reduceAdd, Nat.reduceLT, Nat.reduceLeDiff, reduceIte, e_iff (c1 := fun x => x = 0) (x := 1) (by decide), zM0, e0, N0, q1]
    refine ⟨s, 0, 9, rfl, ?_⟩
    rw [z9]
    by_cases q2 : zisB 10 s = true
    · obtain ⟨sv, hs, rfl⟩ := zisB_u q2 (by omega)
      have hseat := hmk.2.2.2.2.1 r hr
      rw [if_pos q2] at hP
      simp only [zcl_i (show sv < 2 ^ 31 by omega)] at hP
      have kk : (nI (C.1 (4 + r)) = nI sv) = (C.1 (4 + r) = sv) := propext (nI_eq (by omega) (by omega))
      simp -implicitDefEqProofs only [e_cut, e_iload, e_aload, e_istore, e_astore, e_iinc, e_const, e_lconst, e_bin, e_bin0, e_un, e_ladd, e_dupi, e_dupr, e_dup2, e_pop, e_sw, e_sw0, e_sw1, e_get, e_put, e_ald, e_ast, e_aald, e_aast, e_copy, e_new, e_newa, e_anewa, e_min, e_abs, e_oinit, e_callI, e_callV, e_callS, e_iret, e_zret, e_lret, e_vret, e_tl1, e_tl0, e_tl2, e_tl3, z10, Bool.false_eq_true, e_argi, e_argr, e_argn, zld_c, zst_n, zst_c, zpick_n, zpick_c, List.drop_succ_cons, List.drop_zero, List.take_succ_cons, List.take_zero, List.length_cons, List.length_nil, List.reverse_cons, List.reverse_nil, List.nil_append, List.cons_append, List.append_nil, List.getElem?_cons_zero, List.getElem?_cons_succ, List.set_cons_zero, List.set_cons_succ, Nat.add_sub_cancel_left, Nat.sub_self, Nat.add_zero, Nat.zero_add, Nat.le_add_right, Nat.le_refl, true_and, and_true, va_rf, zok, Nat.add_left_cancel_iff, Nat.add_eq_left, Nat.left_eq_add, eq_self, if_true, if_false, not_false_eq_true, not_true_eq_false, false_implies, true_implies, Nat.reduceEqDiff, Nat.reduceAdd, Nat.reduceLT, Nat.reduceLeDiff, reduceIte, e_iff (c1 := fun x => x = 0) (x := 1) (by decide), zM0, e0, N0, N6, q2, hE, k4, i4, j4, v4 r hr]
      refine ⟨166, r, D.1, C.1, rfl, hW.ar, N6, hr6, hmk.l64, ?_⟩
      by_cases q3 : (C.1 1).testBit r = true
      · simp -implicitDefEqProofs only [e_cut, e_iload, e_aload, e_istore, e_astore, e_iinc, e_const, e_lconst, e_bin, e_bin0, e_un, e_ladd, e_dupi, e_dupr, e_dup2, e_pop, e_sw, e_sw0, e_sw1, e_get, e_put, e_ald, e_ast, e_aald, e_aast, e_copy, e_new, e_newa, e_anewa, e_min, e_abs, e_oinit, e_callI, e_callV, e_callS, e_iret, e_zret, e_lret, e_vret, e_tl1, e_tl0, e_tl2, e_tl3, z10, Bool.false_eq_true, e_argi, e_argr, e_argn, zld_c, zst_n, zst_c, zpick_n, zpick_c, List.drop_succ_cons, List.drop_zero, List.take_succ_cons, List.take_zero, List.length_cons, List.length_nil, List.reverse_cons, List.reverse_nil, List.nil_append, List.cons_append, List.append_nil, List.getElem?_cons_zero, List.getElem?_cons_succ, List.set_cons_zero, List.set_cons_succ, Nat.add_sub_cancel_left, Nat.sub_self, Nat.add_zero, Nat.zero_add, Nat.le_add_right, Nat.le_refl, true_and, and_true, va_rf, zok, Nat.add_left_cancel_iff, Nat.add_eq_left, Nat.left_eq_add, eq_self, if_true, if_false, not_false_eq_true, not_true_eq_false, false_implies, true_implies, Nat.reduceEqDiff, Nat.reduceAdd, Nat.reduceLT, Nat.reduceLeDiff, reduceIte, e_icmp, e_iff (c1 := fun x => x = 0) (x := 1) (by decide), zM0, e0, N0, q3, kk]
        refine ⟨fun c3 => ?_, fun c3 => ?_⟩
        · rw [if_neg (fun h => h.2 c3)] at hP
          exact hP E hmd (fun _ _ => rfl)
        · rw [if_pos ⟨q3, c3⟩] at hP
          refine ⟨D.1, D.2.1, D.2.2.1, C, f, rfl, hR, hE, hCa, hm10, fun E1 f1 g1 gC gf gk => ?_⟩
          have e01 := (gk 159 (by omega)).trans e0
          simp -implicitDefEqProofs only [e_cut, e_iload, e_aload, e_istore, e_astore, e_iinc, e_const, e_lconst, e_bin, e_bin0, e_un, e_ladd, e_dupi, e_dupr, e_dup2, e_pop, e_sw, e_sw0, e_sw1, e_get, e_put, e_ald, e_ast, e_aald, e_aast, e_copy, e_new, e_newa, e_anewa, e_min, e_abs, e_oinit, e_callI, e_callV, e_callS, e_iret, e_zret, e_lret, e_vret, e_tl1, e_tl0, e_tl2, e_tl3, z10, Bool.false_eq_true, e_argi, e_argr, e_argn, zld_c, zst_n, zst_c, zpick_n, zpick_c, List.drop_succ_cons, List.drop_zero, List.take_succ_cons, List.take_zero, List.length_cons, List.length_nil, List.reverse_cons, List.reverse_nil, List.nil_append, List.cons_append, List.append_nil, List.getElem?_cons_zero, List.getElem?_cons_succ, List.set_cons_zero, List.set_cons_succ, Nat.add_sub_cancel_left, Nat.sub_self, Nat.add_zero, Nat.zero_add, Nat.le_add_right, Nat.le_refl, true_and, and_true, va_rf, zok, Nat.add_left_cancel_iff, Nat.add_eq_left, Nat.left_eq_add, eq_self, if_true, if_false, not_false_eq_true, not_true_eq_false, false_implies, true_implies, Nat.reduceEqDiff, Nat.reduceAdd, Nat.reduceLT, Nat.reduceLeDiff, reduceIte, zM0, e01, g1, N0, N6, k4, i4, j4]
          refine hP _ (hmd.cur hE hn u_eq (gC.put hn (gC.1.upv hn (by omega)) (fun j hj => by simp only [upd]; rw [if_neg (by omega)])) (fun j hj => ?_) (fun j a _ _ => (u_ne a).trans (gk j a)) ?_ ?_) (fun j hj => (u_ne (by omega)).trans (gk j (by omega)))
          · simp only [upd]; rw [if_neg (by omega)]; exact gf j hj
          · rw [u_ne (by omega), gk _ (by omega)]; exact h8
          · rw [u_ne (by omega), gk _ (by omega)]; exact h9
      · simp -implicitDefEqProofs only [e_cut, e_iload, e_aload, e_istore, e_astore, e_iinc, e_const, e_lconst, e_bin, e_bin0, e_un, e_ladd, e_dupi, e_dupr, e_dup2, e_pop, e_sw, e_sw0, e_sw1, e_get, e_put, e_ald, e_ast, e_aald, e_aast, e_copy, e_new, e_newa, e_anewa, e_min, e_abs, e_oinit, e_callI, e_callV, e_callS, e_iret, e_zret, e_lret, e_vret, e_tl1, e_tl0, e_tl2, e_tl3, z10, Bool.false_eq_true, e_argi, e_argr, e_argn, zld_c, zst_n, zst_c, zpick_n, zpick_c, List.drop_succ_cons, List.drop_zero, List.take_succ_cons, List.take_zero, List.length_cons, List.length_nil, List.reverse_cons, List.reverse_nil, List.nil_append, List.cons_append, List.append_nil, List.getElem?_cons_zero, List.getElem?_cons_succ, List.set_cons_zero, List.set_cons_succ, Nat.add_sub_cancel_left, Nat.sub_self, Nat.add_zero, Nat.zero_add, Nat.le_add_right, Nat.le_refl, true_and, and_true, va_rf, zok, Nat.add_left_cancel_iff, Nat.add_eq_left, Nat.left_eq_add, eq_self, if_true, if_false, not_false_eq_true, not_true_eq_false, false_implies, true_implies, Nat.reduceEqDiff, Nat.reduceAdd, Nat.reduceLT, Nat.reduceLeDiff, reduceIte, e_ift (c1 := fun x => x = 0) (x := 0) rfl, q3]
        rw [if_neg (fun h => q3 h.1)] at hP; exact hP E hmd (fun _ _ => rfl)
    · simp -implicitDefEqProofs only [e_cut, e_iload, e_aload, e_istore, e_astore, e_iinc, e_const, e_lconst, e_bin, e_bin0, e_un, e_ladd, e_dupi, e_dupr, e_dup2, e_pop, e_sw, e_sw0, e_sw1, e_get, e_put, e_ald, e_ast, e_aald, e_aast, e_copy, e_new, e_newa, e_anewa, e_min, e_abs, e_oinit, e_callI, e_callV, e_callS, e_iret, e_zret, e_lret, e_vret, e_tl1, e_tl0, e_tl2, e_tl3, z10, Bool.false_eq_true, e_argi, e_argr, e_argn, zld_c, zst_n, zst_c, zpick_n, zpick_c, List.drop_succ_cons, List.drop_zero, List.take_succ_cons, List.take_zero, List.length_cons, List.length_nil, List.reverse_cons, List.reverse_nil, List.nil_append, List.cons_append, List.append_nil, List.getElem?_cons_zero, List.getElem?_cons_succ, List.set_cons_zero, List.set_cons_succ, Nat.add_sub_cancel_left, Nat.sub_self, Nat.add_zero, Nat.zero_add, Nat.le_add_right, Nat.le_refl, true_and, and_true, va_rf, zok, Nat.add_left_cancel_iff, Nat.add_eq_left, Nat.left_eq_add, eq_self, if_true, if_false, not_false_eq_true, not_true_eq_false, false_implies, true_implies, Nat.reduceEqDiff, Nat.reduceAdd, Nat.reduceLT, Nat.reduceLeDiff, reduceIte, e_ift (c1 := fun x => x = 0) (x := 0) rfl, q2]
      rw [if_neg q2] at hP; exact hP E hmd (fun _ _ => rfl)
  · simp -implicitDefEqProofs only [e_cut, e_iload, e_aload, e_istore, e_astore, e_iinc, e_const, e_lconst, e_bin, e_bin0, e_un, e_ladd, e_dupi, e_dupr, e_dup2, e_pop, e_sw, e_sw0, e_sw1, e_get, e_put, e_ald, e_ast, e_aald, e_aast, e_copy, e_new, e_newa, e_anewa, e_min, e_abs, e_oinit, e_callI, e_callV, e_callS, e_iret, e_zret, e_lret, e_vret, e_tl1, e_tl0, e_tl2, e_tl3, z10, Bool.false_eq_true, e_argi, e_argr, e_argn, zld_c, zst_n, zst_c, zpick_n, zpick_c, List.drop_succ_cons, List.drop_zero, List.take_succ_cons, List.take_zero, List.length_cons, List.length_nil, List.reverse_cons, List.reverse_nil, List.nil_append, List.cons_append, List.append_nil, List.getElem?_cons_zero, List.getElem?_cons_succ, List.set_cons_zero, List.set_cons_succ, Nat.add_sub_cancel_left, Nat.sub_self, Nat.add_zero, Nat.zero_add, Nat.le_add_right, Nat.le_refl, true_and, and_true, va_rf, zok, Nat.add_left_cancel_iff, Nat.add_eq_left, Nat.left_eq_add, eq_self, if_true, if_false, not_false_eq_true, not_true_eq_false, false_implies, true_implies, Nat.reduceEqDiff, Nat.reduceAdd, Nat.reduceLT, Nat.reduceLeDiff, reduceIte, e_ift (c1 := fun x => x = 0) (x := 0) rfl, q1]
    rw [if_neg (fun h => q1 h.1)] at hP; exact hP E hmd (fun _ _ => rfl)
set_option maxRecDepth 20000 in
theorem f_X6_seats_29 : Cond.fieldLink RX6 29 (TX6 14).1 (TX6 14).2.1 (TX6 14).2.2.1 ∈ wsX6_seats := by decide +kernel
set_option maxRecDepth 20000 in
theorem k_X6_seats_6 : ∀ w ∈ u_ws RX6 TX6 21, w ∈ wsX6_seats := fun _ h => List.mem_cons_of_mem _ (List.mem_append_right _ h)
set_option maxRecDepth 100000 in
set_option maxHeartbeats 4000000 in
theorem S_X6_seats_46 {p : Program} {e : Env} {s : State} {m : MethodId} {args : Array Value} {below : List Frame} {meth : Method} {c : Code} {D : va_G} {cy : zY} {b n0 : Nat} {P : zPo} (la : Launch) (X : zX p la e (rm_X6_seats) s m args below meth c 4 D cy b n0 cX6_seats wsX6_seats RX6) (hr : meth.sig.returnType = (some .int)) (h_X6_in : zMet la yX6_in wsX6_in rm_X6_in 0 0 sp_X6_in) (h_X6_isAboard : zMet la yX6_isAboard wsX6_isAboard rm_X6_isAboard 0 0 sp_X6_isAboard) (h_X6_isRider : zMet la yX6_isRider wsX6_isRider rm_X6_isRider 0 0 sp_X6_isRider) (h_X6_know : zMet la yX6_know wsX6_know rm_X6_know 0 0 sp_X6_know) : zS p la e (rm_X6_seats) s m args below meth c (MQ below (zQ D b (n0 + 0) P) args s 0 0 (fun q => b ≤ q)) 4 D b n0 46 (B_X6_seats_46 b n0 cy P (zAt p la e (rm_X6_seats) s m args below meth c (MQ below (zQ D b (n0 + 0) P) args s 0 0 (fun q => b ≤ q)) 4 D b n0)) := by
  unfold B_X6_seats_46
  exact (s_bipush X dX6_seats_46 (by decide) (s_iret X dX6_seats_48 hr))
set_option maxRecDepth 100000 in
set_option maxHeartbeats 4000000 in
theorem S_X6_seats_18 {p : Program} {e : Env} {s : State} {m : MethodId} {args : Array Value} {below : List Frame} {meth : Method} {c : Code} {D : va_G} {cy : zY} {b n0 : Nat} {P : zPo} (la : Launch) (X : zX p la e (rm_X6_seats) s m args below meth c 4 D cy b n0 cX6_seats wsX6_seats RX6) (hr : meth.sig.returnType = (some .int)) (h_X6_in : zMet la yX6_in wsX6_in rm_X6_in 0 0 sp_X6_in) (h_X6_isAboard : zMet la yX6_isAboard wsX6_isAboard rm_X6_isAboard 0 0 sp_X6_isAboard) (h_X6_isRider : zMet la yX6_isRider wsX6_isRider rm_X6_isRider 0 0 sp_X6_isRider) (h_X6_know : zMet la yX6_know wsX6_know rm_X6_know 0 0 sp_X6_know) : zS p la e (rm_X6_seats) s m args below meth c (MQ below (zQ D b (n0 + 0) P) args s 0 0 (fun q => b ≤ q)) 4 D b n0 18 (B_X6_seats_18 b n0 cy P (zAt p la e (rm_X6_seats) s m args below meth c (MQ below (zQ D b (n0 + 0) P) args s 0 0 (fun q => b ≤ q)) 4 D b n0)) := by
  unfold B_X6_seats_18
  exact (s_iconst X dX6_seats_18 (by decide) (s_iret X dX6_seats_19 hr))
set_option maxRecDepth 100000 in
set_option maxHeartbeats 4000000 in
theorem S_X6_seats_0 {p : Program} {e : Env} {s : State} {m : MethodId} {args : Array Value} {below : List Frame} {meth : Method} {c : Code} {D : va_G} {cy : zY} {b n0 : Nat} {P : zPo} (la : Launch) (X : zX p la e (rm_X6_seats) s m args below meth c 4 D cy b n0 cX6_seats wsX6_seats RX6) (hr : meth.sig.returnType = (some .int)) (h_X6_in : zMet la yX6_in wsX6_in rm_X6_in 0 0 sp_X6_in) (h_X6_isAboard : zMet la yX6_isAboard wsX6_isAboard rm_X6_isAboard 0 0 sp_X6_isAboard) (h_X6_isRider : zMet la yX6_isRider wsX6_isRider rm_X6_isRider 0 0 sp_X6_isRider) (h_X6_know : zMet la yX6_know wsX6_know rm_X6_know 0 0 sp_X6_know) : zS p la e (rm_X6_seats) s m args below meth c (MQ below (zQ D b (n0 + 0) P) args s 0 0 (fun q => b ≤ q)) 4 D b n0 0 (B_X6_seats_0 b n0 cy P (zAt p la e (rm_X6_seats) s m args below meth c (MQ below (zQ D b (n0 + 0) P) args s 0 0 (fun q => b ≤ q)) 4 D b n0)) := by
  unfold B_X6_seats_0
  exact (s_aload_n X dX6_seats_0 rfl (s_iload_n X dX6_seats_1 rfl (s_callV X h_X6_isRider dX6_seats_2 rfl gX6_seats_X6_isRider rfl rfl rfl (by decide +kernel) ⟨by decide, by decide⟩ (s_if_eq X dX6_seats_5 (by decide) (S_X6_seats_18 la X hr h_X6_in h_X6_isAboard h_X6_isRider h_X6_know) (s_iload_n X dX6_seats_8 rfl (s_iconst X dX6_seats_9 (by decide) (s_bipush X dX6_seats_10 (by decide) (s_callS X h_X6_in dX6_seats_12 gX6_seats_X6_in rfl rfl rfl (by decide +kernel) ⟨by decide, by decide⟩ (s_if_ne X dX6_seats_15 (by decide) (s_aload_n X dX6_seats_20 rfl (s_get X dX6_seats_21 rfl k_X6_seats_6 (by decide) f_X6_seats_29 (s_iconst X dX6_seats_24 (by decide) (s_iload_n X dX6_seats_25 rfl (s_iadd X dX6_seats_26 (s_iald X dX6_seats_27 (s_istore_n X dX6_seats_28 rfl (by decide) (s_aload_n X dX6_seats_29 rfl (s_aload_n X dX6_seats_30 rfl (s_get X dX6_seats_31 rfl k_X6_seats_6 (by decide) f_X6_seats_29 (s_iload_n X dX6_seats_34 rfl (s_callV X h_X6_isAboard dX6_seats_35 rfl gX6_seats_X6_isAboard rfl rfl rfl (by decide +kernel) ⟨by decide, by decide⟩ (s_if_eq X dX6_seats_38 (by decide) (S_X6_seats_46 la X hr h_X6_in h_X6_isAboard h_X6_isRider h_X6_know) (s_iload_n X dX6_seats_41 rfl (s_iload_n X dX6_seats_42 rfl (s_icmp_ne X dX6_seats_43 (by decide) (s_aload_n X dX6_seats_49 rfl (s_callV X h_X6_know dX6_seats_50 rfl gX6_seats_X6_know rfl rfl rfl (by decide +kernel) ⟨by decide, by decide⟩ (s_aload_n X dX6_seats_53 rfl (s_get X dX6_seats_54 rfl k_X6_seats_6 (by decide) f_X6_seats_29 (s_iconst X dX6_seats_57 (by decide) (s_iload_n X dX6_seats_58 rfl (s_iadd X dX6_seats_59 (s_iload_n X dX6_seats_60 rfl (s_iast X dX6_seats_61 (s_iload_n X dX6_seats_62 rfl (s_iret X dX6_seats_63 hr))))))))))) (S_X6_seats_46 la X hr h_X6_in h_X6_isAboard h_X6_isRider h_X6_know))))))))))))))))) (S_X6_seats_18 la X hr h_X6_in h_X6_isAboard h_X6_isRider h_X6_know))))))))))
theorem w_X6_seats (la : Launch) (h_X6_in : zMet la yX6_in wsX6_in rm_X6_in 0 0 sp_X6_in) (h_X6_isAboard : zMet la yX6_isAboard wsX6_isAboard rm_X6_isAboard 0 0 sp_X6_isAboard) (h_X6_isRider : zMet la yX6_isRider wsX6_isRider rm_X6_isRider 0 0 sp_X6_isRider) (h_X6_know : zMet la yX6_know wsX6_know rm_X6_know 0 0 sp_X6_know) (sp : zSp) (vc : zVC_X6_seats sp) : zMet la yX6_seats wsX6_seats (rm_X6_seats) 0 0 sp :=
  z_of (cc := cX6_seats) (maxL := 4) (ret := (some .int)) (by decide +kernel) rfl (fun p e s m args below meth c D cy b n as E P hsp X hr hin => by
    obtain ⟨h1, h2⟩ := vc b cy n as E P (zAt p la e (rm_X6_seats) s m args below meth c (MQ below (zQ D b (n + 0) P) args s 0 0 (fun q => b ≤ q)) 4 D b n) hsp
    exact ⟨h1, S_X6_seats_0 la X hr h_X6_in h_X6_isAboard h_X6_isRider h_X6_know _ _ _ _ _ h2⟩)

theorem m_X6_seats (la : Launch) : zMet la yX6_seats wsX6_seats rm_X6_seats 0 0 sp_X6_seats := w_X6_seats la (m_X6_in la) (m_X6_isAboard la) (m_X6_isRider la) (m_X6_know la) _ vc_X6_seats
def sp_X6_boards : zSp := fun b cy as N E P => ∃ x : Int32, zPM (op_boards x) [.int x] b cy as N E P
abbrev rm_X6_boards : Room := { frames := 3, cells := 0, slots := 0, locals := 83 }
def B_X6_boards_0 (b n0 : Nat) (cy : zY) (P : zPo) (A : Nat → zC) : zC :=
  z_aload 0 (z_iload 1 (z_callV b n0 0 0 cy 6 1 0 0 sp_X6_isRider (z_if (fun x => x = 0) (z_const (-1) (z_iret 0 0 P)) (z_aload 0 (z_aload 0 (z_get b n0 6 14 (z_iload 1 (z_callV b n0 0 0 cy 6 2 0 0 sp_X6_isAboard (z_if (fun x => x = 0) (z_aload 0 (z_callV b n0 0 0 cy 6 0 0 0 sp_X6_know (z_aload 0 (z_get b n0 6 14 (z_const (1) (z_dup2 (z_ald b n0 (cy 1) (z_const (1) (z_iload 1 (z_bin (fun x y => x <<< (y &&& 31)) (z_bin (fun x y => x ||| y) (z_ast b n0 (cy 1) (fun x => x) (z_aload 0 (z_get b n0 6 14 (z_const (10) (z_iload 1 (z_bin (fun x y => x + y) (z_const (-9) (z_ast b n0 (cy 1) (fun x => x) (z_aload 0 (z_get b n0 6 14 (z_const (1) (z_ald b n0 (cy 1) (z_callS b n0 0 0 cy 1 0 0 sp_X6_manyOf (z_iret 0 0 P))))))))))))))))))))))))) (z_const (-2) (z_iret 0 0 P)))))))))))
def zVC_X6_boards (sp : zSp) : Prop := ∀ (b : Nat) (cy : zY) (n : Nat) (as : List Value) (E : zE) (P : zPo) (A : Nat → zC), sp b cy as n E P → zgood as 2 ∧ B_X6_boards_0 b n cy P A (lv_args 0 as) [] 0 0 E

set_option maxRecDepth 100000 in
set_option maxHeartbeats 4000000 in
theorem vc_X6_boards : zVC_X6_boards sp_X6_boards := by
  intro b cy N as E P A hsp
  obtain ⟨x, K, ⟨T, D, C, I, S, tr⟩, rfl, hmd, hok, hK, hN, hP⟩ := hsp
  refine ⟨⟨Nat.le_of_ble_eq_true rfl, zg1 rfl (zg1 rfl (zg0))⟩, ?_⟩
  have N0 : 159 < N := by omega
  have N6 : 166 < N := by omega
  obtain ⟨lt, q, st, so, va, fa, e0⟩ := hmd.o
  replace e0 : E 159 = zM0 b tr (nI T.1) lt q st so va fa (nI S.1) := e0
  have hR := hmd.mr hok hN
  obtain ⟨f, hW, hCa⟩ := hmd.wr
  have hE := hW.2.2.1
  obtain ⟨h8, h9⟩ : (∃ g : Nat → Int32, E 168 = .inl (cy 1, 52, .inl g)) ∧ (∃ g : Nat → Int32, E 169 = .inl (cy 1, 6, .inl g)) := by obtain ⟨_, _, _, _, _, _, _, _, _, a, c, _⟩ := hmd; exact ⟨a, c⟩
  obtain ⟨hn, hlo, _, _, _, ⟨hmk, hs99, hth, hm10, _⟩, _⟩ := id hok
  replace hn : D.1 ≤ 6 := hn
  obtain ⟨v0, v4, v10, v16⟩ := zCm0 hW.2.2.2
  have k10 : ∀ j : Nat, (10 : Int32) + nI j = nI (10 + j) := fun j => nI_add 10 j
  have in1 : vp_in 1 1719 := (vp_in_nI (show 1 < 1719 by omega) (by omega) : vp_in (nI 1) 1719)
  have cl1 : (1 : Int32).toNatClampNeg = 1 := by decide
  simp only [op_boards] at hP
  simp -implicitDefEqProofs only [B_X6_boards_0, e_cut, e_iload, e_aload, e_istore, e_astore, e_iinc, e_const, e_lconst, e_bin, e_bin0, e_un, e_ladd, e_dupi, e_dupr, e_dup2, e_pop, e_sw, e_sw0, e_sw1, e_get, e_put, e_ald, e_ast, e_aald, e_aast, e_copy, e_new, e_newa, e_anewa, e_min, e_abs, e_oinit, e_callI, e_callV, e_callS, e_iret, e_zret, e_lret, e_vret, e_tl1, e_tl0, e_tl2, e_tl3, z10, Bool.false_eq_true, e_argi, e_argr, e_argn, zld_c, zst_n, zst_c, zpick_n, zpick_c, List.drop_succ_cons, List.drop_zero, List.take_succ_cons, List.take_zero, List.length_cons, List.length_nil, List.reverse_cons, List.reverse_nil, List.nil_append, List.cons_append, List.append_nil, List.getElem?_cons_zero, List.getElem?_cons_succ, List.set_cons_zero, List.set_cons_succ, Nat.add_sub_cancel_left, Nat.sub_self, Nat.add_zero, Nat.zero_add, Nat.le_add_right, Nat.le_refl, true_and, and_true, va_rf, zok, Nat.add_left_cancel_iff, Nat.add_eq_left, Nat.left_eq_add, eq_self, if_true, if_false, not_false_eq_true, not_true_eq_false, false_implies, true_implies, Nat.reduceEqDiff, Nat.reduceAdd, Nat.reduceLT, Nat.reduceLeDiff, reduceIte, zM0, e0, N0]
  refine ⟨_, _, _, x, rfl, hR, ?_⟩
  by_cases q1 : zisB D.1 x = true
  · obtain ⟨r, hr, rfl⟩ := zisB_t q1 hn
    have hr6 : r < 6 := by omega
    have i10 : vp_in (nI (10 + r)) 1719 := vp_in_nI (by omega) (by omega)
    have j10 : (nI (10 + r)).toNatClampNeg = 10 + r := nI_clamp (by omega)
    simp only [q1, if_true, zcl_i (show r < 2 ^ 31 by omega)] at hP
    simp -implicitDefEqProofs only [e_cut, e_iload, e_aload, e_istore, e_astore, e_iinc, e_const, e_lconst, e_bin, e_bin0, e_un, e_ladd, e_dupi, e_dupr, e_dup2, e_pop, e_sw, e_sw0, e_sw1, e_get, e_put, e_ald, e_ast, e_aald, e_aast, e_copy, e_new, e_newa, e_anewa, e_min, e_abs, e_oinit, e_callI, e_callV, e_callS, e_iret, e_zret, e_lret, e_vret, e_tl1, e_tl0, e_tl2, e_tl3, z10, Bool.false_eq_true, e_argi, e_argr, e_argn, zld_c, zst_n, zst_c, zpick_n, zpick_c, List.drop_succ_cons, List.drop_zero, List.take_succ_cons, List.take_zero, List.length_cons, List.length_nil, List.reverse_cons, List.reverse_nil, List.nil_append, List.cons_append, List.append_nil, List.getElem?_cons_zero, List.getElem?_cons_succ, List.set_cons_zero, List.set_cons_succ, Nat.add_sub_cancel_left, Nat.sub_self, Nat.add_zero, Nat.zero_add, Nat.le_add_right, Nat.le_refl, true_and, and_true, va_rf, zok, Nat.add_left_cancel_iff, Nat.add_eq_left, Nat.left_eq_add, eq_self, if_true, if_false, not_false_eq_true, not_true_eq_false, false_implies, true_implies, Nat.reduceEqDiff, Nat.reduceAdd, Nat.reduceLT, Nat.reduceLeDiff, reduceIte, e_iff (c1 := fun x => x = 0) (x := 1) (by decide), zM0, e0, N0, q1]
    refine ⟨166, r, D.1, C.1, rfl, hW.ar, N6, hr6, hmk.l64, ?_⟩
    by_cases q2 : (C.1 1).testBit r = true
    · rw [if_pos q2] at hP
      simp -implicitDefEqProofs only [e_cut, e_iload, e_aload, e_istore, e_astore, e_iinc, e_const, e_lconst, e_bin, e_bin0, e_un, e_ladd, e_dupi, e_dupr, e_dup2, e_pop, e_sw, e_sw0, e_sw1, e_get, e_put, e_ald, e_ast, e_aald, e_aast, e_copy, e_new, e_newa, e_anewa, e_min, e_abs, e_oinit, e_callI, e_callV, e_callS, e_iret, e_zret, e_lret, e_vret, e_tl1, e_tl0, e_tl2, e_tl3, z10, Bool.false_eq_true, e_argi, e_argr, e_argn, zld_c, zst_n, zst_c, zpick_n, zpick_c, List.drop_succ_cons, List.drop_zero, List.take_succ_cons, List.take_zero, List.length_cons, List.length_nil, List.reverse_cons, List.reverse_nil, List.nil_append, List.cons_append, List.append_nil, List.getElem?_cons_zero, List.getElem?_cons_succ, List.set_cons_zero, List.set_cons_succ, Nat.add_sub_cancel_left, Nat.sub_self, Nat.add_zero, Nat.zero_add, Nat.le_add_right, Nat.le_refl, true_and, and_true, va_rf, zok, Nat.add_left_cancel_iff, Nat.add_eq_left, Nat.left_eq_add, eq_self, if_true, if_false, not_false_eq_true, not_true_eq_false, false_implies, true_implies, Nat.reduceEqDiff, Nat.reduceAdd, Nat.reduceLT, Nat.reduceLeDiff, reduceIte, e_iff (c1 := fun x => x = 0) (x := 1) (by decide), q2]
      exact hP E hmd (fun _ _ => rfl)
    · rw [if_neg q2] at hP
      simp -implicitDefEqProofs only [e_cut, e_iload, e_aload, e_istore, e_astore, e_iinc, e_const, e_lconst, e_bin, e_bin0, e_un, e_ladd, e_dupi, e_dupr, e_dup2, e_pop, e_sw, e_sw0, e_sw1, e_get, e_put, e_ald, e_ast, e_aald, e_aast, e_copy, e_new, e_newa, e_anewa, e_min, e_abs, e_oinit, e_callI, e_callV, e_callS, e_iret, e_zret, e_lret, e_vret, e_tl1, e_tl0, e_tl2, e_tl3, z10, Bool.false_eq_true, e_argi, e_argr, e_argn, zld_c, zst_n, zst_c, zpick_n, zpick_c, List.drop_succ_cons, List.drop_zero, List.take_succ_cons, List.take_zero, List.length_cons, List.length_nil, List.reverse_cons, List.reverse_nil, List.nil_append, List.cons_append, List.append_nil, List.getElem?_cons_zero, List.getElem?_cons_succ, List.set_cons_zero, List.set_cons_succ, Nat.add_sub_cancel_left, Nat.sub_self, Nat.add_zero, Nat.zero_add, Nat.le_add_right, Nat.le_refl, true_and, and_true, va_rf, zok, Nat.add_left_cancel_iff, Nat.add_eq_left, Nat.left_eq_add, eq_self, if_true, if_false, not_false_eq_true, not_true_eq_false, false_implies, true_implies, Nat.reduceEqDiff, Nat.reduceAdd, Nat.reduceLT, Nat.reduceLeDiff, reduceIte, e_ift (c1 := fun x => x = 0) (x := 0) rfl, q2, zM0, e0, N0]
      refine ⟨D.1, D.2.1, D.2.2.1, C, f, rfl, hR, hE, hCa, hm10, fun E1 f1 g1 gC gf gk => ?_⟩
      have e01 := (gk 159 (by omega)).trans e0
      have w1 : f1 1 = nI (C.1 1) := (zCm0 gC.1).1 1 (by omega)
      have hl := hmk.l64
      simp -implicitDefEqProofs only [e_cut, e_iload, e_aload, e_istore, e_astore, e_iinc, e_const, e_lconst, e_bin, e_bin0, e_un, e_ladd, e_dupi, e_dupr, e_dup2, e_pop, e_sw, e_sw0, e_sw1, e_get, e_put, e_ald, e_ast, e_aald, e_aast, e_copy, e_new, e_newa, e_anewa, e_min, e_abs, e_oinit, e_callI, e_callV, e_callS, e_iret, e_zret, e_lret, e_vret, e_tl1, e_tl0, e_tl2, e_tl3, z10, Bool.false_eq_true, e_argi, e_argr, e_argn, zld_c, zst_n, zst_c, zpick_n, zpick_c, List.drop_succ_cons, List.drop_zero, List.take_succ_cons, List.take_zero, List.length_cons, List.length_nil, List.reverse_cons, List.reverse_nil, List.nil_append, List.cons_append, List.append_nil, List.getElem?_cons_zero, List.getElem?_cons_succ, List.set_cons_zero, List.set_cons_succ, Nat.add_sub_cancel_left, Nat.sub_self, Nat.add_zero, Nat.zero_add, Nat.le_add_right, Nat.le_refl, true_and, and_true, va_rf, zok, Nat.add_left_cancel_iff, Nat.add_eq_left, Nat.left_eq_add, eq_self, if_true, if_false, not_false_eq_true, not_true_eq_false, false_implies, true_implies, Nat.reduceEqDiff, Nat.reduceAdd, Nat.reduceLT, Nat.reduceLeDiff, reduceIte, zM0, e01, g1, N0, N6, k10, i10, j10, in1, cl1, w1, zset_i hl hr6, e_up]
      have w2 : upd (upd f1 1 (nI (zset (C.1 1) r))) (10 + r) (-9) 1 = nI (zset (C.1 1) r) := by
        simp only [upd]; rw [if_neg (by omega)]; simp
      rw [w2]
      refine ⟨zset (C.1 1) r, rfl, zset_lt hl hr6, ?_⟩
      simp -implicitDefEqProofs only [e_cut, e_iload, e_aload, e_istore, e_astore, e_iinc, e_const, e_lconst, e_bin, e_bin0, e_un, e_ladd, e_dupi, e_dupr, e_dup2, e_pop, e_sw, e_sw0, e_sw1, e_get, e_put, e_ald, e_ast, e_aald, e_aast, e_copy, e_new, e_newa, e_anewa, e_min, e_abs, e_oinit, e_callI, e_callV, e_callS, e_iret, e_zret, e_lret, e_vret, e_tl1, e_tl0, e_tl2, e_tl3, z10, Bool.false_eq_true, e_argi, e_argr, e_argn, zld_c, zst_n, zst_c, zpick_n, zpick_c, List.drop_succ_cons, List.drop_zero, List.take_succ_cons, List.take_zero, List.length_cons, List.length_nil, List.reverse_cons, List.reverse_nil, List.nil_append, List.cons_append, List.append_nil, List.getElem?_cons_zero, List.getElem?_cons_succ, List.set_cons_zero, List.set_cons_succ, Nat.add_sub_cancel_left, Nat.sub_self, Nat.add_zero, Nat.zero_add, Nat.le_add_right, Nat.le_refl, true_and, and_true, va_rf, zok, Nat.add_left_cancel_iff, Nat.add_eq_left, Nat.left_eq_add, eq_self, if_true, if_false, not_false_eq_true, not_true_eq_false, false_implies, true_implies, Nat.reduceEqDiff, Nat.reduceAdd, Nat.reduceLT, Nat.reduceLeDiff, reduceIte]
      refine hP _ (hmd.cur hE hn (f' := upd (upd f1 1 (nI (zset (C.1 1) r))) (10 + r) (-9)) u_eq (gC.put hn ((gC.1.upv hn (k := 1) (v := zset (C.1 1) r) (by omega)).upd10 (v := 0) hn hr6) (fun j hj => ?_)) (fun j hj => ?_) (fun j a _ _ => ?_) ?_ ?_) (fun j hj => ?_)
      · simp only [upd]; rw [if_neg (by omega), if_neg (by omega)]
      · simp only [upd]; rw [if_neg (by omega), if_neg (by omega)]; exact gf j hj
      · rw [u_ne a, u_ne a]; exact gk j a
      · rw [u_ne (by omega), u_ne (by omega), gk _ (by omega)]; exact h8
      · rw [u_ne (by omega), u_ne (by omega), gk _ (by omega)]; exact h9
      · rw [u_ne (by omega), u_ne (by omega)]; exact gk j (by omega)
  · simp -implicitDefEqProofs only [e_cut, e_iload, e_aload, e_istore, e_astore, e_iinc, e_const, e_lconst, e_bin, e_bin0, e_un, e_ladd, e_dupi, e_dupr, e_dup2, e_pop, e_sw, e_sw0, e_sw1, e_get, e_put, e_ald, e_ast, e_aald, e_aast, e_copy, e_new, e_newa, e_anewa, e_min, e_abs, e_oinit, e_callI, e_callV, e_callS, e_iret, e_zret, e_lret, e_vret, e_tl1, e_tl0, e_tl2, e_tl3, z10, Bool.false_eq_true, e_argi, e_argr, e_argn, zld_c, zst_n, zst_c, zpick_n, zpick_c, List.drop_succ_cons, List.drop_zero, List.take_succ_cons, List.take_zero, List.length_cons, List.length_nil, List.reverse_cons, List.reverse_nil, List.nil_append, List.cons_append, List.append_nil, List.getElem?_cons_zero, List.getElem?_cons_succ, List.set_cons_zero, List.set_cons_succ, Nat.add_sub_cancel_left, Nat.sub_self, Nat.add_zero, Nat.zero_add, Nat.le_add_right, Nat.le_refl, true_and, and_true, va_rf, zok, Nat.add_left_cancel_iff, Nat.add_eq_left, Nat.left_eq_add, eq_self, if_true, if_false, not_false_eq_true, not_true_eq_false, false_implies, true_implies, Nat.reduceEqDiff, Nat.reduceAdd, Nat.reduceLT, Nat.reduceLeDiff, reduceIte, e_ift (c1 := fun x => x = 0) (x := 0) rfl, q1]
    rw [if_neg q1] at hP; exact hP E hmd (fun _ _ => rfl)
set_option maxRecDepth 20000 in
theorem f_X6_boards_29 : Cond.fieldLink RX6 29 (TX6 14).1 (TX6 14).2.1 (TX6 14).2.2.1 ∈ wsX6_boards := by decide +kernel
set_option maxRecDepth 20000 in
theorem k_X6_boards_6 : ∀ w ∈ u_ws RX6 TX6 21, w ∈ wsX6_boards := fun _ h => List.mem_cons_of_mem _ (List.mem_append_right _ h)
set_option maxRecDepth 100000 in
set_option maxHeartbeats 4000000 in
theorem S_X6_boards_0 {p : Program} {e : Env} {s : State} {m : MethodId} {args : Array Value} {below : List Frame} {meth : Method} {c : Code} {D : va_G} {cy : zY} {b n0 : Nat} {P : zPo} (la : Launch) (X : zX p la e (rm_X6_boards) s m args below meth c 2 D cy b n0 cX6_boards wsX6_boards RX6) (hr : meth.sig.returnType = (some .int)) (h_X6_isAboard : zMet la yX6_isAboard wsX6_isAboard rm_X6_isAboard 0 0 sp_X6_isAboard) (h_X6_isRider : zMet la yX6_isRider wsX6_isRider rm_X6_isRider 0 0 sp_X6_isRider) (h_X6_know : zMet la yX6_know wsX6_know rm_X6_know 0 0 sp_X6_know) (h_X6_manyOf : zMet la yX6_manyOf wsX6_manyOf rm_X6_manyOf 0 0 sp_X6_manyOf) : zS p la e (rm_X6_boards) s m args below meth c (MQ below (zQ D b (n0 + 0) P) args s 0 0 (fun q => b ≤ q)) 2 D b n0 0 (B_X6_boards_0 b n0 cy P (zAt p la e (rm_X6_boards) s m args below meth c (MQ below (zQ D b (n0 + 0) P) args s 0 0 (fun q => b ≤ q)) 2 D b n0)) := by
  unfold B_X6_boards_0
  exact (s_aload_n X dX6_boards_0 rfl (s_iload_n X dX6_boards_1 rfl (s_callV X h_X6_isRider dX6_boards_2 rfl gX6_boards_X6_isRider rfl rfl rfl (by decide +kernel) ⟨by decide, by decide⟩ (s_if_ne X dX6_boards_5 (by decide) (s_aload_n X dX6_boards_10 rfl (s_aload_n X dX6_boards_11 rfl (s_get X dX6_boards_12 rfl k_X6_boards_6 (by decide) f_X6_boards_29 (s_iload_n X dX6_boards_15 rfl (s_callV X h_X6_isAboard dX6_boards_16 rfl gX6_boards_X6_isAboard rfl rfl rfl (by decide +kernel) ⟨by decide, by decide⟩ (s_if_eq X dX6_boards_19 (by decide) (s_aload_n X dX6_boards_25 rfl (s_callV X h_X6_know dX6_boards_26 rfl gX6_boards_X6_know rfl rfl rfl (by decide +kernel) ⟨by decide, by decide⟩ (s_aload_n X dX6_boards_29 rfl (s_get X dX6_boards_30 rfl k_X6_boards_6 (by decide) f_X6_boards_29 (s_iconst X dX6_boards_33 (by decide) (s_dup2 X dX6_boards_34 (s_iald X dX6_boards_35 (s_iconst X dX6_boards_36 (by decide) (s_iload_n X dX6_boards_37 rfl (s_ishl X dX6_boards_38 (s_ior X dX6_boards_39 (s_iast X dX6_boards_40 (s_aload_n X dX6_boards_41 rfl (s_get X dX6_boards_42 rfl k_X6_boards_6 (by decide) f_X6_boards_29 (s_bipush X dX6_boards_45 (by decide) (s_iload_n X dX6_boards_47 rfl (s_iadd X dX6_boards_48 (s_bipush X dX6_boards_49 (by decide) (s_iast X dX6_boards_51 (s_aload_n X dX6_boards_52 rfl (s_get X dX6_boards_53 rfl k_X6_boards_6 (by decide) f_X6_boards_29 (s_iconst X dX6_boards_56 (by decide) (s_iald X dX6_boards_57 (s_callS X h_X6_manyOf dX6_boards_58 gX6_boards_X6_manyOf rfl rfl rfl (by decide +kernel) ⟨by decide, by decide⟩ (s_iret X dX6_boards_61 hr))))))))))))))))))))))))) (s_bipush X dX6_boards_22 (by decide) (s_iret X dX6_boards_24 hr)))))))) (s_iconst X dX6_boards_8 (by decide) (s_iret X dX6_boards_9 hr))))))
theorem w_X6_boards (la : Launch) (h_X6_isAboard : zMet la yX6_isAboard wsX6_isAboard rm_X6_isAboard 0 0 sp_X6_isAboard) (h_X6_isRider : zMet la yX6_isRider wsX6_isRider rm_X6_isRider 0 0 sp_X6_isRider) (h_X6_know : zMet la yX6_know wsX6_know rm_X6_know 0 0 sp_X6_know) (h_X6_manyOf : zMet la yX6_manyOf wsX6_manyOf rm_X6_manyOf 0 0 sp_X6_manyOf) (sp : zSp) (vc : zVC_X6_boards sp) : zMet la yX6_boards wsX6_boards (rm_X6_boards) 0 0 sp :=
  z_of (cc := cX6_boards) (maxL := 2) (ret := (some .int)) (by decide +kernel) rfl (fun p e s m args below meth c D cy b n as E P hsp X hr hin => by
    obtain ⟨h1, h2⟩ := vc b cy n as E P (zAt p la e (rm_X6_boards) s m args below meth c (MQ below (zQ D b (n + 0) P) args s 0 0 (fun q => b ≤ q)) 2 D b n) hsp
    exact ⟨h1, S_X6_boards_0 la X hr h_X6_isAboard h_X6_isRider h_X6_know h_X6_manyOf _ _ _ _ _ h2⟩)

theorem m_X6_boards (la : Launch) : zMet la yX6_boards wsX6_boards rm_X6_boards 0 0 sp_X6_boards := w_X6_boards la (m_X6_isAboard la) (m_X6_isRider la) (m_X6_know la) (m_X6_manyOf la) _ vc_X6_boards
def sp_X6_undo : zSp := fun b cy as N E P => zPM op_undo [] b cy as N E P
abbrev rm_X6_undo : Room := { frames := 1, cells := 0, slots := 0, locals := 40 }
def B_X6_undo_26 (b n0 : Nat) (cy : zY) (P : zPo) (A : Nat → zC) : zC :=
  z_iload 1 (z_const (52) (z_icmp (fun x y => y ≤ x) (z_aload 0 (z_get b n0 6 14 (z_const (52) (z_ald b n0 (cy 1) (z_iret 0 0 P))))) (z_aload 0 (z_get b n0 6 14 (z_iload 1 (z_aload 0 (z_get b n0 6 14 (z_const (53) (z_const (52) (z_aload 0 (z_get b n0 6 14 (z_const (52) (z_ald b n0 (cy 1) (z_bin (fun x y => x * y) (z_bin (fun x y => x + y) (z_iload 1 (z_bin (fun x y => x + y) (z_ald b n0 (cy 1) (z_ast b n0 (cy 1) (fun x => x) (z_iinc 1 (1) (z_cut [0, 1] (A 26))))))))))))))))))))))
def B_X6_undo_0 (b n0 : Nat) (cy : zY) (P : zPo) (A : Nat → zC) : zC :=
  z_aload 0 (z_get b n0 6 14 (z_const (52) (z_ald b n0 (cy 1) (z_if (fun x => x = 0) (z_const (-2) (z_iret 0 0 P)) (z_aload 0 (z_get b n0 6 14 (z_const (52) (z_dup2 (z_ald b n0 (cy 1) (z_const (1) (z_bin (fun x y => x - y) (z_ast b n0 (cy 1) (fun x => x) (z_const (0) (z_istore 1 (z_cut [0, 1] (A 26))))))))))))))))
def zVC_X6_undo (sp : zSp) : Prop := ∀ (b : Nat) (cy : zY) (n : Nat) (as : List Value) (E : zE) (P : zPo) (A : Nat → zC), (∀ l st k u E, B_X6_undo_26 b n cy P A l st k u E → A 26 l st k u E) → sp b cy as n E P → zgood as 2 ∧ B_X6_undo_0 b n cy P A (lv_args 0 as) [] 0 0 E

set_option maxRecDepth 100000 in
set_option maxHeartbeats 4000000 in
theorem vc_X6_undo : zVC_X6_undo sp_X6_undo := by
  intro b cy N as E P A hA hsp
  obtain ⟨K, ⟨T, D, C, I, S, tr⟩, rfl, hmd, hok, hK, hN, hP⟩ := hsp
  refine ⟨⟨Nat.le_of_ble_eq_true rfl, zg1 rfl (zg0)⟩, ?_⟩
  have N0 : 159 < N := by omega
  have N6 : 166 < N := by omega
  obtain ⟨lt, q, st, so, va, fa, e0⟩ := hmd.o
  replace e0 : E 159 = zM0 b tr (nI T.1) lt q st so va fa (nI S.1) := e0
  have hR := hmd.mr hok hN
  obtain ⟨f, hW, hCa⟩ := hmd.wr
  have hE := hW.2.2.1
  obtain ⟨h8, h9⟩ : (∃ g : Nat → Int32, E 168 = .inl (cy 1, 52, .inl g)) ∧ (∃ g : Nat → Int32, E 169 = .inl (cy 1, 6, .inl g)) := by obtain ⟨_, _, _, _, _, _, _, _, _, a, c, _⟩ := hmd; exact ⟨a, c⟩
  obtain ⟨hn, hlo, _, _, _, ⟨hmk, hs99, hth, hm10, _⟩, _⟩ := id hok
  replace hn : D.1 ≤ 6 := hn
  obtain ⟨v0, v4, v10, v16⟩ := zCm0 hW.2.2.2
  have inn : ∀ k, k < 1719 → vp_in (nI k) 1719 := fun k hk => vp_in_nI hk (by omega)
  have cln : ∀ k, k < 1719 → (nI k).toNatClampNeg = k := fun k hk => nI_clamp (by omega)
  have k52 : (52 : Int32) = nI 52 := rfl
  have k53 : (53 : Int32) = nI 53 := rfl
  have v52 : f 52 = nI C.2.1 := by have := hCa.2.1; rwa [Nat.zero_add] at this
  have hm10' : C.2.1 ≤ 10 := hm10
  simp only [op_undo] at hP
  by_cases hm : C.2.1 = 0
  · rw [if_pos hm] at hP
    rw [hm] at v52
    simp -implicitDefEqProofs only [B_X6_undo_0, e_cut, e_iload, e_aload, e_istore, e_astore, e_iinc, e_const, e_lconst, e_bin, e_bin0, e_un, e_ladd, e_dupi, e_dupr, e_dup2, e_pop, e_sw, e_sw0, e_sw1, e_get, e_put, e_ald, e_ast, e_aald, e_aast, e_copy, e_new, e_newa, e_anewa, e_min, e_abs, e_oinit, e_callI, e_callV, e_callS, e_iret, e_zret, e_lret, e_vret, e_tl1, e_tl0, e_tl2, e_tl3, z10, Bool.false_eq_true, e_argi, e_argr, e_argn, zld_c, zst_n, zst_c, zpick_n, zpick_c, List.drop_succ_cons, List.drop_zero, List.take_succ_cons, List.take_zero, List.length_cons, List.length_nil, List.reverse_cons, List.reverse_nil, List.nil_append, List.cons_append, List.append_nil, List.getElem?_cons_zero, List.getElem?_cons_succ, List.set_cons_zero, List.set_cons_succ, Nat.add_sub_cancel_left, Nat.sub_self, Nat.add_zero, Nat.zero_add, Nat.le_add_right, Nat.le_refl, true_and, and_true, va_rf, zok, Nat.add_left_cancel_iff, Nat.add_eq_left, Nat.left_eq_add, eq_self, if_true, if_false, not_false_eq_true, not_true_eq_false, false_implies, true_implies, Nat.reduceEqDiff, Nat.reduceAdd, Nat.reduceLT, Nat.reduceLeDiff, reduceIte, zM0, e0, hE, N0, N6, k52, inn 52 (by omega), cln 52 (by omega), v52, e_ift (c1 := fun x => x = 0) (x := nI 0) rfl]
    exact hP E hmd (fun _ _ => rfl)
  · rw [if_neg hm] at hP
    obtain ⟨m, hm2⟩ : ∃ m, C.2.1 = m + 1 := ⟨C.2.1 - 1, by omega⟩
    have hm3 : C.2.1 - 1 = m := by omega
    rw [hm3] at hP
    rw [hm2] at v52
    have s1 : nI (m + 1) - 1 = nI m := nI_pred m
    have nz : ¬ nI (m + 1) = 0 := nI_ne0 (by omega) (by omega)
    have loop : ∀ (d k : Nat) (g : Nat → Int32) (E1 : zE), d + k = 52 → (∀ j, j < k → g j = f (53 + 52 * m + j)) → (∀ j, k ≤ j → g j = upd f 52 (nI m) j) → E1 166 = .inl (cy 1, 1719, .inl g) → (∀ j, j ≠ 166 → E1 j = E j) → A 26 [(0, .ref (b + 159)), (1, .int (nI k))] [] 0 0 E1 := by
      intro d
      induction d with
      | zero =>
        intro k g E1 hd h1 h2 h6 hk
        obtain rfl : k = 52 := by omega
        apply hA
        have cle : nI 52 ≤ nI 52 := by decide
        have f0 := (hk 159 (by omega)).trans e0
        have w52 : g 52 = nI m := (h2 52 (by omega)).trans (by simp [upd])
        simp -implicitDefEqProofs only [B_X6_undo_26, e_cut, e_iload, e_aload, e_istore, e_astore, e_iinc, e_const, e_lconst, e_bin, e_bin0, e_un, e_ladd, e_dupi, e_dupr, e_dup2, e_pop, e_sw, e_sw0, e_sw1, e_get, e_put, e_ald, e_ast, e_aald, e_aast, e_copy, e_new, e_newa, e_anewa, e_min, e_abs, e_oinit, e_callI, e_callV, e_callS, e_iret, e_zret, e_lret, e_vret, e_tl1, e_tl0, e_tl2, e_tl3, z10, Bool.false_eq_true, e_argi, e_argr, e_argn, zld_c, zst_n, zst_c, zpick_n, zpick_c, List.drop_succ_cons, List.drop_zero, List.take_succ_cons, List.take_zero, List.length_cons, List.length_nil, List.reverse_cons, List.reverse_nil, List.nil_append, List.cons_append, List.append_nil, List.getElem?_cons_zero, List.getElem?_cons_succ, List.set_cons_zero, List.set_cons_succ, Nat.add_sub_cancel_left, Nat.sub_self, Nat.add_zero, Nat.zero_add, Nat.le_add_right, Nat.le_refl, true_and, and_true, va_rf, zok, Nat.add_left_cancel_iff, Nat.add_eq_left, Nat.left_eq_add, eq_self, if_true, if_false, not_false_eq_true, not_true_eq_false, false_implies, true_implies, Nat.reduceEqDiff, Nat.reduceAdd, Nat.reduceLT, Nat.reduceLeDiff, reduceIte, e_icmpt (c2 := fun x y => y ≤ x) cle, zM0, f0, h6, N0, N6, k52, inn 52 (by omega), cln 52 (by omega), w52]
        have hh : ∀ j, 53 ≤ j → g j = f j := fun j hj => (h2 j (by omega)).trans (by simp only [upd]; rw [if_neg (by omega)])
        refine hP E1 (hmd.cur hE hn h6 ⟨?_, ?_, fun t ht => ?_⟩ (fun j hj => hh j (by omega)) (fun j a _ _ => hk j a) (by rw [hk _ (by omega)]; exact h8) (by rw [hk _ (by omega)]; exact h9)) (fun j hj => hk j (by omega))
        · exact (hCa.2.2 m (by omega)).cp hn (fun j hj => by rw [Nat.zero_add, Nat.zero_add]; exact h1 j hj)
        · rw [Nat.zero_add]; exact w52
        · replace ht : t < m := ht
          exact (hCa.2.2 t (by omega)).cp hn (fun j hj => hh _ (by omega))
      | succ d ih =>
        intro k g E1 hd h1 h2 h6 hk
        apply hA
        have cle : ¬ nI 52 ≤ nI k := nI_ge (b := 52) (show k < 52 by omega) (by decide)
        have f0 := (hk 159 (by omega)).trans e0
        have w52 : g 52 = nI m := (h2 52 (by omega)).trans (by simp [upd])
        have hx : nI 53 + nI 52 * nI m + nI k = nI (53 + 52 * m + k) := by rw [pk_mul, nI_add, nI_add]
        simp -implicitDefEqProofs only [B_X6_undo_26, e_cut, e_iload, e_aload, e_istore, e_astore, e_iinc, e_const, e_lconst, e_bin, e_bin0, e_un, e_ladd, e_dupi, e_dupr, e_dup2, e_pop, e_sw, e_sw0, e_sw1, e_get, e_put, e_ald, e_ast, e_aald, e_aast, e_copy, e_new, e_newa, e_anewa, e_min, e_abs, e_oinit, e_callI, e_callV, e_callS, e_iret, e_zret, e_lret, e_vret, e_tl1, e_tl0, e_tl2, e_tl3, z10, Bool.false_eq_true, e_argi, e_argr, e_argn, zld_c, zst_n, zst_c, zpick_n, zpick_c, List.drop_succ_cons, List.drop_zero, List.take_succ_cons, List.take_zero, List.length_cons, List.length_nil, List.reverse_cons, List.reverse_nil, List.nil_append, List.cons_append, List.append_nil, List.getElem?_cons_zero, List.getElem?_cons_succ, List.set_cons_zero, List.set_cons_succ, Nat.add_sub_cancel_left, Nat.sub_self, Nat.add_zero, Nat.zero_add, Nat.le_add_right, Nat.le_refl, true_and, and_true, va_rf, zok, Nat.add_left_cancel_iff, Nat.add_eq_left, Nat.left_eq_add, eq_self, if_true, if_false, not_false_eq_true, not_true_eq_false, false_implies, true_implies, Nat.reduceEqDiff, Nat.reduceAdd, Nat.reduceLT, Nat.reduceLeDiff, reduceIte, e_icmpf (c2 := fun x y => y ≤ x) cle, zM0, f0, h6, N0, N6, k52, k53, inn 52 (by omega), cln 52 (by omega), w52, hx, inn (53 + 52 * m + k) (by omega), cln (53 + 52 * m + k) (by omega), inn k (by omega), cln k (by omega), nI_1]
        refine ih (k + 1) (upd g k (g (53 + 52 * m + k))) _ (by omega) (fun j hj => ?_) (fun j hj => ?_) u_eq (fun j hj => (u_ne hj).trans (hk j hj))
        · simp only [upd]
          by_cases e : j = k
          · rw [if_pos e, h2 _ (by omega), e]; simp only [upd]; rw [if_neg (by omega)]
          · rw [if_neg e]; exact h1 j (by omega)
        · simp only [upd]; rw [if_neg (by omega)]; exact h2 j (by omega)
    simp -implicitDefEqProofs only [B_X6_undo_0, e_cut, e_iload, e_aload, e_istore, e_astore, e_iinc, e_const, e_lconst, e_bin, e_bin0, e_un, e_ladd, e_dupi, e_dupr, e_dup2, e_pop, e_sw, e_sw0, e_sw1, e_get, e_put, e_ald, e_ast, e_aald, e_aast, e_copy, e_new, e_newa, e_anewa, e_min, e_abs, e_oinit, e_callI, e_callV, e_callS, e_iret, e_zret, e_lret, e_vret, e_tl1, e_tl0, e_tl2, e_tl3, z10, Bool.false_eq_true, e_argi, e_argr, e_argn, zld_c, zst_n, zst_c, zpick_n, zpick_c, List.drop_succ_cons, List.drop_zero, List.take_succ_cons, List.take_zero, List.length_cons, List.length_nil, List.reverse_cons, List.reverse_nil, List.nil_append, List.cons_append, List.append_nil, List.getElem?_cons_zero, List.getElem?_cons_succ, List.set_cons_zero, List.set_cons_succ, Nat.add_sub_cancel_left, Nat.sub_self, Nat.add_zero, Nat.zero_add, Nat.le_add_right, Nat.le_refl, true_and, and_true, va_rf, zok, Nat.add_left_cancel_iff, Nat.add_eq_left, Nat.left_eq_add, eq_self, if_true, if_false, not_false_eq_true, not_true_eq_false, false_implies, true_implies, Nat.reduceEqDiff, Nat.reduceAdd, Nat.reduceLT, Nat.reduceLeDiff, reduceIte, zM0, e0, hE, N0, N6, k52, inn 52 (by omega), cln 52 (by omega), v52, e_iff (c1 := fun x => x = 0) (x := nI (m + 1)) nz, s1]
    exact loop 52 0 (upd f 52 (nI m)) _ rfl (fun j hj => absurd hj (Nat.not_lt_zero _)) (fun j _ => rfl) u_eq (fun j hj => u_ne hj)
set_option maxRecDepth 20000 in
theorem f_X6_undo_29 : Cond.fieldLink RX6 29 (TX6 14).1 (TX6 14).2.1 (TX6 14).2.2.1 ∈ wsX6_undo := by decide +kernel
set_option maxRecDepth 20000 in
theorem k_X6_undo_6 : ∀ w ∈ u_ws RX6 TX6 21, w ∈ wsX6_undo := fun _ h => List.mem_cons_of_mem _ (List.mem_append_right _ h)
set_option maxRecDepth 100000 in
set_option maxHeartbeats 4000000 in
theorem S_X6_undo_26 {p : Program} {e : Env} {s : State} {m : MethodId} {args : Array Value} {below : List Frame} {meth : Method} {c : Code} {D : va_G} {cy : zY} {b n0 : Nat} {P : zPo} (la : Launch) (X : zX p la e (rm_X6_undo) s m args below meth c 2 D cy b n0 cX6_undo wsX6_undo RX6) (hr : meth.sig.returnType = (some .int)) : zS p la e (rm_X6_undo) s m args below meth c (MQ below (zQ D b (n0 + 0) P) args s 0 0 (fun q => b ≤ q)) 2 D b n0 26 (B_X6_undo_26 b n0 cy P (zAt p la e (rm_X6_undo) s m args below meth c (MQ below (zQ D b (n0 + 0) P) args s 0 0 (fun q => b ≤ q)) 2 D b n0)) := by
  unfold B_X6_undo_26
  exact (s_iload_n X dX6_undo_26 rfl (s_bipush X dX6_undo_27 (by decide) (s_icmp_ge X dX6_undo_29 (by decide) (s_aload_n X dX6_undo_64 rfl (s_get X dX6_undo_65 rfl k_X6_undo_6 (by decide) f_X6_undo_29 (s_bipush X dX6_undo_68 (by decide) (s_iald X dX6_undo_70 (s_iret X dX6_undo_71 hr))))) (s_aload_n X dX6_undo_32 rfl (s_get X dX6_undo_33 rfl k_X6_undo_6 (by decide) f_X6_undo_29 (s_iload_n X dX6_undo_36 rfl (s_aload_n X dX6_undo_37 rfl (s_get X dX6_undo_38 rfl k_X6_undo_6 (by decide) f_X6_undo_29 (s_bipush X dX6_undo_41 (by decide) (s_bipush X dX6_undo_43 (by decide) (s_aload_n X dX6_undo_45 rfl (s_get X dX6_undo_46 rfl k_X6_undo_6 (by decide) f_X6_undo_29 (s_bipush X dX6_undo_49 (by decide) (s_iald X dX6_undo_51 (s_imul X dX6_undo_52 (s_iadd X dX6_undo_53 (s_iload_n X dX6_undo_54 rfl (s_iadd X dX6_undo_55 (s_iald X dX6_undo_56 (s_iast X dX6_undo_57 (s_iinc X dX6_undo_58 (by decide) (by decide) (s_goto X dX6_undo_61 (by decide) (s_cut (by decide) zS_at)))))))))))))))))))))))
set_option maxRecDepth 100000 in
set_option maxHeartbeats 4000000 in
theorem S_X6_undo_0 {p : Program} {e : Env} {s : State} {m : MethodId} {args : Array Value} {below : List Frame} {meth : Method} {c : Code} {D : va_G} {cy : zY} {b n0 : Nat} {P : zPo} (la : Launch) (X : zX p la e (rm_X6_undo) s m args below meth c 2 D cy b n0 cX6_undo wsX6_undo RX6) (hr : meth.sig.returnType = (some .int)) : zS p la e (rm_X6_undo) s m args below meth c (MQ below (zQ D b (n0 + 0) P) args s 0 0 (fun q => b ≤ q)) 2 D b n0 0 (B_X6_undo_0 b n0 cy P (zAt p la e (rm_X6_undo) s m args below meth c (MQ below (zQ D b (n0 + 0) P) args s 0 0 (fun q => b ≤ q)) 2 D b n0)) := by
  unfold B_X6_undo_0
  exact (s_aload_n X dX6_undo_0 rfl (s_get X dX6_undo_1 rfl k_X6_undo_6 (by decide) f_X6_undo_29 (s_bipush X dX6_undo_4 (by decide) (s_iald X dX6_undo_6 (s_if_ne X dX6_undo_7 (by decide) (s_aload_n X dX6_undo_13 rfl (s_get X dX6_undo_14 rfl k_X6_undo_6 (by decide) f_X6_undo_29 (s_bipush X dX6_undo_17 (by decide) (s_dup2 X dX6_undo_19 (s_iald X dX6_undo_20 (s_iconst X dX6_undo_21 (by decide) (s_isub X dX6_undo_22 (s_iast X dX6_undo_23 (s_iconst X dX6_undo_24 (by decide) (s_istore_n X dX6_undo_25 rfl (by decide) (s_cut (by decide) zS_at))))))))))) (s_bipush X dX6_undo_10 (by decide) (s_iret X dX6_undo_12 hr)))))))
theorem w_X6_undo (la : Launch) (sp : zSp) (vc : zVC_X6_undo sp) : zMet la yX6_undo wsX6_undo (rm_X6_undo) 0 0 sp :=
  z_of (cc := cX6_undo) (maxL := 2) (ret := (some .int)) (by decide +kernel) rfl (fun p e s m args below meth c D cy b n as E P hsp X hr hin => by
    obtain ⟨h1, h2⟩ := vc b cy n as E P (zAt p la e (rm_X6_undo) s m args below meth c (MQ below (zQ D b (n + 0) P) args s 0 0 (fun q => b ≤ q)) 2 D b n) (fun _ _ _ _ _ q => S_X6_undo_26 la X hr _ _ _ _ _ q) hsp
    exact ⟨h1, S_X6_undo_0 la X hr _ _ _ _ _ h2⟩)

theorem m_X6_undo (la : Launch) : zMet la yX6_undo wsX6_undo rm_X6_undo 0 0 sp_X6_undo := w_X6_undo la _ vc_X6_undo
def sp_X6_now : zSp := fun b cy as N E P => ∃ w : Int32, zPM (op_now w) [.int w] b cy as N E P
abbrev rm_X6_now : Room := { frames := 1, cells := 0, slots := 0, locals := 40 }
def B_X6_now_63 (b n0 : Nat) (cy : zY) (P : zPo) (A : Nat → zC) : zC :=
  z_iret 0 0 P
def B_X6_now_36 (b n0 : Nat) (cy : zY) (P : zPo) (A : Nat → zC) : zC :=
  z_aload 0 (z_get b n0 6 14 (z_iload 1 (z_ald b n0 (cy 1) (z_iret 0 0 P))))
def B_X6_now_0 (b n0 : Nat) (cy : zY) (P : zPo) (A : Nat → zC) : zC :=
  z_iload 1 (z_switch [(0, (B_X6_now_36 b n0 cy P A)), (1, (B_X6_now_36 b n0 cy P A)), (2, (B_X6_now_36 b n0 cy P A)), (3, (B_X6_now_36 b n0 cy P A)), (4, (z_aload 0 (z_get b n0 6 14 (z_const (0) (z_ald b n0 (cy 1) (z_aload 0 (z_get b n0 6 7 (z_const (0) (z_ald b n0 (cy 1) (z_icmp (fun x y => x < y) (z_const (0) (B_X6_now_63 b n0 cy P A)) (z_const (1) (B_X6_now_63 b n0 cy P A))))))))))))] (z_const (-1) (z_iret 0 0 P)))
def zVC_X6_now (sp : zSp) : Prop := ∀ (b : Nat) (cy : zY) (n : Nat) (as : List Value) (E : zE) (P : zPo) (A : Nat → zC), sp b cy as n E P → zgood as 2 ∧ B_X6_now_0 b n cy P A (lv_args 0 as) [] 0 0 E

set_option maxRecDepth 100000 in
set_option maxHeartbeats 4000000 in
theorem vc_X6_now : zVC_X6_now sp_X6_now := by
  intro b cy N as E P A hsp
  obtain ⟨w, K, ⟨T, D, C, I, S, tr⟩, rfl, hmd, hok, hK, hN, hP⟩ := hsp
  refine ⟨⟨Nat.le_of_ble_eq_true rfl, zg1 rfl (zg1 rfl (zg0))⟩, ?_⟩
  have N0 : 159 < N := by omega
  have N6 : 166 < N := by omega
  obtain ⟨lt, q, st, so, va, fa, e0⟩ := hmd.o
  replace e0 : E 159 = zM0 b tr (nI T.1) lt q st so va fa (nI S.1) := e0
  have hR := hmd.mr hok hN
  obtain ⟨f, hW, hCa⟩ := hmd.wr
  have hE := hW.2.2.1
  obtain ⟨h8, h9⟩ : (∃ g : Nat → Int32, E 168 = .inl (cy 1, 52, .inl g)) ∧ (∃ g : Nat → Int32, E 169 = .inl (cy 1, 6, .inl g)) := by obtain ⟨_, _, _, _, _, _, _, _, _, a, c, _⟩ := hmd; exact ⟨a, c⟩
  obtain ⟨hn, hlo, _, _, _, ⟨hmk, hs99, hth, hm10, _⟩, _⟩ := id hok
  replace hn : D.1 ≤ 6 := hn
  obtain ⟨v0, v4, v10, v16⟩ := zCm0 hW.2.2.2
  have N5 : 165 < N := by omega
  have hC0 := hok.2.2.2.2.2.1.2.1
  have hL := hok.2.2.1
  replace hP := hP E hmd (fun _ _ => rfl)
  obtain ⟨_, _, _, _, _, _, ⟨sf, s1, s2⟩, _⟩ := id hmd
  simp only [op_now] at hP
  have inn : ∀ k, k < 1719 → vp_in (nI k) 1719 := fun k hk => vp_in_nI hk (by omega)
  have hin : vp_in 0 2 := (vp_in_nI (show 0 < 2 by omega) (by omega) : vp_in (nI 0) 2)
  have in0 : vp_in 0 1719 := inn 0 (by omega)
  have hcl : (0 : Int32).toNatClampNeg = 0 := by decide
  have lt : (nI (C.1 0) < nI D.2.2.2) = (C.1 0 < D.2.2.2) := propext (nI_ltI (by omega) (by omega))
  have hv : ∀ (k : Nat), k < 4 → nI k = w → (P (some (.int (nI (C.1 k)))) E) → (vp_in w 1719 ∧ P (some (.int (f w.toNatClampNeg))) E) := fun k hk h h2 => by
    subst h
    refine ⟨inn k (by omega), ?_⟩
    rw [show (nI k).toNatClampNeg = k from nI_clamp (by omega), v0 k hk]; exact h2
  simp -implicitDefEqProofs only [B_X6_now_0, B_X6_now_36, B_X6_now_63, e_cut, e_iload, e_aload, e_istore, e_astore, e_iinc, e_const, e_lconst, e_bin, e_bin0, e_un, e_ladd, e_dupi, e_dupr, e_dup2, e_pop, e_if, e_icmp, e_sw, e_sw0, e_sw1, e_get, e_put, e_ald, e_ast, e_aald, e_aast, e_copy, e_new, e_newa, e_anewa, e_min, e_abs, e_oinit, e_callI, e_callV, e_callS, e_iret, e_zret, e_lret, e_vret, e_tl1, e_tl0, e_tl2, e_tl3, z10, Bool.false_eq_true, e_argi, e_argr, e_argn, zld_c, zst_n, zst_c, zpick_n, zpick_c, List.drop_succ_cons, List.drop_zero, List.take_succ_cons, List.take_zero, List.length_cons, List.length_nil, List.reverse_cons, List.reverse_nil, List.nil_append, List.cons_append, List.append_nil, List.getElem?_cons_zero, List.getElem?_cons_succ, List.set_cons_zero, List.set_cons_succ, Nat.add_sub_cancel_left, Nat.sub_self, Nat.add_zero, Nat.zero_add, Nat.le_add_right, Nat.le_refl, true_and, and_true, va_rf, zok, Nat.add_left_cancel_iff, Nat.add_eq_left, Nat.left_eq_add, eq_self, if_true, if_false, not_false_eq_true, not_true_eq_false, false_implies, true_implies, Nat.reduceEqDiff, Nat.reduceAdd, Nat.reduceLT, Nat.reduceLeDiff, reduceIte, zM0, e0, hE, N0, N5, N6, s1, s2, hin, in0, hcl, v0 0 (by omega), lt]
  refine ⟨fun c0 => ?_, fun c0 => ⟨fun c1 => ?_, fun c1 => ⟨fun c2 => ?_, fun c2 => ⟨fun c3 => ?_, fun c3 => ⟨fun c4 => ⟨fun c5 => ?_, fun c5 => ?_⟩, fun c4 => ?_⟩⟩⟩⟩⟩
  · rw [if_pos c0] at hP; exact hv 0 (by omega) c0.symm hP
  · rw [if_neg c0, if_pos c1] at hP; exact hv 1 (by omega) c1.symm hP
  · rw [if_neg c0, if_neg c1, if_pos c2] at hP; exact hv 2 (by omega) c2.symm hP
  · rw [if_neg c0, if_neg c1, if_neg c2, if_pos c3] at hP; exact hv 3 (by omega) c3.symm hP
  · rw [if_neg c0, if_neg c1, if_neg c2, if_neg c3, if_pos c4, if_neg (by omega)] at hP; exact hP
  · rw [if_neg c0, if_neg c1, if_neg c2, if_neg c3, if_pos c4, if_pos (by omega)] at hP; exact hP
  · rw [if_neg c0, if_neg c1, if_neg c2, if_neg c3, if_neg c4] at hP; exact hP
set_option maxRecDepth 20000 in
theorem f_X6_now_29 : Cond.fieldLink RX6 29 (TX6 14).1 (TX6 14).2.1 (TX6 14).2.2.1 ∈ wsX6_now := by decide +kernel
set_option maxRecDepth 20000 in
theorem k_X6_now_6 : ∀ w ∈ u_ws RX6 TX6 21, w ∈ wsX6_now := fun _ h => List.mem_cons_of_mem _ (List.mem_append_right _ h)
set_option maxRecDepth 20000 in
theorem f_X6_now_26 : Cond.fieldLink RX6 26 (TX6 7).1 (TX6 7).2.1 (TX6 7).2.2.1 ∈ wsX6_now := by decide +kernel
set_option maxRecDepth 100000 in
set_option maxHeartbeats 4000000 in
theorem S_X6_now_63 {p : Program} {e : Env} {s : State} {m : MethodId} {args : Array Value} {below : List Frame} {meth : Method} {c : Code} {D : va_G} {cy : zY} {b n0 : Nat} {P : zPo} (la : Launch) (X : zX p la e (rm_X6_now) s m args below meth c 2 D cy b n0 cX6_now wsX6_now RX6) (hr : meth.sig.returnType = (some .int)) : zS p la e (rm_X6_now) s m args below meth c (MQ below (zQ D b (n0 + 0) P) args s 0 0 (fun q => b ≤ q)) 2 D b n0 63 (B_X6_now_63 b n0 cy P (zAt p la e (rm_X6_now) s m args below meth c (MQ below (zQ D b (n0 + 0) P) args s 0 0 (fun q => b ≤ q)) 2 D b n0)) := by
  unfold B_X6_now_63
  exact (s_iret X dX6_now_63 hr)
set_option maxRecDepth 100000 in
set_option maxHeartbeats 4000000 in
theorem S_X6_now_36 {p : Program} {e : Env} {s : State} {m : MethodId} {args : Array Value} {below : List Frame} {meth : Method} {c : Code} {D : va_G} {cy : zY} {b n0 : Nat} {P : zPo} (la : Launch) (X : zX p la e (rm_X6_now) s m args below meth c 2 D cy b n0 cX6_now wsX6_now RX6) (hr : meth.sig.returnType = (some .int)) : zS p la e (rm_X6_now) s m args below meth c (MQ below (zQ D b (n0 + 0) P) args s 0 0 (fun q => b ≤ q)) 2 D b n0 36 (B_X6_now_36 b n0 cy P (zAt p la e (rm_X6_now) s m args below meth c (MQ below (zQ D b (n0 + 0) P) args s 0 0 (fun q => b ≤ q)) 2 D b n0)) := by
  unfold B_X6_now_36
  exact (s_aload_n X dX6_now_36 rfl (s_get X dX6_now_37 rfl k_X6_now_6 (by decide) f_X6_now_29 (s_iload_n X dX6_now_40 rfl (s_iald X dX6_now_41 (s_iret X dX6_now_42 hr)))))
set_option maxRecDepth 100000 in
set_option maxHeartbeats 4000000 in
theorem S_X6_now_0 {p : Program} {e : Env} {s : State} {m : MethodId} {args : Array Value} {below : List Frame} {meth : Method} {c : Code} {D : va_G} {cy : zY} {b n0 : Nat} {P : zPo} (la : Launch) (X : zX p la e (rm_X6_now) s m args below meth c 2 D cy b n0 cX6_now wsX6_now RX6) (hr : meth.sig.returnType = (some .int)) : zS p la e (rm_X6_now) s m args below meth c (MQ below (zQ D b (n0 + 0) P) args s 0 0 (fun q => b ≤ q)) 2 D b n0 0 (B_X6_now_0 b n0 cy P (zAt p la e (rm_X6_now) s m args below meth c (MQ below (zQ D b (n0 + 0) P) args s 0 0 (fun q => b ≤ q)) 2 D b n0)) := by
  unfold B_X6_now_0
  exact (s_iload_n X dX6_now_0 rfl (s_table X dX6_now_1 (fun x hx => by have q0 := lv_neT (hx (0, _) (List.mem_of_getElem? (i := 0) rfl)) (a := 0) rfl; have q1 := lv_neT (hx (1, _) (List.mem_of_getElem? (i := 1) rfl)) (a := 1) rfl; have q2 := lv_neT (hx (2, _) (List.mem_of_getElem? (i := 2) rfl)) (a := 2) rfl; have q3 := lv_neT (hx (3, _) (List.mem_of_getElem? (i := 3) rfl)) (a := 3) rfl; have q4 := lv_neT (hx (4, _) (List.mem_of_getElem? (i := 4) rfl)) (a := 4) rfl; omega) (by decide) (s_iconst X dX6_now_64 (by decide) (s_iret X dX6_now_65 hr)) (List.forall_mem_cons.mpr ⟨⟨35, 36, (show ¬ (0 : Int32).toInt < 0 from by decide), (show ¬ 4 < (0 : Int32).toInt from by decide), rfl, by decide, (S_X6_now_36 la X hr)⟩, List.forall_mem_cons.mpr ⟨⟨35, 36, (show ¬ (1 : Int32).toInt < 0 from by decide), (show ¬ 4 < (1 : Int32).toInt from by decide), rfl, by decide, (S_X6_now_36 la X hr)⟩, List.forall_mem_cons.mpr ⟨⟨35, 36, (show ¬ (2 : Int32).toInt < 0 from by decide), (show ¬ 4 < (2 : Int32).toInt from by decide), rfl, by decide, (S_X6_now_36 la X hr)⟩, List.forall_mem_cons.mpr ⟨⟨35, 36, (show ¬ (3 : Int32).toInt < 0 from by decide), (show ¬ 4 < (3 : Int32).toInt from by decide), rfl, by decide, (S_X6_now_36 la X hr)⟩, List.forall_mem_cons.mpr ⟨⟨42, 43, (show ¬ (4 : Int32).toInt < 0 from by decide), (show ¬ 4 < (4 : Int32).toInt from by decide), rfl, by decide, (s_aload_n X dX6_now_43 rfl (s_get X dX6_now_44 rfl k_X6_now_6 (by decide) f_X6_now_29 (s_iconst X dX6_now_47 (by decide) (s_iald X dX6_now_48 (s_aload_n X dX6_now_49 rfl (s_get X dX6_now_50 rfl k_X6_now_6 (by decide) f_X6_now_26 (s_iconst X dX6_now_53 (by decide) (s_iald X dX6_now_54 (s_icmp_lt X dX6_now_55 (by decide) (s_iconst X dX6_now_62 (by decide) (S_X6_now_63 la X hr)) (s_iconst X dX6_now_58 (by decide) (s_goto X dX6_now_59 (by decide) (S_X6_now_63 la X hr))))))))))))⟩, fun _ h => absurd h List.not_mem_nil⟩⟩⟩⟩⟩)))
theorem w_X6_now (la : Launch) (sp : zSp) (vc : zVC_X6_now sp) : zMet la yX6_now wsX6_now (rm_X6_now) 0 0 sp :=
  z_of (cc := cX6_now) (maxL := 2) (ret := (some .int)) (by decide +kernel) rfl (fun p e s m args below meth c D cy b n as E P hsp X hr hin => by
    obtain ⟨h1, h2⟩ := vc b cy n as E P (zAt p la e (rm_X6_now) s m args below meth c (MQ below (zQ D b (n + 0) P) args s 0 0 (fun q => b ≤ q)) 2 D b n) hsp
    exact ⟨h1, S_X6_now_0 la X hr _ _ _ _ _ h2⟩)

theorem m_X6_now (la : Launch) : zMet la yX6_now wsX6_now rm_X6_now 0 0 sp_X6_now := w_X6_now la _ vc_X6_now

