def sp_X6_down : zSp := fun b cy as N E P => ∃ (n : Nat) (lo la : Nat → Nat) (C : zCar) (f : Nat → Int32) (o : Option Nat), as = [.ref (b + 159), .int (zrv o)] ∧ zMR b cy N E n lo la ∧ E 166 = .inl (cy 1, 1719, .inl f) ∧ zCa f 0 n C ∧ C.2.1 ≤ 10 ∧ C.1 1 < 64 ∧ (∀ q, o = some q → q < 6) ∧ (∀ E' f', E' 166 = .inl (cy 1, 1719, .inl f') → zCa f' 0 n (zdown C.1 o, zpushN C.2.1, zpushP C.2.1 C.2.2 C.1) → (∀ j, 573 ≤ j → f' j = f j) → (∀ j, j ≠ 166 → E' j = E j) → P (some (.int (zrv o))) E')
abbrev rm_X6_down : Room := { frames := 2, cells := 0, slots := 0, locals := 61 }
def B_X6_down_52 (b n0 : Nat) (cy : zY) (P : zPo) (A : Nat → zC) : zC :=
  z_iload 1 (z_iret 0 0 P)
def B_X6_down_0 (b n0 : Nat) (cy : zY) (P : zPo) (A : Nat → zC) : zC :=
  z_aload 0 (z_callV b n0 0 0 cy 6 0 0 0 sp_X6_know (z_iload 1 (z_const (-9) (z_icmp (fun x y => x = y) (z_aload 0 (z_get b n0 6 14 (z_const (3) (z_dup2 (z_ald b n0 (cy 1) (z_const (1) (z_bin (fun x y => x + y) (z_ast b n0 (cy 1) (fun x => x) (B_X6_down_52 b n0 cy P A))))))))) (z_aload 0 (z_get b n0 6 14 (z_const (1) (z_dup2 (z_ald b n0 (cy 1) (z_const (1) (z_iload 1 (z_bin (fun x y => x <<< (y &&& 31)) (z_const (-1) (z_bin (fun x y => x ^^^ y) (z_bin (fun x y => x &&& y) (z_ast b n0 (cy 1) (fun x => x) (z_aload 0 (z_get b n0 6 14 (z_const (10) (z_iload 1 (z_bin (fun x y => x + y) (z_aload 0 (z_get b n0 6 14 (z_const (0) (z_ald b n0 (cy 1) (z_ast b n0 (cy 1) (fun x => x) (B_X6_down_52 b n0 cy P A)))))))))))))))))))))))))))
def zVC_X6_down (sp : zSp) : Prop := ∀ (b : Nat) (cy : zY) (n : Nat) (as : List Value) (E : zE) (P : zPo) (A : Nat → zC), sp b cy as n E P → zgood as 2 ∧ B_X6_down_0 b n cy P A (lv_args 0 as) [] 0 0 E

set_option maxRecDepth 100000 in
set_option maxHeartbeats 4000000 in
theorem vc_X6_down : zVC_X6_down sp_X6_down := by
  intro b cy N as E P A hsp
  obtain ⟨n, lo, la, C, f, o, rfl, hR, hE, hCa, hm10, h64, ho, hP⟩ := hsp
  refine ⟨⟨Nat.le_of_ble_eq_true rfl, zg1 rfl (zg1 rfl (zg0))⟩, ?_⟩
  obtain ⟨⟨tr, ty, lt, qq, st, so, va, fa, se, e0⟩, _, _, _, hn, _, hN⟩ := id hR
  have N0 : 159 < N := by omega
  have N6 : 166 < N := by omega
  simp -implicitDefEqProofs only [B_X6_down_0, B_X6_down_52, e_cut, e_iload, e_aload, e_istore, e_astore, e_iinc, e_const, e_lconst, e_bin, e_bin0, e_un, e_ladd, e_dupi, e_dupr, e_dup2, e_pop, e_sw, e_sw0, e_sw1, e_get, e_put, e_ald, e_ast, e_aald, e_aast, e_copy, e_new, e_newa, e_anewa, e_min, e_abs, e_oinit, e_callI, e_callV, e_callS, e_iret, e_zret, e_lret, e_vret, e_tl1, e_tl0, e_tl2, e_tl3, z10, Bool.false_eq_true, e_argi, e_argr, e_argn, zld_c, zst_n, zst_c, zpick_n, zpick_c, List.drop_succ_cons, List.drop_zero, List.take_succ_cons, List.take_zero, List.length_cons, List.length_nil, List.reverse_cons, List.reverse_nil, List.nil_append, List.cons_append, List.append_nil, List.getElem?_cons_zero, List.getElem?_cons_succ, List.set_cons_zero, List.set_cons_succ, Nat.add_sub_cancel_left, Nat.sub_self, Nat.add_zero, Nat.zero_add, Nat.le_add_right, Nat.le_refl, true_and, and_true, va_rf, zok, Nat.add_left_cancel_iff, Nat.add_eq_left, Nat.left_eq_add, eq_self, if_true, if_false, not_false_eq_true, not_true_eq_false, false_implies, true_implies, Nat.reduceEqDiff, Nat.reduceAdd, Nat.reduceLT, Nat.reduceLeDiff, reduceIte, zM0, e0, N0]
  refine ⟨n, lo, la, C, f, rfl, hR, hE, hCa, hm10, fun E1 f1 g1 gC gf gk => ?_⟩
  have e01 := (gk 159 (by omega)).trans e0
  obtain ⟨c0, c4, c10, c16⟩ := zCm0 gC.1
  have inn : ∀ k, k < 1719 → vp_in (nI k) 1719 := fun k hk => vp_in_nI hk (by omega)
  have cln : ∀ k, k < 1719 → (nI k).toNatClampNeg = k := fun k hk => nI_clamp (by omega)
  cases o with
  | none =>
    have k3 : (3 : Int32) = nI 3 := rfl
    simp -implicitDefEqProofs only [e_cut, e_iload, e_aload, e_istore, e_astore, e_iinc, e_const, e_lconst, e_bin, e_bin0, e_un, e_ladd, e_dupi, e_dupr, e_dup2, e_pop, e_sw, e_sw0, e_sw1, e_get, e_put, e_ald, e_ast, e_aald, e_aast, e_copy, e_new, e_newa, e_anewa, e_min, e_abs, e_oinit, e_callI, e_callV, e_callS, e_iret, e_zret, e_lret, e_vret, e_tl1, e_tl0, e_tl2, e_tl3, z10, Bool.false_eq_true, e_argi, e_argr, e_argn, zld_c, zst_n, zst_c, zpick_n, zpick_c, List.drop_succ_cons, List.drop_zero, List.take_succ_cons, List.take_zero, List.length_cons, List.length_nil, List.reverse_cons, List.reverse_nil, List.nil_append, List.cons_append, List.append_nil, List.getElem?_cons_zero, List.getElem?_cons_succ, List.set_cons_zero, List.set_cons_succ, Nat.add_sub_cancel_left, Nat.sub_self, Nat.add_zero, Nat.zero_add, Nat.le_add_right, Nat.le_refl, true_and, and_true, va_rf, zok, Nat.add_left_cancel_iff, Nat.add_eq_left, Nat.left_eq_add, eq_self, if_true, if_false, not_false_eq_true, not_true_eq_false, false_implies, true_implies, Nat.reduceEqDiff, Nat.reduceAdd, Nat.reduceLT, Nat.reduceLeDiff, reduceIte, zrv, e_icmpt (c2 := fun x y => x = y) (show (-9 : Int32) = -9 from rfl), zM0, e01, g1, N0, N6, k3, inn 3 (by omega), cln 3 (by omega), c0 3 (by omega), nI_1]
    refine hP _ (upd f1 3 (nI (C.1 3 + 1))) u_eq (gC.put hn ⟨?_, ?_, ?_, ?_⟩ (fun j hj => by simp only [upd]; rw [if_neg (by omega)])) (fun j hj => ?_) (fun j hj => (u_ne hj).trans (gk j hj))
    · intro j hj; simp only [upd, Nat.zero_add, zdown, zup]
      by_cases e : j = 3
      · rw [if_pos e, if_pos e]
      · rw [if_neg e, if_neg e]; exact c0 j hj
    · intro j hj; simp only [upd, Nat.zero_add, zdown, zup]; rw [if_neg (by omega), if_neg (by omega)]; exact c4 j hj
    · intro j hj; simp only [upd, Nat.zero_add, zdown, zup]; rw [if_neg (by omega), if_neg (by omega)]; exact c10 j hj
    · intro j hj; simp only [upd, Nat.zero_add, zdown, zup]; rw [if_neg (by omega), if_neg (by omega)]; exact c16 j hj
    · simp only [upd]; rw [if_neg (by omega)]; exact gf j hj
  | some q =>
    have hq := ho q rfl
    have k10 : (10 : Int32) = nI 10 := rfl
    have in0 : vp_in 0 1719 := (inn 0 (by omega) : vp_in (nI 0) 1719)
    have cl0 : (0 : Int32).toNatClampNeg = 0 := by decide
    have in1 : vp_in 1 1719 := (inn 1 (by omega) : vp_in (nI 1) 1719)
    have cl1 : (1 : Int32).toNatClampNeg = 1 := by decide
    simp -implicitDefEqProofs only [e_cut, e_iload, e_aload, e_istore, e_astore, e_iinc, e_const, e_lconst, e_bin, e_bin0, e_un, e_ladd, e_dupi, e_dupr, e_dup2, e_pop, e_sw, e_sw0, e_sw1, e_get, e_put, e_ald, e_ast, e_aald, e_aast, e_copy, e_new, e_newa, e_anewa, e_min, e_abs, e_oinit, e_callI, e_callV, e_callS, e_iret, e_zret, e_lret, e_vret, e_tl1, e_tl0, e_tl2, e_tl3, z10, Bool.false_eq_true, e_argi, e_argr, e_argn, zld_c, zst_n, zst_c, zpick_n, zpick_c, List.drop_succ_cons, List.drop_zero, List.take_succ_cons, List.take_zero, List.length_cons, List.length_nil, List.reverse_cons, List.reverse_nil, List.nil_append, List.cons_append, List.append_nil, List.getElem?_cons_zero, List.getElem?_cons_succ, List.set_cons_zero, List.set_cons_succ, Nat.add_sub_cancel_left, Nat.sub_self, Nat.add_zero, Nat.zero_add, Nat.le_add_right, Nat.le_refl, true_and, and_true, va_rf, zok, Nat.add_left_cancel_iff, Nat.add_eq_left, Nat.left_eq_add, eq_self, if_true, if_false, not_false_eq_true, not_true_eq_false, false_implies, true_implies, Nat.reduceEqDiff, Nat.reduceAdd, Nat.reduceLT, Nat.reduceLeDiff, reduceIte, zrv, e_icmpf (c2 := fun x y => x = y) (zrv_nn hq), zM0, e01, g1, N0, N6, k10, nI_add, in0, cl0, in1, cl1, inn (10 + q) (by omega), cln (10 + q) (by omega), c0 1 (by omega), zclr_i h64 hq, e_up]
    have v0 : upd f1 1 (nI (zclr (C.1 1) q)) 0 = nI (C.1 0) := by simp only [upd]; rw [if_neg (by omega)]; exact c0 0 (by omega)
    refine hP _ (upd (upd f1 1 (nI (zclr (C.1 1) q))) (10 + q) (upd f1 1 (nI (zclr (C.1 1) q)) 0)) ?_ (gC.put hn ⟨?_, ?_, ?_, ?_⟩ (fun j hj => by simp only [upd]; rw [if_neg (by omega), if_neg (by omega)])) (fun j hj => ?_) (fun j hj => ?_)
    · simp [va_up]
    · intro j hj; simp only [upd, Nat.zero_add, zdown, zup]
      have e1 : ¬ j = 10 + q := by omega
      rw [if_neg e1, if_neg e1]
      by_cases e : j = 1
      · rw [if_pos e, if_pos e]
      · rw [if_neg e, if_neg e]; exact c0 j hj
    · intro j hj; simp only [upd, Nat.zero_add, zdown, zup]
      have e1 : ¬ 4 + j = 10 + q := by omega
      have e2 : ¬ 4 + j = 1 := by omega
      rw [if_neg e1, if_neg e2, if_neg e1, if_neg e2]; exact c4 j hj
    · intro j hj; simp only [upd, Nat.zero_add, zdown, zup]
      by_cases e : j = q
      · have e1 : 10 + j = 10 + q := by omega
        have e2 : ¬ (0 : Nat) = 1 := by omega
        rw [if_pos e1, if_pos e1, if_neg e2]
        exact (c0 0 (by omega)).trans (by simp [zdn])
      · have e1 : ¬ 10 + j = 10 + q := by omega
        have e2 : ¬ 10 + j = 1 := by omega
        rw [if_neg e1, if_neg e2, if_neg e1, if_neg e2]; exact c10 j hj
    · intro j hj; simp only [upd, Nat.zero_add, zdown, zup]
      have e1 : ¬ 16 + j = 10 + q := by omega
      have e2 : ¬ 16 + j = 1 := by omega
      rw [if_neg e1, if_neg e2, if_neg e1, if_neg e2]; exact c16 j hj
    · simp only [upd]; rw [if_neg (by omega), if_neg (by omega)]; exact gf j hj
    · simp only [e_up]; rw [if_neg hj, if_neg hj]; exact gk j hj
set_option maxRecDepth 20000 in
theorem f_X6_down_29 : Cond.fieldLink RX6 29 (TX6 14).1 (TX6 14).2.1 (TX6 14).2.2.1 ∈ wsX6_down := by decide +kernel
set_option maxRecDepth 20000 in
theorem k_X6_down_6 : ∀ w ∈ u_ws RX6 TX6 21, w ∈ wsX6_down := fun _ h => List.mem_cons_of_mem _ (List.mem_append_right _ h)
set_option maxRecDepth 100000 in
set_option maxHeartbeats 4000000 in
theorem S_X6_down_52 {p : Program} {e : Env} {s : State} {m : MethodId} {args : Array Value} {below : List Frame} {meth : Method} {c : Code} {D : va_G} {cy : zY} {b n0 : Nat} {P : zPo} (la : Launch) (X : zX p la e (rm_X6_down) s m args below meth c 2 D cy b n0 cX6_down wsX6_down RX6) (hr : meth.sig.returnType = (some .int)) (h_X6_know : zMet la yX6_know wsX6_know rm_X6_know 0 0 sp_X6_know) : zS p la e (rm_X6_down) s m args below meth c (MQ below (zQ D b (n0 + 0) P) args s 0 0 (fun q => b ≤ q)) 2 D b n0 52 (B_X6_down_52 b n0 cy P (zAt p la e (rm_X6_down) s m args below meth c (MQ below (zQ D b (n0 + 0) P) args s 0 0 (fun q => b ≤ q)) 2 D b n0)) := by
  unfold B_X6_down_52
  exact (s_iload_n X dX6_down_52 rfl (s_iret X dX6_down_53 hr))
set_option maxRecDepth 100000 in
set_option maxHeartbeats 4000000 in
theorem S_X6_down_0 {p : Program} {e : Env} {s : State} {m : MethodId} {args : Array Value} {below : List Frame} {meth : Method} {c : Code} {D : va_G} {cy : zY} {b n0 : Nat} {P : zPo} (la : Launch) (X : zX p la e (rm_X6_down) s m args below meth c 2 D cy b n0 cX6_down wsX6_down RX6) (hr : meth.sig.returnType = (some .int)) (h_X6_know : zMet la yX6_know wsX6_know rm_X6_know 0 0 sp_X6_know) : zS p la e (rm_X6_down) s m args below meth c (MQ below (zQ D b (n0 + 0) P) args s 0 0 (fun q => b ≤ q)) 2 D b n0 0 (B_X6_down_0 b n0 cy P (zAt p la e (rm_X6_down) s m args below meth c (MQ below (zQ D b (n0 + 0) P) args s 0 0 (fun q => b ≤ q)) 2 D b n0)) := by
  unfold B_X6_down_0
  exact (s_aload_n X dX6_down_0 rfl (s_callV X h_X6_know dX6_down_1 rfl gX6_down_X6_know rfl rfl rfl (by decide +kernel) ⟨by decide, by decide⟩ (s_iload_n X dX6_down_4 rfl (s_bipush X dX6_down_5 (by decide) (s_icmp_ne X dX6_down_7 (by decide) (s_aload_n X dX6_down_23 rfl (s_get X dX6_down_24 rfl k_X6_down_6 (by decide) f_X6_down_29 (s_iconst X dX6_down_27 (by decide) (s_dup2 X dX6_down_28 (s_iald X dX6_down_29 (s_iconst X dX6_down_30 (by decide) (s_iload_n X dX6_down_31 rfl (s_ishl X dX6_down_32 (s_iconst X dX6_down_33 (by decide) (s_ixor X dX6_down_34 (s_iand X dX6_down_35 (s_iast X dX6_down_36 (s_aload_n X dX6_down_37 rfl (s_get X dX6_down_38 rfl k_X6_down_6 (by decide) f_X6_down_29 (s_bipush X dX6_down_41 (by decide) (s_iload_n X dX6_down_43 rfl (s_iadd X dX6_down_44 (s_aload_n X dX6_down_45 rfl (s_get X dX6_down_46 rfl k_X6_down_6 (by decide) f_X6_down_29 (s_iconst X dX6_down_49 (by decide) (s_iald X dX6_down_50 (s_iast X dX6_down_51 (S_X6_down_52 la X hr h_X6_know))))))))))))))))))))))) (s_aload_n X dX6_down_10 rfl (s_get X dX6_down_11 rfl k_X6_down_6 (by decide) f_X6_down_29 (s_iconst X dX6_down_14 (by decide) (s_dup2 X dX6_down_15 (s_iald X dX6_down_16 (s_iconst X dX6_down_17 (by decide) (s_iadd X dX6_down_18 (s_iast X dX6_down_19 (s_goto X dX6_down_20 (by decide) (S_X6_down_52 la X hr h_X6_know)))))))))))))))
theorem w_X6_down (la : Launch) (h_X6_know : zMet la yX6_know wsX6_know rm_X6_know 0 0 sp_X6_know) (sp : zSp) (vc : zVC_X6_down sp) : zMet la yX6_down wsX6_down (rm_X6_down) 0 0 sp :=
  z_of (cc := cX6_down) (maxL := 2) (ret := (some .int)) (by decide +kernel) rfl (fun p e s m args below meth c D cy b n as E P hsp X hr hin => by
    obtain ⟨h1, h2⟩ := vc b cy n as E P (zAt p la e (rm_X6_down) s m args below meth c (MQ below (zQ D b (n + 0) P) args s 0 0 (fun q => b ≤ q)) 2 D b n) hsp
    exact ⟨h1, S_X6_down_0 la X hr h_X6_know _ _ _ _ _ h2⟩)

theorem m_X6_down (la : Launch) : zMet la yX6_down wsX6_down rm_X6_down 0 0 sp_X6_down := w_X6_down la (m_X6_know la) _ vc_X6_down

