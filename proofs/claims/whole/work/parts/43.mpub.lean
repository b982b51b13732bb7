def sp_X6_isSet : zSp := fun b cy as N E P => ∃ (n : Nat) (lo la c : Nat → Nat) (x : Int32), as = [.ref (b + 159), .int x] ∧ zMR b cy N E n lo la ∧ zAr cy E 166 n c ∧ c 1 < 2 ^ n ∧ P (some (.int (if zsub (c 1) x = true then 1 else 0))) E
abbrev rm_X6_isSet : Room := { frames := 2, cells := 0, slots := 0, locals := 62 }
def B_X6_isSet_36 (b n0 : Nat) (cy : zY) (P : zPo) (A : Nat → zC) : zC :=
  z_zret 0 0 P
def B_X6_isSet_35 (b n0 : Nat) (cy : zY) (P : zPo) (A : Nat → zC) : zC :=
  z_const (0) (B_X6_isSet_36 b n0 cy P A)
def B_X6_isSet_0 (b n0 : Nat) (cy : zY) (P : zPo) (A : Nat → zC) : zC :=
  z_iload 1 (z_const (0) (z_const (1) (z_aload 0 (z_get b n0 6 3 (z_const (0) (z_ald b n0 (cy 1) (z_bin (fun x y => x <<< (y &&& 31)) (z_const (1) (z_bin (fun x y => x - y) (z_callS b n0 0 0 cy 3 0 0 sp_X6_in (z_if (fun x => x = 0) (B_X6_isSet_35 b n0 cy P A) (z_iload 1 (z_aload 0 (z_get b n0 6 14 (z_const (1) (z_ald b n0 (cy 1) (z_const (-1) (z_bin (fun x y => x ^^^ y) (z_bin (fun x y => x &&& y) (z_if (fun x => x = 0) (z_const (1) (B_X6_isSet_36 b n0 cy P A)) (B_X6_isSet_35 b n0 cy P A)))))))))))))))))))))
def zVC_X6_isSet (sp : zSp) : Prop := ∀ (b : Nat) (cy : zY) (n : Nat) (as : List Value) (E : zE) (P : zPo) (A : Nat → zC), sp b cy as n E P → zgood as 2 ∧ B_X6_isSet_0 b n cy P A (lv_args 0 as) [] 0 0 E

set_option maxRecDepth 100000 in
set_option maxHeartbeats 4000000 in
theorem vc_X6_isSet : zVC_X6_isSet sp_X6_isSet := by
  intro b cy N as E P A hsp
  obtain ⟨n, lo, la, c, x, rfl, hR, ⟨L, g, hL, hL2, hE, hc⟩, h2n, hP⟩ := hsp
  refine ⟨⟨Nat.le_of_ble_eq_true rfl, zg1 rfl (zg1 rfl (zg0))⟩, ?_⟩
  obtain ⟨⟨tr, ty, lt, qq, st, so, va, fa, se, e0⟩, ⟨rf, e1, e1'⟩, _, _, hn, hlo, hN⟩ := id hR
  have N0 : 159 < N := by omega
  have N1 : 161 < N := by omega
  have N6 : 166 < N := by omega
  have hin : vp_in 0 2 := (vp_in_nI (show 0 < 2 by omega) (by omega) : vp_in (nI 0) 2)
  have hcl : (0 : Int32).toNatClampNeg = 0 := by decide
  have in1 : vp_in 1 L := (vp_in_nI (show 1 < L by omega) (by omega) : vp_in (nI 1) L)
  have cl1 : (1 : Int32).toNatClampNeg = 1 := by decide
  have v1 : g 1 = nI (c 1) := (zCm0 hc).1 1 (by omega)
  have hp : 2 ^ n ≤ 2 ^ 6 := Nat.pow_le_pow_right (by omega) hn
  have hp6 : (2 : Nat) ^ 6 = 64 := rfl
  have hp1 : 0 < 2 ^ n := Nat.two_pow_pos n
  simp -implicitDefEqProofs only [B_X6_isSet_0, B_X6_isSet_35, B_X6_isSet_36, e_cut, e_iload, e_aload, e_istore, e_astore, e_iinc, e_const, e_lconst, e_bin, e_bin0, e_un, e_ladd, e_dupi, e_dupr, e_dup2, e_pop, e_sw, e_sw0, e_sw1, e_get, e_put, e_ald, e_ast, e_aald, e_aast, e_copy, e_new, e_newa, e_anewa, e_min, e_abs, e_oinit, e_callI, e_callV, e_callS, e_iret, e_zret, e_lret, e_vret, e_tl1, e_tl0, e_tl2, e_tl3, z10, Bool.false_eq_true, e_argi, e_argr, e_argn, zld_c, zst_n, zst_c, zpick_n, zpick_c, List.drop_succ_cons, List.drop_zero, List.take_succ_cons, List.take_zero, List.length_cons, List.length_nil, List.reverse_cons, List.reverse_nil, List.nil_append, List.cons_append, List.append_nil, List.getElem?_cons_zero, List.getElem?_cons_succ, List.set_cons_zero, List.set_cons_succ, Nat.add_sub_cancel_left, Nat.sub_self, Nat.add_zero, Nat.zero_add, Nat.le_add_right, Nat.le_refl, true_and, and_true, va_rf, zok, Nat.add_left_cancel_iff, Nat.add_eq_left, Nat.left_eq_add, eq_self, if_true, if_false, not_false_eq_true, not_true_eq_false, false_implies, true_implies, Nat.reduceEqDiff, Nat.reduceAdd, Nat.reduceLT, Nat.reduceLeDiff, reduceIte, zM0, e0, e1, e1', N0, N1, hin, hcl, zmask hn]
  refine ⟨x, 0, nI (2 ^ n - 1), rfl, ?_⟩
  rw [zin_iff (k := 2 ^ n - 1) (by omega) x, show 2 ^ n - 1 + 1 = 2 ^ n by omega]
  by_cases q1 : zisB (2 ^ n) x = true
  · rw [if_pos q1]
    by_cases q2 : x &&& (nI (c 1) ^^^ (-1)) = 0
    · simp -implicitDefEqProofs only [e_cut, e_iload, e_aload, e_istore, e_astore, e_iinc, e_const, e_lconst, e_bin, e_bin0, e_un, e_ladd, e_dupi, e_dupr, e_dup2, e_pop, e_sw, e_sw0, e_sw1, e_get, e_put, e_ald, e_ast, e_aald, e_aast, e_copy, e_new, e_newa, e_anewa, e_min, e_abs, e_oinit, e_callI, e_callV, e_callS, e_iret, e_zret, e_lret, e_vret, e_tl1, e_tl0, e_tl2, e_tl3, z10, Bool.false_eq_true, e_argi, e_argr, e_argn, zld_c, zst_n, zst_c, zpick_n, zpick_c, List.drop_succ_cons, List.drop_zero, List.take_succ_cons, List.take_zero, List.length_cons, List.length_nil, List.reverse_cons, List.reverse_nil, List.nil_append, List.cons_append, List.append_nil, List.getElem?_cons_zero, List.getElem?_cons_succ, List.set_cons_zero, List.set_cons_succ, Nat.add_sub_cancel_left, Nat.sub_self, Nat.add_zero, Nat.zero_add, Nat.le_add_right, Nat.le_refl, true_and, and_true, va_rf, zok, Nat.add_left_cancel_iff, Nat.add_eq_left, Nat.left_eq_add, eq_self, if_true, if_false, not_false_eq_true, not_true_eq_false, false_implies, true_implies, Nat.reduceEqDiff, Nat.reduceAdd, Nat.reduceLT, Nat.reduceLeDiff, reduceIte, e_iff (c1 := fun x => x = 0) (x := 1) (by decide), e_ift (c1 := fun x => x = 0) (x := x &&& (nI (c 1) ^^^ (-1))) q2, zM0, e0, N0, N6, hE, in1, cl1, v1]
      rw [if_pos (show zsub (c 1) x = true from decide_eq_true q2)] at hP
      exact ⟨Or.inr trivial, hP⟩
    · simp -implicitDefEqProofs only [e_cut, e_iload, e_aload, e_istore, e_astore, e_iinc, e_const, e_lconst, e_bin, e_bin0, e_un, e_ladd, e_dupi, e_dupr, e_dup2, e_pop, e_sw, e_sw0, e_sw1, e_get, e_put, e_ald, e_ast, e_aald, e_aast, e_copy, e_new, e_newa, e_anewa, e_min, e_abs, e_oinit, e_callI, e_callV, e_callS, e_iret, e_zret, e_lret, e_vret, e_tl1, e_tl0, e_tl2, e_tl3, z10, Bool.false_eq_true, e_argi, e_argr, e_argn, zld_c, zst_n, zst_c, zpick_n, zpick_c, List.drop_succ_cons, List.drop_zero, List.take_succ_cons, List.take_zero, List.length_cons, List.length_nil, List.reverse_cons, List.reverse_nil, List.nil_append, List.cons_append, List.append_nil, List.getElem?_cons_zero, List.getElem?_cons_succ, List.set_cons_zero, List.set_cons_succ, Nat.add_sub_cancel_left, Nat.sub_self, Nat.add_zero, Nat.zero_add, Nat.le_add_right, Nat.le_refl, true_and, and_true, va_rf, zok, Nat.add_left_cancel_iff, Nat.add_eq_left, Nat.left_eq_add, eq_self, if_true, if_false, not_false_eq_true, not_true_eq_false, false_implies, true_implies, Nat.reduceEqDiff, Nat.reduceAdd, Nat.reduceLT, Nat.reduceLeDiff, reduceIte, e_iff (c1 := fun x => x = 0) (x := 1) (by decide), e_iff (c1 := fun x => x = 0) (x := x &&& (nI (c 1) ^^^ (-1))) q2, zM0, e0, N0, N6, hE, in1, cl1, v1]
      rw [if_neg (show ¬ zsub (c 1) x = true from fun h => q2 (of_decide_eq_true h))] at hP
      exact ⟨Or.inl trivial, hP⟩
  · have q3 : ¬ zsub (c 1) x = true := fun h => by
      obtain ⟨S, hS, rfl, hSM⟩ := zsub_t (by omega) h
      have h3 : S &&& c 1 ≤ c 1 := Nat.and_le_right
      rw [hSM] at h3
      exact q1 (zisB_v (by omega) (by omega))
    rw [if_neg q1]
    rw [if_neg q3] at hP
    simp -implicitDefEqProofs only [e_cut, e_iload, e_aload, e_istore, e_astore, e_iinc, e_const, e_lconst, e_bin, e_bin0, e_un, e_ladd, e_dupi, e_dupr, e_dup2, e_pop, e_sw, e_sw0, e_sw1, e_get, e_put, e_ald, e_ast, e_aald, e_aast, e_copy, e_new, e_newa, e_anewa, e_min, e_abs, e_oinit, e_callI, e_callV, e_callS, e_iret, e_zret, e_lret, e_vret, e_tl1, e_tl0, e_tl2, e_tl3, z10, Bool.false_eq_true, e_argi, e_argr, e_argn, zld_c, zst_n, zst_c, zpick_n, zpick_c, List.drop_succ_cons, List.drop_zero, List.take_succ_cons, List.take_zero, List.length_cons, List.length_nil, List.reverse_cons, List.reverse_nil, List.nil_append, List.cons_append, List.append_nil, List.getElem?_cons_zero, List.getElem?_cons_succ, List.set_cons_zero, List.set_cons_succ, Nat.add_sub_cancel_left, Nat.sub_self, Nat.add_zero, Nat.zero_add, Nat.le_add_right, Nat.le_refl, true_and, and_true, va_rf, zok, Nat.add_left_cancel_iff, Nat.add_eq_left, Nat.left_eq_add, eq_self, if_true, if_false, not_false_eq_true, not_true_eq_false, false_implies, true_implies, Nat.reduceEqDiff, Nat.reduceAdd, Nat.reduceLT, Nat.reduceLeDiff, reduceIte, e_ift (c1 := fun x => x = 0) (x := 0) rfl]
    exact ⟨Or.inl trivial, hP⟩
set_option maxRecDepth 20000 in
theorem f_X6_isSet_13 : Cond.fieldLink RX6 13 (TX6 3).1 (TX6 3).2.1 (TX6 3).2.2.1 ∈ wsX6_isSet := by decide +kernel
set_option maxRecDepth 20000 in
theorem k_X6_isSet_6 : ∀ w ∈ u_ws RX6 TX6 21, w ∈ wsX6_isSet := fun _ h => List.mem_cons_of_mem _ (List.mem_append_right _ h)
set_option maxRecDepth 20000 in
theorem f_X6_isSet_29 : Cond.fieldLink RX6 29 (TX6 14).1 (TX6 14).2.1 (TX6 14).2.2.1 ∈ wsX6_isSet := by decide +kernel
set_option maxRecDepth 100000 in
set_option maxHeartbeats 4000000 in
theorem S_X6_isSet_36 {p : Program} {e : Env} {s : State} {m : MethodId} {args : Array Value} {below : List Frame} {meth : Method} {c : Code} {D : va_G} {cy : zY} {b n0 : Nat} {P : zPo} (la : Launch) (X : zX p la e (rm_X6_isSet) s m args below meth c 2 D cy b n0 cX6_isSet wsX6_isSet RX6) (hr : meth.sig.returnType = (some .boolean)) (h_X6_in : zMet la yX6_in wsX6_in rm_X6_in 0 0 sp_X6_in) : zS p la e (rm_X6_isSet) s m args below meth c (MQ below (zQ D b (n0 + 0) P) args s 0 0 (fun q => b ≤ q)) 2 D b n0 36 (B_X6_isSet_36 b n0 cy P (zAt p la e (rm_X6_isSet) s m args below meth c (MQ below (zQ D b (n0 + 0) P) args s 0 0 (fun q => b ≤ q)) 2 D b n0)) := by
  unfold B_X6_isSet_36
  exact (s_zret X dX6_isSet_36 hr)
set_option maxRecDepth 100000 in
set_option maxHeartbeats 4000000 in
theorem S_X6_isSet_35 {p : Program} {e : Env} {s : State} {m : MethodId} {args : Array Value} {below : List Frame} {meth : Method} {c : Code} {D : va_G} {cy : zY} {b n0 : Nat} {P : zPo} (la : Launch) (X : zX p la e (rm_X6_isSet) s m args below meth c 2 D cy b n0 cX6_isSet wsX6_isSet RX6) (hr : meth.sig.returnType = (some .boolean)) (h_X6_in : zMet la yX6_in wsX6_in rm_X6_in 0 0 sp_X6_in) : zS p la e (rm_X6_isSet) s m args below meth c (MQ below (zQ D b (n0 + 0) P) args s 0 0 (fun q => b ≤ q)) 2 D b n0 35 (B_X6_isSet_35 b n0 cy P (zAt p la e (rm_X6_isSet) s m args below meth c (MQ below (zQ D b (n0 + 0) P) args s 0 0 (fun q => b ≤ q)) 2 D b n0)) := by
  unfold B_X6_isSet_35
  exact (s_iconst X dX6_isSet_35 (by decide) (S_X6_isSet_36 la X hr h_X6_in))
set_option maxRecDepth 100000 in
set_option maxHeartbeats 4000000 in
theorem S_X6_isSet_0 {p : Program} {e : Env} {s : State} {m : MethodId} {args : Array Value} {below : List Frame} {meth : Method} {c : Code} {D : va_G} {cy : zY} {b n0 : Nat} {P : zPo} (la : Launch) (X : zX p la e (rm_X6_isSet) s m args below meth c 2 D cy b n0 cX6_isSet wsX6_isSet RX6) (hr : meth.sig.returnType = (some .boolean)) (h_X6_in : zMet la yX6_in wsX6_in rm_X6_in 0 0 sp_X6_in) : zS p la e (rm_X6_isSet) s m args below meth c (MQ below (zQ D b (n0 + 0) P) args s 0 0 (fun q => b ≤ q)) 2 D b n0 0 (B_X6_isSet_0 b n0 cy P (zAt p la e (rm_X6_isSet) s m args below meth c (MQ below (zQ D b (n0 + 0) P) args s 0 0 (fun q => b ≤ q)) 2 D b n0)) := by
  unfold B_X6_isSet_0
  exact (s_iload_n X dX6_isSet_0 rfl (s_iconst X dX6_isSet_1 (by decide) (s_iconst X dX6_isSet_2 (by decide) (s_aload_n X dX6_isSet_3 rfl (s_get X dX6_isSet_4 rfl k_X6_isSet_6 (by decide) f_X6_isSet_13 (s_iconst X dX6_isSet_7 (by decide) (s_iald X dX6_isSet_8 (s_ishl X dX6_isSet_9 (s_iconst X dX6_isSet_10 (by decide) (s_isub X dX6_isSet_11 (s_callS X h_X6_in dX6_isSet_12 gX6_isSet_X6_in rfl rfl rfl (by decide +kernel) ⟨by decide, by decide⟩ (s_if_eq X dX6_isSet_15 (by decide) (S_X6_isSet_35 la X hr h_X6_in) (s_iload_n X dX6_isSet_18 rfl (s_aload_n X dX6_isSet_19 rfl (s_get X dX6_isSet_20 rfl k_X6_isSet_6 (by decide) f_X6_isSet_29 (s_iconst X dX6_isSet_23 (by decide) (s_iald X dX6_isSet_24 (s_iconst X dX6_isSet_25 (by decide) (s_ixor X dX6_isSet_26 (s_iand X dX6_isSet_27 (s_if_ne X dX6_isSet_28 (by decide) (S_X6_isSet_35 la X hr h_X6_in) (s_iconst X dX6_isSet_31 (by decide) (s_goto X dX6_isSet_32 (by decide) (S_X6_isSet_36 la X hr h_X6_in))))))))))))))))))))))))
theorem w_X6_isSet (la : Launch) (h_X6_in : zMet la yX6_in wsX6_in rm_X6_in 0 0 sp_X6_in) (sp : zSp) (vc : zVC_X6_isSet sp) : zMet la yX6_isSet wsX6_isSet (rm_X6_isSet) 0 0 sp :=
  z_of (cc := cX6_isSet) (maxL := 2) (ret := (some .boolean)) (by decide +kernel) rfl (fun p e s m args below meth c D cy b n as E P hsp X hr hin => by
    obtain ⟨h1, h2⟩ := vc b cy n as E P (zAt p la e (rm_X6_isSet) s m args below meth c (MQ below (zQ D b (n + 0) P) args s 0 0 (fun q => b ≤ q)) 2 D b n) hsp
    exact ⟨h1, S_X6_isSet_0 la X hr h_X6_in _ _ _ _ _ h2⟩)

theorem m_X6_isSet (la : Launch) : zMet la yX6_isSet wsX6_isSet rm_X6_isSet 0 0 sp_X6_isSet := w_X6_isSet la (m_X6_in la) _ vc_X6_isSet
def sp_X6_lawsOf : zSp := fun b cy as N E P => ∃ (K : Nat) (T : zT) (D : zD) (C : zCar) (I : zIg) (S : zSe) (tr : Int64) (r : Nat), as = [.ref (b + 159), .int (nI r)] ∧ zMD b cy E (T, D, C, I, S, tr) ∧ zOk K (T, D, C, I, S, tr) ∧ 172 ≤ N ∧ r < D.1 ∧ P (some (.int (nI (zlaws D C S r)))) E
abbrev rm_X6_lawsOf : Room := { frames := 4, cells := 0, slots := 0, locals := 112 }
def B_X6_lawsOf_107 (b n0 : Nat) (cy : zY) (P : zPo) (A : Nat → zC) : zC :=
  z_bin (fun x y => x ||| y) (z_istore 2 (z_iinc 3 (1) (z_cut [0, 1, 2, 3] (A 4))))
def B_X6_lawsOf_86 (b n0 : Nat) (cy : zY) (P : zPo) (A : Nat → zC) : zC :=
  z_istore 5 (z_iinc 6 (1) (z_cut [0, 1, 2, 3, 4, 5, 6] (A 44)))
def B_X6_lawsOf_85 (b n0 : Nat) (cy : zY) (P : zPo) (A : Nat → zC) : zC :=
  z_const (0) (B_X6_lawsOf_86 b n0 cy P A)
def B_X6_lawsOf_81 (b n0 : Nat) (cy : zY) (P : zPo) (A : Nat → zC) : zC :=
  z_const (1) (B_X6_lawsOf_86 b n0 cy P A)
def B_X6_lawsOf_44 (b n0 : Nat) (cy : zY) (P : zPo) (A : Nat → zC) : zC :=
  z_iload 6 (z_aload 0 (z_get b n0 6 20 (z_icmp (fun x y => y ≤ x) (z_iload 2 (z_iload 5 (z_if (fun x => x = 0) (z_const (0) (B_X6_lawsOf_107 b n0 cy P A)) (z_const (1) (z_iload 3 (z_bin (fun x y => x <<< (y &&& 31)) (B_X6_lawsOf_107 b n0 cy P A))))))) (z_iload 5 (z_if (fun x => x = 0) (B_X6_lawsOf_85 b n0 cy P A) (z_aload 0 (z_get b n0 6 18 (z_iload 6 (z_ald b n0 (cy 1) (z_iload 1 (z_icmp (fun x y => x = y) (z_aload 0 (z_get b n0 6 19 (z_iload 6 (z_ald b n0 (cy 1) (z_iload 4 (z_icmp (fun x y => x = y) (B_X6_lawsOf_81 b n0 cy P A) (B_X6_lawsOf_85 b n0 cy P A))))))) (B_X6_lawsOf_81 b n0 cy P A))))))))))))
def B_X6_lawsOf_36 (b n0 : Nat) (cy : zY) (P : zPo) (A : Nat → zC) : zC :=
  z_istore 4 (z_const (1) (z_istore 5 (z_const (0) (z_istore 6 (z_cut [0, 1, 2, 3, 4, 5, 6] (A 44))))))
def B_X6_lawsOf_4 (b n0 : Nat) (cy : zY) (P : zPo) (A : Nat → zC) : zC :=
  z_iload 3 (z_const (2) (z_icmp (fun x y => y < x) (z_iload 2 (z_iret 0 0 P)) (z_aload 0 (z_aload 0 (z_get b n0 6 14 (z_iload 1 (z_callV b n0 0 0 cy 6 2 0 0 sp_X6_isAboard (z_if (fun x => x = 0) (z_const (-9) (B_X6_lawsOf_36 b n0 cy P A)) (z_aload 0 (z_aload 0 (z_get b n0 6 14 (z_iload 1 (z_iload 3 (z_callV b n0 0 0 cy 6 3 0 0 sp_X6_whom (B_X6_lawsOf_36 b n0 cy P A)))))))))))))))
def B_X6_lawsOf_0 (b n0 : Nat) (cy : zY) (P : zPo) (A : Nat → zC) : zC :=
  z_const (0) (z_istore 2 (z_const (0) (z_istore 3 (z_cut [0, 1, 2, 3] (A 4)))))
def zVC_X6_lawsOf (sp : zSp) : Prop := ∀ (b : Nat) (cy : zY) (n : Nat) (as : List Value) (E : zE) (P : zPo) (A : Nat → zC), (∀ l st k u E, B_X6_lawsOf_4 b n cy P A l st k u E → A 4 l st k u E) → (∀ l st k u E, B_X6_lawsOf_44 b n cy P A l st k u E → A 44 l st k u E) → sp b cy as n E P → zgood as 7 ∧ B_X6_lawsOf_0 b n cy P A (lv_args 0 as) [] 0 0 E

set_option maxRecDepth 100000 in
set_option maxHeartbeats 4000000 in
theorem vc_X6_lawsOf : zVC_X6_lawsOf sp_X6_lawsOf := by
  intro b cy N as E P A hA4 hA44 hsp
  obtain ⟨K, T, D, C, I, S, tr, r, rfl, hmd, hok, hN, hr, hP⟩ := hsp
  refine ⟨⟨Nat.le_of_ble_eq_true rfl, zg1 rfl (zg1 rfl (zg0))⟩, ?_⟩
  have N0 : 159 < N := by omega
  have N6 : 166 < N := by omega
  obtain ⟨lt, q, st, so, va, fa, e0⟩ := hmd.o
  replace e0 : E 159 = zM0 b tr (nI T.1) lt q st so va fa (nI S.1) := e0
  have hR := hmd.mr hok hN
  obtain ⟨f, hW, hCa⟩ := hmd.wr
  have hE := hW.2.2.1
  obtain ⟨h8, h9⟩ : (∃ g : Nat → Int32, E 168 = .inl (cy 1, 52, .inl g)) ∧ (∃ g : Nat → Int32, E 169 = .inl (cy 1, 6, .inl g)) := by obtain ⟨_, _, _, _, _, _, _, _, _, a, c, _⟩ := hmd; exact ⟨a, c⟩
  obtain ⟨hn, hlo, _, _, _, ⟨hmk, hs99, hth, hm10, _⟩, _⟩ := id hok
  replace hn : D.1 ≤ 6 := hn
  obtain ⟨v0, v4, v10, v16⟩ := zCm0 hW.2.2.2
  have N10 : 170 < N := by omega
  have N11 : 171 < N := by omega
  have hS6 : S.1 ≤ 6 := hok.2.2.2.2.2.2.2.1
  have hSn : ∀ k, k < S.1 → S.2.1 k < D.1 ∧ S.2.2 k < D.1 := hok.2.2.2.2.2.2.2.2
  obtain ⟨_, _, _, _, _, _, _, _, _, _, _, ⟨af, a1, a2⟩, ⟨wf, w1, w2⟩⟩ := id hmd
  replace a1 : E 170 = .inl (cy 1, 6, .inl af) := a1
  replace w1 : E 171 = .inl (cy 1, 6, .inl wf) := w1
  replace a2 : ∀ j, j < S.1 → af j = nI (S.2.1 j) := a2
  replace w2 : ∀ j, j < S.1 → wf j = nI (S.2.2 j) := w2
  have hr6 : r < 6 := by omega
  have inner : ∀ (by0 M : Nat), by0 ≤ 2 → M < 64 → A 4 [(0, .ref (b + 159)), (1, .int (nI r)), (2, .int (nI (if zfit D.1 D.2.1 C.1 S.1 S.2.1 S.2.2 r by0 = true then zset M by0 else M))), (3, .int (nI (by0 + 1)))] [] 0 0 E → ∀ (d k : Nat), d + k = S.1 → A 44 [(0, .ref (b + 159)), (1, .int (nI r)), (2, .int (nI M)), (3, .int (nI by0)), (4, .int (zrv (zwhom D.1 D.2.1 C.1 r by0))), (5, .int (if zall (fun k => decide (S.2.1 k ≠ r) || decide (zwhom D.1 D.2.1 C.1 r by0 = some (S.2.2 k))) k = true then 1 else 0)), (6, .int (nI k))] [] 0 0 E := by
    intro by0 M hby hM hnext d
    have hzf : zfit D.1 D.2.1 C.1 S.1 S.2.1 S.2.2 r by0 = zall (fun k => decide (S.2.1 k ≠ r) || decide (zwhom D.1 D.2.1 C.1 r by0 = some (S.2.2 k))) S.1 := rfl
    rw [hzf] at hnext
    generalize hp : (fun k => decide (S.2.1 k ≠ r) || decide (zwhom D.1 D.2.1 C.1 r by0 = some (S.2.2 k))) = p at hnext ⊢
    induction d with
    | zero =>
      intro k hd
      obtain rfl : k = S.1 := by omega
      apply hA44
      have cle : nI S.1 ≤ nI S.1 := nI_le (Nat.le_refl _) (by omega)
      by_cases q : zall p S.1 = true
      · rw [if_pos q] at hnext
        rw [if_pos q]
        simp -implicitDefEqProofs only [B_X6_lawsOf_44, B_X6_lawsOf_107, e_cut, e_iload, e_aload, e_istore, e_astore, e_iinc, e_const, e_lconst, e_bin, e_bin0, e_un, e_ladd, e_dupi, e_dupr, e_dup2, e_pop, e_sw, e_sw0, e_sw1, e_get, e_put, e_ald, e_ast, e_aald, e_aast, e_copy, e_new, e_newa, e_anewa, e_min, e_abs, e_oinit, e_callI, e_callV, e_callS, e_iret, e_zret, e_lret, e_vret, e_tl1, e_tl0, e_tl2, e_tl3, z10, Bool.false_eq_true, e_argi, e_argr, e_argn, zld_c, zst_n, zst_c, zpick_n, zpick_c, List.drop_succ_cons, List.drop_zero, List.take_succ_cons, List.take_zero, List.length_cons, List.length_nil, List.reverse_cons, List.reverse_nil, List.nil_append, List.cons_append, List.append_nil, List.getElem?_cons_zero, List.getElem?_cons_succ, List.set_cons_zero, List.set_cons_succ, Nat.add_sub_cancel_left, Nat.sub_self, Nat.add_zero, Nat.zero_add, Nat.le_add_right, Nat.le_refl, true_and, and_true, va_rf, zok, Nat.add_left_cancel_iff, Nat.add_eq_left, Nat.left_eq_add, eq_self, if_true, if_false, not_false_eq_true, not_true_eq_false, false_implies, true_implies, Nat.reduceEqDiff, Nat.reduceAdd, Nat.reduceLT, Nat.reduceLeDiff, reduceIte, e_icmpt (c2 := fun x y => y ≤ x) cle, e_iff (c1 := fun x => x = 0) (x := 1) (by decide), zM0, e0, N0, zset_i hM (show by0 < 6 by omega), nI_1]
        exact hnext
      · have o0 : nI M ||| 0 = nI M := by simp
        rw [if_neg q] at hnext
        rw [if_neg q]
        simp -implicitDefEqProofs only [B_X6_lawsOf_44, B_X6_lawsOf_107, e_cut, e_iload, e_aload, e_istore, e_astore, e_iinc, e_const, e_lconst, e_bin, e_bin0, e_un, e_ladd, e_dupi, e_dupr, e_dup2, e_pop, e_sw, e_sw0, e_sw1, e_get, e_put, e_ald, e_ast, e_aald, e_aast, e_copy, e_new, e_newa, e_anewa, e_min, e_abs, e_oinit, e_callI, e_callV, e_callS, e_iret, e_zret, e_lret, e_vret, e_tl1, e_tl0, e_tl2, e_tl3, z10, Bool.false_eq_true, e_argi, e_argr, e_argn, zld_c, zst_n, zst_c, zpick_n, zpick_c, List.drop_succ_cons, List.drop_zero, List.take_succ_cons, List.take_zero, List.length_cons, List.length_nil, List.reverse_cons, List.reverse_nil, List.nil_append, List.cons_append, List.append_nil, List.getElem?_cons_zero, List.getElem?_cons_succ, List.set_cons_zero, List.set_cons_succ, Nat.add_sub_cancel_left, Nat.sub_self, Nat.add_zero, Nat.zero_add, Nat.le_add_right, Nat.le_refl, true_and, and_true, va_rf, zok, Nat.add_left_cancel_iff, Nat.add_eq_left, Nat.left_eq_add, eq_self, if_true, if_false, not_false_eq_true, not_true_eq_false, false_implies, true_implies, Nat.reduceEqDiff, Nat.reduceAdd, Nat.reduceLT, Nat.reduceLeDiff, reduceIte, e_icmpt (c2 := fun x y => y ≤ x) cle, e_ift (c1 := fun x => x = 0) (x := 0) rfl, zM0, e0, N0, o0, nI_1]
        exact hnext
    | succ d ih =>
      intro k hd
      have hk : k < S.1 := by omega
      apply hA44
      have cle : ¬ nI S.1 ≤ nI k := nI_ge hk (by omega)
      have h9 := ih (k + 1) (by omega)
      have hz : zall p (k + 1) = (zall p k && p k) := rfl
      rw [hz] at h9
      have hin : vp_in (nI k) 6 := vp_in_nI (by omega) (by omega)
      have hcl : (nI k).toNatClampNeg = k := nI_clamp (by omega)
      by_cases q : zall p k = true
      · rw [q, Bool.true_and] at h9
        rw [if_pos q]
        have t6 := (hSn k hk).1
        have u6 := (hSn k hk).2
        have kr : (nI (S.2.1 k) = nI r) = (S.2.1 k = r) := propext (nI_eq (by omega) (by omega))
        have kw : (nI (S.2.2 k) = zrv (zwhom D.1 D.2.1 C.1 r by0)) = (zwhom D.1 D.2.1 C.1 r by0 = some (S.2.2 k)) := zrv_eq (fun q h => by have := (zwhom_lt h).1; omega) (by omega)
        simp -implicitDefEqProofs only [B_X6_lawsOf_44, B_X6_lawsOf_81, B_X6_lawsOf_85, B_X6_lawsOf_86, e_cut, e_iload, e_aload, e_istore, e_astore, e_iinc, e_const, e_lconst, e_bin, e_bin0, e_un, e_ladd, e_dupi, e_dupr, e_dup2, e_pop, e_sw, e_sw0, e_sw1, e_get, e_put, e_ald, e_ast, e_aald, e_aast, e_copy, e_new, e_newa, e_anewa, e_min, e_abs, e_oinit, e_callI, e_callV, e_callS, e_iret, e_zret, e_lret, e_vret, e_tl1, e_tl0, e_tl2, e_tl3, z10, Bool.false_eq_true, e_argi, e_argr, e_argn, zld_c, zst_n, zst_c, zpick_n, zpick_c, List.drop_succ_cons, List.drop_zero, List.take_succ_cons, List.take_zero, List.length_cons, List.length_nil, List.reverse_cons, List.reverse_nil, List.nil_append, List.cons_append, List.append_nil, List.getElem?_cons_zero, List.getElem?_cons_succ, List.set_cons_zero, List.set_cons_succ, Nat.add_sub_cancel_left, Nat.sub_self, Nat.add_zero, Nat.zero_add, Nat.le_add_right, Nat.le_refl, true_and, and_true, va_rf, zok, Nat.add_left_cancel_iff, Nat.add_eq_left, Nat.left_eq_add, eq_self, if_true, if_false, not_false_eq_true, not_true_eq_false, false_implies, true_implies, Nat.reduceEqDiff, Nat.reduceAdd, Nat.reduceLT, Nat.reduceLeDiff, reduceIte, cle, e_iff (c1 := fun x => x = 0) (x := 1) (by decide), e_icmp, zM0, e0, N0, N10, N11, a1, w1, hin, hcl, a2 k hk, w2 k hk, kr, kw, nI_1]
        refine ⟨fun c1 => ⟨fun c2 => ?_, fun c2 => ?_⟩, fun c1 => ?_⟩
        · rw [if_pos (show p k = true by rw [← hp]; simp [c2])] at h9; exact h9
        · rw [if_neg (show ¬ p k = true by rw [← hp]; simp [c1, c2])] at h9; exact h9
        · rw [if_pos (show p k = true by rw [← hp]; simp [c1])] at h9; exact h9
      · rw [show (zall p k && p k) = false by simp [q], if_neg (by simp)] at h9
        rw [if_neg q]
        simp -implicitDefEqProofs only [B_X6_lawsOf_44, B_X6_lawsOf_85, B_X6_lawsOf_86, e_cut, e_iload, e_aload, e_istore, e_astore, e_iinc, e_const, e_lconst, e_bin, e_bin0, e_un, e_ladd, e_dupi, e_dupr, e_dup2, e_pop, e_sw, e_sw0, e_sw1, e_get, e_put, e_ald, e_ast, e_aald, e_aast, e_copy, e_new, e_newa, e_anewa, e_min, e_abs, e_oinit, e_callI, e_callV, e_callS, e_iret, e_zret, e_lret, e_vret, e_tl1, e_tl0, e_tl2, e_tl3, z10, Bool.false_eq_true, e_argi, e_argr, e_argn, zld_c, zst_n, zst_c, zpick_n, zpick_c, List.drop_succ_cons, List.drop_zero, List.take_succ_cons, List.take_zero, List.length_cons, List.length_nil, List.reverse_cons, List.reverse_nil, List.nil_append, List.cons_append, List.append_nil, List.getElem?_cons_zero, List.getElem?_cons_succ, List.set_cons_zero, List.set_cons_succ, Nat.add_sub_cancel_left, Nat.sub_self, Nat.add_zero, Nat.zero_add, Nat.le_add_right, Nat.le_refl, true_and, and_true, va_rf, zok, Nat.add_left_cancel_iff, Nat.add_eq_left, Nat.left_eq_add, eq_self, if_true, if_false, not_false_eq_true, not_true_eq_false, false_implies, true_implies, Nat.reduceEqDiff, Nat.reduceAdd, Nat.reduceLT, Nat.reduceLeDiff, reduceIte, e_icmpf (c2 := fun x y => y ≤ x) cle, e_ift (c1 := fun x => x = 0) (x := 0) rfl, zM0, e0, N0, nI_1]
        exact h9
  have outer : ∀ (d k : Nat), d + k = 3 → A 4 [(0, .ref (b + 159)), (1, .int (nI r)), (2, .int (nI (zlw D.1 D.2.1 C.1 S.1 S.2.1 S.2.2 r k))), (3, .int (nI k))] [] 0 0 E := by
    intro d
    induction d with
    | zero =>
      intro k hd
      obtain rfl : k = 3 := by omega
      apply hA4
      have cle : (2 : Int32) < nI 3 := by decide
      simp -implicitDefEqProofs only [B_X6_lawsOf_4, e_cut, e_iload, e_aload, e_istore, e_astore, e_iinc, e_const, e_lconst, e_bin, e_bin0, e_un, e_ladd, e_dupi, e_dupr, e_dup2, e_pop, e_sw, e_sw0, e_sw1, e_get, e_put, e_ald, e_ast, e_aald, e_aast, e_copy, e_new, e_newa, e_anewa, e_min, e_abs, e_oinit, e_callI, e_callV, e_callS, e_iret, e_zret, e_lret, e_vret, e_tl1, e_tl0, e_tl2, e_tl3, z10, Bool.false_eq_true, e_argi, e_argr, e_argn, zld_c, zst_n, zst_c, zpick_n, zpick_c, List.drop_succ_cons, List.drop_zero, List.take_succ_cons, List.take_zero, List.length_cons, List.length_nil, List.reverse_cons, List.reverse_nil, List.nil_append, List.cons_append, List.append_nil, List.getElem?_cons_zero, List.getElem?_cons_succ, List.set_cons_zero, List.set_cons_succ, Nat.add_sub_cancel_left, Nat.sub_self, Nat.add_zero, Nat.zero_add, Nat.le_add_right, Nat.le_refl, true_and, and_true, va_rf, zok, Nat.add_left_cancel_iff, Nat.add_eq_left, Nat.left_eq_add, eq_self, if_true, if_false, not_false_eq_true, not_true_eq_false, false_implies, true_implies, Nat.reduceEqDiff, Nat.reduceAdd, Nat.reduceLT, Nat.reduceLeDiff, reduceIte, e_icmpt (c2 := fun x y => y < x) cle]
      exact hP
    | succ d ih =>
      intro k hd
      have hk : k < 3 := by omega
      apply hA4
      have cle : ¬ (2 : Int32) < nI k := fun h => by have := (nI_ltI (a := 2) (b := k) (by omega) (by omega)).mp h; omega
      have hM : zlw D.1 D.2.1 C.1 S.1 S.2.1 S.2.2 r k < 64 := zlw_lt k (by omega)
      have h9 := ih (k + 1) (by omega)
      rw [zlw] at h9
      have h10 := inner k _ (by omega) hM h9 S.1 0 (by omega)
      rw [if_pos (show zall _ 0 = true from rfl)] at h10
      simp -implicitDefEqProofs only [B_X6_lawsOf_4, e_cut, e_iload, e_aload, e_istore, e_astore, e_iinc, e_const, e_lconst, e_bin, e_bin0, e_un, e_ladd, e_dupi, e_dupr, e_dup2, e_pop, e_sw, e_sw0, e_sw1, e_get, e_put, e_ald, e_ast, e_aald, e_aast, e_copy, e_new, e_newa, e_anewa, e_min, e_abs, e_oinit, e_callI, e_callV, e_callS, e_iret, e_zret, e_lret, e_vret, e_tl1, e_tl0, e_tl2, e_tl3, z10, Bool.false_eq_true, e_argi, e_argr, e_argn, zld_c, zst_n, zst_c, zpick_n, zpick_c, List.drop_succ_cons, List.drop_zero, List.take_succ_cons, List.take_zero, List.length_cons, List.length_nil, List.reverse_cons, List.reverse_nil, List.nil_append, List.cons_append, List.append_nil, List.getElem?_cons_zero, List.getElem?_cons_succ, List.set_cons_zero, List.set_cons_succ, Nat.add_sub_cancel_left, Nat.sub_self, Nat.add_zero, Nat.zero_add, Nat.le_add_right, Nat.le_refl, true_and, and_true, va_rf, zok, Nat.add_left_cancel_iff, Nat.add_eq_left, Nat.left_eq_add, eq_self, if_true, if_false, not_false_eq_true, not_true_eq_false, false_implies, true_implies, Nat.reduceEqDiff, Nat.reduceAdd, Nat.reduceLT, Nat.reduceLeDiff, reduceIte, e_icmpf (c2 := fun x y => y < x) cle, zM0, e0, N0]
      refine ⟨166, r, D.1, C.1, rfl, hW.ar, N6, hr6, hmk.l64, ?_⟩
      unfold zwhom at h10
      by_cases q2 : (C.1 1).testBit r = true
      · rw [if_pos q2] at h10
        simp -implicitDefEqProofs only [e_cut, e_iload, e_aload, e_istore, e_astore, e_iinc, e_const, e_lconst, e_bin, e_bin0, e_un, e_ladd, e_dupi, e_dupr, e_dup2, e_pop, e_sw, e_sw0, e_sw1, e_get, e_put, e_ald, e_ast, e_aald, e_aast, e_copy, e_new, e_newa, e_anewa, e_min, e_abs, e_oinit, e_callI, e_callV, e_callS, e_iret, e_zret, e_lret, e_vret, e_tl1, e_tl0, e_tl2, e_tl3, z10, Bool.false_eq_true, e_argi, e_argr, e_argn, zld_c, zst_n, zst_c, zpick_n, zpick_c, List.drop_succ_cons, List.drop_zero, List.take_succ_cons, List.take_zero, List.length_cons, List.length_nil, List.reverse_cons, List.reverse_nil, List.nil_append, List.cons_append, List.append_nil, List.getElem?_cons_zero, List.getElem?_cons_succ, List.set_cons_zero, List.set_cons_succ, Nat.add_sub_cancel_left, Nat.sub_self, Nat.add_zero, Nat.zero_add, Nat.le_add_right, Nat.le_refl, true_and, and_true, va_rf, zok, Nat.add_left_cancel_iff, Nat.add_eq_left, Nat.left_eq_add, eq_self, if_true, if_false, not_false_eq_true, not_true_eq_false, false_implies, true_implies, Nat.reduceEqDiff, Nat.reduceAdd, Nat.reduceLT, Nat.reduceLeDiff, reduceIte, q2, e_iff (c1 := fun x => x = 0) (x := 1) (by decide), zM0, e0, N0]
        refine ⟨_, _, _, C.1, 166, r, k, rfl, hR, hW.ar, hmk, N6, hr, by omega, ?_⟩
        simp -implicitDefEqProofs only [B_X6_lawsOf_36, e_cut, e_iload, e_aload, e_istore, e_astore, e_iinc, e_const, e_lconst, e_bin, e_bin0, e_un, e_ladd, e_dupi, e_dupr, e_dup2, e_pop, e_sw, e_sw0, e_sw1, e_get, e_put, e_ald, e_ast, e_aald, e_aast, e_copy, e_new, e_newa, e_anewa, e_min, e_abs, e_oinit, e_callI, e_callV, e_callS, e_iret, e_zret, e_lret, e_vret, e_tl1, e_tl0, e_tl2, e_tl3, z10, Bool.false_eq_true, e_argi, e_argr, e_argn, zld_c, zst_n, zst_c, zpick_n, zpick_c, List.drop_succ_cons, List.drop_zero, List.take_succ_cons, List.take_zero, List.length_cons, List.length_nil, List.reverse_cons, List.reverse_nil, List.nil_append, List.cons_append, List.append_nil, List.getElem?_cons_zero, List.getElem?_cons_succ, List.set_cons_zero, List.set_cons_succ, Nat.add_sub_cancel_left, Nat.sub_self, Nat.add_zero, Nat.zero_add, Nat.le_add_right, Nat.le_refl, true_and, and_true, va_rf, zok, Nat.add_left_cancel_iff, Nat.add_eq_left, Nat.left_eq_add, eq_self, if_true, if_false, not_false_eq_true, not_true_eq_false, false_implies, true_implies, Nat.reduceEqDiff, Nat.reduceAdd, Nat.reduceLT, Nat.reduceLeDiff, reduceIte]
        exact h10
      · rw [if_neg q2] at h10
        simp -implicitDefEqProofs only [e_cut, e_iload, e_aload, e_istore, e_astore, e_iinc, e_const, e_lconst, e_bin, e_bin0, e_un, e_ladd, e_dupi, e_dupr, e_dup2, e_pop, e_sw, e_sw0, e_sw1, e_get, e_put, e_ald, e_ast, e_aald, e_aast, e_copy, e_new, e_newa, e_anewa, e_min, e_abs, e_oinit, e_callI, e_callV, e_callS, e_iret, e_zret, e_lret, e_vret, e_tl1, e_tl0, e_tl2, e_tl3, z10, Bool.false_eq_true, e_argi, e_argr, e_argn, zld_c, zst_n, zst_c, zpick_n, zpick_c, List.drop_succ_cons, List.drop_zero, List.take_succ_cons, List.take_zero, List.length_cons, List.length_nil, List.reverse_cons, List.reverse_nil, List.nil_append, List.cons_append, List.append_nil, List.getElem?_cons_zero, List.getElem?_cons_succ, List.set_cons_zero, List.set_cons_succ, Nat.add_sub_cancel_left, Nat.sub_self, Nat.add_zero, Nat.zero_add, Nat.le_add_right, Nat.le_refl, true_and, and_true, va_rf, zok, Nat.add_left_cancel_iff, Nat.add_eq_left, Nat.left_eq_add, eq_self, if_true, if_false, not_false_eq_true, not_true_eq_false, false_implies, true_implies, Nat.reduceEqDiff, Nat.reduceAdd, Nat.reduceLT, Nat.reduceLeDiff, reduceIte, q2, e_ift (c1 := fun x => x = 0) (x := 0) rfl, B_X6_lawsOf_36]
        exact h10
  simp -implicitDefEqProofs only [B_X6_lawsOf_0, e_cut, e_iload, e_aload, e_istore, e_astore, e_iinc, e_const, e_lconst, e_bin, e_bin0, e_un, e_ladd, e_dupi, e_dupr, e_dup2, e_pop, e_sw, e_sw0, e_sw1, e_get, e_put, e_ald, e_ast, e_aald, e_aast, e_copy, e_new, e_newa, e_anewa, e_min, e_abs, e_oinit, e_callI, e_callV, e_callS, e_iret, e_zret, e_lret, e_vret, e_tl1, e_tl0, e_tl2, e_tl3, z10, Bool.false_eq_true, e_argi, e_argr, e_argn, zld_c, zst_n, zst_c, zpick_n, zpick_c, List.drop_succ_cons, List.drop_zero, List.take_succ_cons, List.take_zero, List.length_cons, List.length_nil, List.reverse_cons, List.reverse_nil, List.nil_append, List.cons_append, List.append_nil, List.getElem?_cons_zero, List.getElem?_cons_succ, List.set_cons_zero, List.set_cons_succ, Nat.add_sub_cancel_left, Nat.sub_self, Nat.add_zero, Nat.zero_add, Nat.le_add_right, Nat.le_refl, true_and, and_true, va_rf, zok, Nat.add_left_cancel_iff, Nat.add_eq_left, Nat.left_eq_add, eq_self, if_true, if_false, not_false_eq_true, not_true_eq_false, false_implies, true_implies, Nat.reduceEqDiff, Nat.reduceAdd, Nat.reduceLT, Nat.reduceLeDiff, reduceIte]
  exact outer 3 0 rfl
set_option maxRecDepth 20000 in
theorem f_X6_lawsOf_96 : Cond.fieldLink RX6 96 (TX6 20).1 (TX6 20).2.1 (TX6 20).2.2.1 ∈ wsX6_lawsOf := by decide +kernel
set_option maxRecDepth 20000 in
theorem k_X6_lawsOf_6 : ∀ w ∈ u_ws RX6 TX6 21, w ∈ wsX6_lawsOf := fun _ h => List.mem_cons_of_mem _ (List.mem_append_right _ h)
set_option maxRecDepth 20000 in
theorem f_X6_lawsOf_42 : Cond.fieldLink RX6 42 (TX6 18).1 (TX6 18).2.1 (TX6 18).2.2.1 ∈ wsX6_lawsOf := by decide +kernel
set_option maxRecDepth 20000 in
theorem f_X6_lawsOf_45 : Cond.fieldLink RX6 45 (TX6 19).1 (TX6 19).2.1 (TX6 19).2.2.1 ∈ wsX6_lawsOf := by decide +kernel
set_option maxRecDepth 20000 in
theorem f_X6_lawsOf_29 : Cond.fieldLink RX6 29 (TX6 14).1 (TX6 14).2.1 (TX6 14).2.2.1 ∈ wsX6_lawsOf := by decide +kernel
set_option maxRecDepth 100000 in
set_option maxHeartbeats 4000000 in
theorem S_X6_lawsOf_107 {p : Program} {e : Env} {s : State} {m : MethodId} {args : Array Value} {below : List Frame} {meth : Method} {c : Code} {D : va_G} {cy : zY} {b n0 : Nat} {P : zPo} (la : Launch) (X : zX p la e (rm_X6_lawsOf) s m args below meth c 7 D cy b n0 cX6_lawsOf wsX6_lawsOf RX6) (hr : meth.sig.returnType = (some .int)) (h_X6_isAboard : zMet la yX6_isAboard wsX6_isAboard rm_X6_isAboard 0 0 sp_X6_isAboard) (h_X6_whom : zMet la yX6_whom wsX6_whom rm_X6_whom 0 0 sp_X6_whom) : zS p la e (rm_X6_lawsOf) s m args below meth c (MQ below (zQ D b (n0 + 0) P) args s 0 0 (fun q => b ≤ q)) 7 D b n0 107 (B_X6_lawsOf_107 b n0 cy P (zAt p la e (rm_X6_lawsOf) s m args below meth c (MQ below (zQ D b (n0 + 0) P) args s 0 0 (fun q => b ≤ q)) 7 D b n0)) := by
  unfold B_X6_lawsOf_107
  exact (s_ior X dX6_lawsOf_107 (s_istore_n X dX6_lawsOf_108 rfl (by decide) (s_iinc X dX6_lawsOf_109 (by decide) (by decide) (s_goto X dX6_lawsOf_112 (by decide) (s_cut (by decide) zS_at)))))
set_option maxRecDepth 100000 in
set_option maxHeartbeats 4000000 in
theorem S_X6_lawsOf_86 {p : Program} {e : Env} {s : State} {m : MethodId} {args : Array Value} {below : List Frame} {meth : Method} {c : Code} {D : va_G} {cy : zY} {b n0 : Nat} {P : zPo} (la : Launch) (X : zX p la e (rm_X6_lawsOf) s m args below meth c 7 D cy b n0 cX6_lawsOf wsX6_lawsOf RX6) (hr : meth.sig.returnType = (some .int)) (h_X6_isAboard : zMet la yX6_isAboard wsX6_isAboard rm_X6_isAboard 0 0 sp_X6_isAboard) (h_X6_whom : zMet la yX6_whom wsX6_whom rm_X6_whom 0 0 sp_X6_whom) : zS p la e (rm_X6_lawsOf) s m args below meth c (MQ below (zQ D b (n0 + 0) P) args s 0 0 (fun q => b ≤ q)) 7 D b n0 86 (B_X6_lawsOf_86 b n0 cy P (zAt p la e (rm_X6_lawsOf) s m args below meth c (MQ below (zQ D b (n0 + 0) P) args s 0 0 (fun q => b ≤ q)) 7 D b n0)) := by
  unfold B_X6_lawsOf_86
  exact (s_istore X dX6_lawsOf_86 (by decide) (s_iinc X dX6_lawsOf_88 (by decide) (by decide) (s_goto X dX6_lawsOf_91 (by decide) (s_cut (by decide) zS_at))))
set_option maxRecDepth 100000 in
set_option maxHeartbeats 4000000 in
theorem S_X6_lawsOf_85 {p : Program} {e : Env} {s : State} {m : MethodId} {args : Array Value} {below : List Frame} {meth : Method} {c : Code} {D : va_G} {cy : zY} {b n0 : Nat} {P : zPo} (la : Launch) (X : zX p la e (rm_X6_lawsOf) s m args below meth c 7 D cy b n0 cX6_lawsOf wsX6_lawsOf RX6) (hr : meth.sig.returnType = (some .int)) (h_X6_isAboard : zMet la yX6_isAboard wsX6_isAboard rm_X6_isAboard 0 0 sp_X6_isAboard) (h_X6_whom : zMet la yX6_whom wsX6_whom rm_X6_whom 0 0 sp_X6_whom) : zS p la e (rm_X6_lawsOf) s m args below meth c (MQ below (zQ D b (n0 + 0) P) args s 0 0 (fun q => b ≤ q)) 7 D b n0 85 (B_X6_lawsOf_85 b n0 cy P (zAt p la e (rm_X6_lawsOf) s m args below meth c (MQ below (zQ D b (n0 + 0) P) args s 0 0 (fun q => b ≤ q)) 7 D b n0)) := by
  unfold B_X6_lawsOf_85
  exact (s_iconst X dX6_lawsOf_85 (by decide) (S_X6_lawsOf_86 la X hr h_X6_isAboard h_X6_whom))
set_option maxRecDepth 100000 in
set_option maxHeartbeats 4000000 in
theorem S_X6_lawsOf_81 {p : Program} {e : Env} {s : State} {m : MethodId} {args : Array Value} {below : List Frame} {meth : Method} {c : Code} {D : va_G} {cy : zY} {b n0 : Nat} {P : zPo} (la : Launch) (X : zX p la e (rm_X6_lawsOf) s m args below meth c 7 D cy b n0 cX6_lawsOf wsX6_lawsOf RX6) (hr : meth.sig.returnType = (some .int)) (h_X6_isAboard : zMet la yX6_isAboard wsX6_isAboard rm_X6_isAboard 0 0 sp_X6_isAboard) (h_X6_whom : zMet la yX6_whom wsX6_whom rm_X6_whom 0 0 sp_X6_whom) : zS p la e (rm_X6_lawsOf) s m args below meth c (MQ below (zQ D b (n0 + 0) P) args s 0 0 (fun q => b ≤ q)) 7 D b n0 81 (B_X6_lawsOf_81 b n0 cy P (zAt p la e (rm_X6_lawsOf) s m args below meth c (MQ below (zQ D b (n0 + 0) P) args s 0 0 (fun q => b ≤ q)) 7 D b n0)) := by
  unfold B_X6_lawsOf_81
  exact (s_iconst X dX6_lawsOf_81 (by decide) (s_goto X dX6_lawsOf_82 (by decide) (S_X6_lawsOf_86 la X hr h_X6_isAboard h_X6_whom)))
set_option maxRecDepth 100000 in
set_option maxHeartbeats 4000000 in
theorem S_X6_lawsOf_44 {p : Program} {e : Env} {s : State} {m : MethodId} {args : Array Value} {below : List Frame} {meth : Method} {c : Code} {D : va_G} {cy : zY} {b n0 : Nat} {P : zPo} (la : Launch) (X : zX p la e (rm_X6_lawsOf) s m args below meth c 7 D cy b n0 cX6_lawsOf wsX6_lawsOf RX6) (hr : meth.sig.returnType = (some .int)) (h_X6_isAboard : zMet la yX6_isAboard wsX6_isAboard rm_X6_isAboard 0 0 sp_X6_isAboard) (h_X6_whom : zMet la yX6_whom wsX6_whom rm_X6_whom 0 0 sp_X6_whom) : zS p la e (rm_X6_lawsOf) s m args below meth c (MQ below (zQ D b (n0 + 0) P) args s 0 0 (fun q => b ≤ q)) 7 D b n0 44 (B_X6_lawsOf_44 b n0 cy P (zAt p la e (rm_X6_lawsOf) s m args below meth c (MQ below (zQ D b (n0 + 0) P) args s 0 0 (fun q => b ≤ q)) 7 D b n0)) := by
  unfold B_X6_lawsOf_44
  exact (s_iload X dX6_lawsOf_44 (s_aload_n X dX6_lawsOf_46 rfl (s_get X dX6_lawsOf_47 rfl k_X6_lawsOf_6 (by decide) f_X6_lawsOf_96 (s_icmp_ge X dX6_lawsOf_50 (by decide) (s_iload_n X dX6_lawsOf_94 rfl (s_iload X dX6_lawsOf_95 (s_if_eq X dX6_lawsOf_97 (by decide) (s_iconst X dX6_lawsOf_106 (by decide) (S_X6_lawsOf_107 la X hr h_X6_isAboard h_X6_whom)) (s_iconst X dX6_lawsOf_100 (by decide) (s_iload_n X dX6_lawsOf_101 rfl (s_ishl X dX6_lawsOf_102 (s_goto X dX6_lawsOf_103 (by decide) (S_X6_lawsOf_107 la X hr h_X6_isAboard h_X6_whom)))))))) (s_iload X dX6_lawsOf_53 (s_if_eq X dX6_lawsOf_55 (by decide) (S_X6_lawsOf_85 la X hr h_X6_isAboard h_X6_whom) (s_aload_n X dX6_lawsOf_58 rfl (s_get X dX6_lawsOf_59 rfl k_X6_lawsOf_6 (by decide) f_X6_lawsOf_42 (s_iload X dX6_lawsOf_62 (s_iald X dX6_lawsOf_64 (s_iload_n X dX6_lawsOf_65 rfl (s_icmp_ne X dX6_lawsOf_66 (by decide) (S_X6_lawsOf_81 la X hr h_X6_isAboard h_X6_whom) (s_aload_n X dX6_lawsOf_69 rfl (s_get X dX6_lawsOf_70 rfl k_X6_lawsOf_6 (by decide) f_X6_lawsOf_45 (s_iload X dX6_lawsOf_73 (s_iald X dX6_lawsOf_75 (s_iload X dX6_lawsOf_76 (s_icmp_ne X dX6_lawsOf_78 (by decide) (S_X6_lawsOf_85 la X hr h_X6_isAboard h_X6_whom) (S_X6_lawsOf_81 la X hr h_X6_isAboard h_X6_whom)))))))))))))))))))
set_option maxRecDepth 100000 in
set_option maxHeartbeats 4000000 in
theorem S_X6_lawsOf_36 {p : Program} {e : Env} {s : State} {m : MethodId} {args : Array Value} {below : List Frame} {meth : Method} {c : Code} {D : va_G} {cy : zY} {b n0 : Nat} {P : zPo} (la : Launch) (X : zX p la e (rm_X6_lawsOf) s m args below meth c 7 D cy b n0 cX6_lawsOf wsX6_lawsOf RX6) (hr : meth.sig.returnType = (some .int)) (h_X6_isAboard : zMet la yX6_isAboard wsX6_isAboard rm_X6_isAboard 0 0 sp_X6_isAboard) (h_X6_whom : zMet la yX6_whom wsX6_whom rm_X6_whom 0 0 sp_X6_whom) : zS p la e (rm_X6_lawsOf) s m args below meth c (MQ below (zQ D b (n0 + 0) P) args s 0 0 (fun q => b ≤ q)) 7 D b n0 36 (B_X6_lawsOf_36 b n0 cy P (zAt p la e (rm_X6_lawsOf) s m args below meth c (MQ below (zQ D b (n0 + 0) P) args s 0 0 (fun q => b ≤ q)) 7 D b n0)) := by
  unfold B_X6_lawsOf_36
  exact (s_istore X dX6_lawsOf_36 (by decide) (s_iconst X dX6_lawsOf_38 (by decide) (s_istore X dX6_lawsOf_39 (by decide) (s_iconst X dX6_lawsOf_41 (by decide) (s_istore X dX6_lawsOf_42 (by decide) (s_cut (by decide) zS_at))))))
set_option maxRecDepth 100000 in
set_option maxHeartbeats 4000000 in
theorem S_X6_lawsOf_4 {p : Program} {e : Env} {s : State} {m : MethodId} {args : Array Value} {below : List Frame} {meth : Method} {c : Code} {D : va_G} {cy : zY} {b n0 : Nat} {P : zPo} (la : Launch) (X : zX p la e (rm_X6_lawsOf) s m args below meth c 7 D cy b n0 cX6_lawsOf wsX6_lawsOf RX6) (hr : meth.sig.returnType = (some .int)) (h_X6_isAboard : zMet la yX6_isAboard wsX6_isAboard rm_X6_isAboard 0 0 sp_X6_isAboard) (h_X6_whom : zMet la yX6_whom wsX6_whom rm_X6_whom 0 0 sp_X6_whom) : zS p la e (rm_X6_lawsOf) s m args below meth c (MQ below (zQ D b (n0 + 0) P) args s 0 0 (fun q => b ≤ q)) 7 D b n0 4 (B_X6_lawsOf_4 b n0 cy P (zAt p la e (rm_X6_lawsOf) s m args below meth c (MQ below (zQ D b (n0 + 0) P) args s 0 0 (fun q => b ≤ q)) 7 D b n0)) := by
  unfold B_X6_lawsOf_4
  exact (s_iload_n X dX6_lawsOf_4 rfl (s_iconst X dX6_lawsOf_5 (by decide) (s_icmp_gt X dX6_lawsOf_6 (by decide) (s_iload_n X dX6_lawsOf_115 rfl (s_iret X dX6_lawsOf_116 hr)) (s_aload_n X dX6_lawsOf_9 rfl (s_aload_n X dX6_lawsOf_10 rfl (s_get X dX6_lawsOf_11 rfl k_X6_lawsOf_6 (by decide) f_X6_lawsOf_29 (s_iload_n X dX6_lawsOf_14 rfl (s_callV X h_X6_isAboard dX6_lawsOf_15 rfl gX6_lawsOf_X6_isAboard rfl rfl rfl (by decide +kernel) ⟨by decide, by decide⟩ (s_if_eq X dX6_lawsOf_18 (by decide) (s_bipush X dX6_lawsOf_34 (by decide) (S_X6_lawsOf_36 la X hr h_X6_isAboard h_X6_whom)) (s_aload_n X dX6_lawsOf_21 rfl (s_aload_n X dX6_lawsOf_22 rfl (s_get X dX6_lawsOf_23 rfl k_X6_lawsOf_6 (by decide) f_X6_lawsOf_29 (s_iload_n X dX6_lawsOf_26 rfl (s_iload_n X dX6_lawsOf_27 rfl (s_callV X h_X6_whom dX6_lawsOf_28 rfl gX6_lawsOf_X6_whom rfl rfl rfl (by decide +kernel) ⟨by decide, by decide⟩ (s_goto X dX6_lawsOf_31 (by decide) (S_X6_lawsOf_36 la X hr h_X6_isAboard h_X6_whom)))))))))))))))))
set_option maxRecDepth 100000 in
set_option maxHeartbeats 4000000 in
theorem S_X6_lawsOf_0 {p : Program} {e : Env} {s : State} {m : MethodId} {args : Array Value} {below : List Frame} {meth : Method} {c : Code} {D : va_G} {cy : zY} {b n0 : Nat} {P : zPo} (la : Launch) (X : zX p la e (rm_X6_lawsOf) s m args below meth c 7 D cy b n0 cX6_lawsOf wsX6_lawsOf RX6) (hr : meth.sig.returnType = (some .int)) (h_X6_isAboard : zMet la yX6_isAboard wsX6_isAboard rm_X6_isAboard 0 0 sp_X6_isAboard) (h_X6_whom : zMet la yX6_whom wsX6_whom rm_X6_whom 0 0 sp_X6_whom) : zS p la e (rm_X6_lawsOf) s m args below meth c (MQ below (zQ D b (n0 + 0) P) args s 0 0 (fun q => b ≤ q)) 7 D b n0 0 (B_X6_lawsOf_0 b n0 cy P (zAt p la e (rm_X6_lawsOf) s m args below meth c (MQ below (zQ D b (n0 + 0) P) args s 0 0 (fun q => b ≤ q)) 7 D b n0)) := by
  unfold B_X6_lawsOf_0
  exact (s_iconst X dX6_lawsOf_0 (by decide) (s_istore_n X dX6_lawsOf_1 rfl (by decide) (s_iconst X dX6_lawsOf_2 (by decide) (s_istore_n X dX6_lawsOf_3 rfl (by decide) (s_cut (by decide) zS_at)))))
theorem w_X6_lawsOf (la : Launch) (h_X6_isAboard : zMet la yX6_isAboard wsX6_isAboard rm_X6_isAboard 0 0 sp_X6_isAboard) (h_X6_whom : zMet la yX6_whom wsX6_whom rm_X6_whom 0 0 sp_X6_whom) (sp : zSp) (vc : zVC_X6_lawsOf sp) : zMet la yX6_lawsOf wsX6_lawsOf (rm_X6_lawsOf) 0 0 sp :=
  z_of (cc := cX6_lawsOf) (maxL := 7) (ret := (some .int)) (by decide +kernel) rfl (fun p e s m args below meth c D cy b n as E P hsp X hr hin => by
    obtain ⟨h1, h2⟩ := vc b cy n as E P (zAt p la e (rm_X6_lawsOf) s m args below meth c (MQ below (zQ D b (n + 0) P) args s 0 0 (fun q => b ≤ q)) 7 D b n) (fun _ _ _ _ _ q => S_X6_lawsOf_4 la X hr h_X6_isAboard h_X6_whom _ _ _ _ _ q) (fun _ _ _ _ _ q => S_X6_lawsOf_44 la X hr h_X6_isAboard h_X6_whom _ _ _ _ _ q) hsp
    exact ⟨h1, S_X6_lawsOf_0 la X hr h_X6_isAboard h_X6_whom _ _ _ _ _ h2⟩)

theorem m_X6_lawsOf (la : Launch) : zMet la yX6_lawsOf wsX6_lawsOf rm_X6_lawsOf 0 0 sp_X6_lawsOf := w_X6_lawsOf la (m_X6_isAboard la) (m_X6_whom la) _ vc_X6_lawsOf
def sp_X6_laws : zSp := fun b cy as N E P => ∃ x : Int32, zPM (op_laws x) [.int x] b cy as N E P
abbrev rm_X6_laws : Room := { frames := 5, cells := 0, slots := 0, locals := 138 }
def B_X6_laws_17 (b n0 : Nat) (cy : zY) (P : zPo) (A : Nat → zC) : zC :=
  z_iret 0 0 P
def B_X6_laws_0 (b n0 : Nat) (cy : zY) (P : zPo) (A : Nat → zC) : zC :=
  z_aload 0 (z_iload 1 (z_callV b n0 0 0 cy 6 1 0 0 sp_X6_isRider (z_if (fun x => x = 0) (z_const (-1) (B_X6_laws_17 b n0 cy P A)) (z_aload 0 (z_iload 1 (z_callV b n0 0 0 cy 6 1 0 0 sp_X6_lawsOf (B_X6_laws_17 b n0 cy P A)))))))
def zVC_X6_laws (sp : zSp) : Prop := ∀ (b : Nat) (cy : zY) (n : Nat) (as : List Value) (E : zE) (P : zPo) (A : Nat → zC), sp b cy as n E P → zgood as 2 ∧ B_X6_laws_0 b n cy P A (lv_args 0 as) [] 0 0 E

set_option maxRecDepth 100000 in
set_option maxHeartbeats 4000000 in
theorem vc_X6_laws : zVC_X6_laws sp_X6_laws := by
  intro b cy N as E P A hsp
  obtain ⟨x, K, ⟨T, D, C, I, S, tr⟩, rfl, hmd, hok, hK, hN, hP⟩ := hsp
  refine ⟨⟨Nat.le_of_ble_eq_true rfl, zg1 rfl (zg1 rfl (zg0))⟩, ?_⟩
  have N0 : 159 < N := by omega
  have N6 : 166 < N := by omega
  obtain ⟨lt, q, st, so, va, fa, e0⟩ := hmd.o
  replace e0 : E 159 = zM0 b tr (nI T.1) lt q st so va fa (nI S.1) := e0
  have hR := hmd.mr hok hN
  obtain ⟨f, hW, hCa⟩ := hmd.wr
  have hE := hW.2.2.1
  obtain ⟨h8, h9⟩ : (∃ g : Nat → Int32, E 168 = .inl (cy 1, 52, .inl g)) ∧ (∃ g : Nat → Int32, E 169 = .inl (cy 1, 6, .inl g)) := by obtain ⟨_, _, _, _, _, _, _, _, _, a, c, _⟩ := hmd; exact ⟨a, c⟩
  obtain ⟨hn, hlo, _, _, _, ⟨hmk, hs99, hth, hm10, _⟩, _⟩ := id hok
  replace hn : D.1 ≤ 6 := hn
  obtain ⟨v0, v4, v10, v16⟩ := zCm0 hW.2.2.2
  replace hP := hP E hmd (fun _ _ => rfl)
  simp only [op_laws] at hP
  simp -implicitDefEqProofs only [B_X6_laws_0, B_X6_laws_17, e_cut, e_iload, e_aload, e_istore, e_astore, e_iinc, e_const, e_lconst, e_bin, e_bin0, e_un, e_ladd, e_dupi, e_dupr, e_dup2, e_pop, e_sw, e_sw0, e_sw1, e_get, e_put, e_ald, e_ast, e_aald, e_aast, e_copy, e_new, e_newa, e_anewa, e_min, e_abs, e_oinit, e_callI, e_callV, e_callS, e_iret, e_zret, e_lret, e_vret, e_tl1, e_tl0, e_tl2, e_tl3, z10, Bool.false_eq_true, e_argi, e_argr, e_argn, zld_c, zst_n, zst_c, zpick_n, zpick_c, List.drop_succ_cons, List.drop_zero, List.take_succ_cons, List.take_zero, List.length_cons, List.length_nil, List.reverse_cons, List.reverse_nil, List.nil_append, List.cons_append, List.append_nil, List.getElem?_cons_zero, List.getElem?_cons_succ, List.set_cons_zero, List.set_cons_succ, Nat.add_sub_cancel_left, Nat.sub_self, Nat.add_zero, Nat.zero_add, Nat.le_add_right, Nat.le_refl, true_and, and_true, va_rf, zok, Nat.add_left_cancel_iff, Nat.add_eq_left, Nat.left_eq_add, eq_self, if_true, if_false, not_false_eq_true, not_true_eq_false, false_implies, true_implies, Nat.reduceEqDiff, Nat.reduceAdd, Nat.reduceLT, Nat.reduceLeDiff, reduceIte, zM0, e0, N0]
  refine ⟨_, _, _, x, rfl, hR, ?_⟩
  by_cases q1 : zisB D.1 x = true
  · obtain ⟨r, hr, rfl⟩ := zisB_t q1 hn
    rw [if_pos q1, zcl_i (show r < 2 ^ 31 by omega)] at hP
    simp -implicitDefEqProofs only [e_cut, e_iload, e_aload, e_istore, e_astore, e_iinc, e_const, e_lconst, e_bin, e_bin0, e_un, e_ladd, e_dupi, e_dupr, e_dup2, e_pop, e_sw, e_sw0, e_sw1, e_get, e_put, e_ald, e_ast, e_aald, e_aast, e_copy, e_new, e_newa, e_anewa, e_min, e_abs, e_oinit, e_callI, e_callV, e_callS, e_iret, e_zret, e_lret, e_vret, e_tl1, e_tl0, e_tl2, e_tl3, z10, Bool.false_eq_true, e_argi, e_argr, e_argn, zld_c, zst_n, zst_c, zpick_n, zpick_c, List.drop_succ_cons, List.drop_zero, List.take_succ_cons, List.take_zero, List.length_cons, List.length_nil, List.reverse_cons, List.reverse_nil, List.nil_append, List.cons_append, List.append_nil, List.getElem?_cons_zero, List.getElem?_cons_succ, List.set_cons_zero, List.set_cons_succ, Nat.add_sub_cancel_left, Nat.sub_self, Nat.add_zero, Nat.zero_add, Nat.le_add_right, Nat.le_refl, true_and, and_true, va_rf, zok, Nat.add_left_cancel_iff, Nat.add_eq_left, Nat.left_eq_add, eq_self, if_true, if_false, not_false_eq_true, not_true_eq_false, false_implies, true_implies, Nat.reduceEqDiff, Nat.reduceAdd, Nat.reduceLT, Nat.reduceLeDiff, reduceIte, e_iff (c1 := fun x => x = 0) (x := 1) (by decide), zM0, e0, N0, q1]
    refine ⟨K, T, D, C, I, S, tr, r, rfl, hmd, hok, hN, hr, ?_⟩
    simp -implicitDefEqProofs only [e_cut, e_iload, e_aload, e_istore, e_astore, e_iinc, e_const, e_lconst, e_bin, e_bin0, e_un, e_ladd, e_dupi, e_dupr, e_dup2, e_pop, e_sw, e_sw0, e_sw1, e_get, e_put, e_ald, e_ast, e_aald, e_aast, e_copy, e_new, e_newa, e_anewa, e_min, e_abs, e_oinit, e_callI, e_callV, e_callS, e_iret, e_zret, e_lret, e_vret, e_tl1, e_tl0, e_tl2, e_tl3, z10, Bool.false_eq_true, e_argi, e_argr, e_argn, zld_c, zst_n, zst_c, zpick_n, zpick_c, List.drop_succ_cons, List.drop_zero, List.take_succ_cons, List.take_zero, List.length_cons, List.length_nil, List.reverse_cons, List.reverse_nil, List.nil_append, List.cons_append, List.append_nil, List.getElem?_cons_zero, List.getElem?_cons_succ, List.set_cons_zero, List.set_cons_succ, Nat.add_sub_cancel_left, Nat.sub_self, Nat.add_zero, Nat.zero_add, Nat.le_add_right, Nat.le_refl, true_and, and_true, va_rf, zok, Nat.add_left_cancel_iff, Nat.add_eq_left, Nat.left_eq_add, eq_self, if_true, if_false, not_false_eq_true, not_true_eq_false, false_implies, true_implies, Nat.reduceEqDiff, Nat.reduceAdd, Nat.reduceLT, Nat.reduceLeDiff, reduceIte]
    exact hP
  · rw [if_neg q1] at hP
    simp -implicitDefEqProofs only [e_cut, e_iload, e_aload, e_istore, e_astore, e_iinc, e_const, e_lconst, e_bin, e_bin0, e_un, e_ladd, e_dupi, e_dupr, e_dup2, e_pop, e_sw, e_sw0, e_sw1, e_get, e_put, e_ald, e_ast, e_aald, e_aast, e_copy, e_new, e_newa, e_anewa, e_min, e_abs, e_oinit, e_callI, e_callV, e_callS, e_iret, e_zret, e_lret, e_vret, e_tl1, e_tl0, e_tl2, e_tl3, z10, Bool.false_eq_true, e_argi, e_argr, e_argn, zld_c, zst_n, zst_c, zpick_n, zpick_c, List.drop_succ_cons, List.drop_zero, List.take_succ_cons, List.take_zero, List.length_cons, List.length_nil, List.reverse_cons, List.reverse_nil, List.nil_append, List.cons_append, List.append_nil, List.getElem?_cons_zero, List.getElem?_cons_succ, List.set_cons_zero, List.set_cons_succ, Nat.add_sub_cancel_left, Nat.sub_self, Nat.add_zero, Nat.zero_add, Nat.le_add_right, Nat.le_refl, true_and, and_true, va_rf, zok, Nat.add_left_cancel_iff, Nat.add_eq_left, Nat.left_eq_add, eq_self, if_true, if_false, not_false_eq_true, not_true_eq_false, false_implies, true_implies, Nat.reduceEqDiff, Nat.reduceAdd, Nat.reduceLT, Nat.reduceLeDiff, reduceIte, e_ift (c1 := fun x => x = 0) (x := 0) rfl, q1]
    exact hP
set_option maxRecDepth 100000 in
set_option maxHeartbeats 4000000 in
theorem S_X6_laws_17 {p : Program} {e : Env} {s : State} {m : MethodId} {args : Array Value} {below : List Frame} {meth : Method} {c : Code} {D : va_G} {cy : zY} {b n0 : Nat} {P : zPo} (la : Launch) (X : zX p la e (rm_X6_laws) s m args below meth c 2 D cy b n0 cX6_laws wsX6_laws RX6) (hr : meth.sig.returnType = (some .int)) (h_X6_isRider : zMet la yX6_isRider wsX6_isRider rm_X6_isRider 0 0 sp_X6_isRider) (h_X6_lawsOf : zMet la yX6_lawsOf wsX6_lawsOf rm_X6_lawsOf 0 0 sp_X6_lawsOf) : zS p la e (rm_X6_laws) s m args below meth c (MQ below (zQ D b (n0 + 0) P) args s 0 0 (fun q => b ≤ q)) 2 D b n0 17 (B_X6_laws_17 b n0 cy P (zAt p la e (rm_X6_laws) s m args below meth c (MQ below (zQ D b (n0 + 0) P) args s 0 0 (fun q => b ≤ q)) 2 D b n0)) := by
  unfold B_X6_laws_17
  exact (s_iret X dX6_laws_17 hr)
set_option maxRecDepth 100000 in
set_option maxHeartbeats 4000000 in
theorem S_X6_laws_0 {p : Program} {e : Env} {s : State} {m : MethodId} {args : Array Value} {below : List Frame} {meth : Method} {c : Code} {D : va_G} {cy : zY} {b n0 : Nat} {P : zPo} (la : Launch) (X : zX p la e (rm_X6_laws) s m args below meth c 2 D cy b n0 cX6_laws wsX6_laws RX6) (hr : meth.sig.returnType = (some .int)) (h_X6_isRider : zMet la yX6_isRider wsX6_isRider rm_X6_isRider 0 0 sp_X6_isRider) (h_X6_lawsOf : zMet la yX6_lawsOf wsX6_lawsOf rm_X6_lawsOf 0 0 sp_X6_lawsOf) : zS p la e (rm_X6_laws) s m args below meth c (MQ below (zQ D b (n0 + 0) P) args s 0 0 (fun q => b ≤ q)) 2 D b n0 0 (B_X6_laws_0 b n0 cy P (zAt p la e (rm_X6_laws) s m args below meth c (MQ below (zQ D b (n0 + 0) P) args s 0 0 (fun q => b ≤ q)) 2 D b n0)) := by
  unfold B_X6_laws_0
  exact (s_aload_n X dX6_laws_0 rfl (s_iload_n X dX6_laws_1 rfl (s_callV X h_X6_isRider dX6_laws_2 rfl gX6_laws_X6_isRider rfl rfl rfl (by decide +kernel) ⟨by decide, by decide⟩ (s_if_eq X dX6_laws_5 (by decide) (s_iconst X dX6_laws_16 (by decide) (S_X6_laws_17 la X hr h_X6_isRider h_X6_lawsOf)) (s_aload_n X dX6_laws_8 rfl (s_iload_n X dX6_laws_9 rfl (s_callV X h_X6_lawsOf dX6_laws_10 rfl gX6_laws_X6_lawsOf rfl rfl rfl (by decide +kernel) ⟨by decide, by decide⟩ (s_goto X dX6_laws_13 (by decide) (S_X6_laws_17 la X hr h_X6_isRider h_X6_lawsOf)))))))))
theorem w_X6_laws (la : Launch) (h_X6_isRider : zMet la yX6_isRider wsX6_isRider rm_X6_isRider 0 0 sp_X6_isRider) (h_X6_lawsOf : zMet la yX6_lawsOf wsX6_lawsOf rm_X6_lawsOf 0 0 sp_X6_lawsOf) (sp : zSp) (vc : zVC_X6_laws sp) : zMet la yX6_laws wsX6_laws (rm_X6_laws) 0 0 sp :=
  z_of (cc := cX6_laws) (maxL := 2) (ret := (some .int)) (by decide +kernel) rfl (fun p e s m args below meth c D cy b n as E P hsp X hr hin => by
    obtain ⟨h1, h2⟩ := vc b cy n as E P (zAt p la e (rm_X6_laws) s m args below meth c (MQ below (zQ D b (n + 0) P) args s 0 0 (fun q => b ≤ q)) 2 D b n) hsp
    exact ⟨h1, S_X6_laws_0 la X hr h_X6_isRider h_X6_lawsOf _ _ _ _ _ h2⟩)

theorem m_X6_laws (la : Launch) : zMet la yX6_laws wsX6_laws rm_X6_laws 0 0 sp_X6_laws := w_X6_laws la (m_X6_isRider la) (m_X6_lawsOf la) _ vc_X6_laws
def sp_X6_likely : zSp := fun b cy as N E P => zPM op_likely [] b cy as N E P
abbrev rm_X6_likely : Room := { frames := 5, cells := 0, slots := 0, locals := 138 }
def B_X6_likely_39 (b n0 : Nat) (cy : zY) (P : zPo) (A : Nat → zC) : zC :=
  z_bin (fun x y => x * y) (z_istore 1 (z_iinc 2 (1) (z_cut [0, 1, 2] (A 4))))
def B_X6_likely_4 (b n0 : Nat) (cy : zY) (P : zPo) (A : Nat → zC) : zC :=
  z_iload 2 (z_aload 0 (z_get b n0 6 3 (z_const (0) (z_ald b n0 (cy 1) (z_icmp (fun x y => y ≤ x) (z_iload 1 (z_iret 0 0 P)) (z_iload 1 (z_aload 0 (z_aload 0 (z_get b n0 6 14 (z_iload 2 (z_callV b n0 0 0 cy 6 2 0 0 sp_X6_isAboard (z_if (fun x => x = 0) (z_const (1) (B_X6_likely_39 b n0 cy P A)) (z_aload 0 (z_iload 2 (z_callV b n0 0 0 cy 6 1 0 0 sp_X6_lawsOf (z_callS b n0 0 0 cy 1 0 0 sp_X6_manyOf (B_X6_likely_39 b n0 cy P A)))))))))))))))))
def B_X6_likely_0 (b n0 : Nat) (cy : zY) (P : zPo) (A : Nat → zC) : zC :=
  z_const (1) (z_istore 1 (z_const (0) (z_istore 2 (z_cut [0, 1, 2] (A 4)))))
def zVC_X6_likely (sp : zSp) : Prop := ∀ (b : Nat) (cy : zY) (n : Nat) (as : List Value) (E : zE) (P : zPo) (A : Nat → zC), (∀ l st k u E, B_X6_likely_4 b n cy P A l st k u E → A 4 l st k u E) → sp b cy as n E P → zgood as 3 ∧ B_X6_likely_0 b n cy P A (lv_args 0 as) [] 0 0 E

set_option maxRecDepth 100000 in
set_option maxHeartbeats 4000000 in
theorem vc_X6_likely : zVC_X6_likely sp_X6_likely := by
  intro b cy N as E P A hA hsp
  obtain ⟨K, ⟨T, D, C, I, S, tr⟩, rfl, hmd, hok, hK, hN, hP⟩ := hsp
  refine ⟨⟨Nat.le_of_ble_eq_true rfl, zg1 rfl (zg0)⟩, ?_⟩
  have N0 : 159 < N := by omega
  have N6 : 166 < N := by omega
  obtain ⟨lt, q, st, so, va, fa, e0⟩ := hmd.o
  replace e0 : E 159 = zM0 b tr (nI T.1) lt q st so va fa (nI S.1) := e0
  have hR := hmd.mr hok hN
  obtain ⟨f, hW, hCa⟩ := hmd.wr
  have hE := hW.2.2.1
  obtain ⟨h8, h9⟩ : (∃ g : Nat → Int32, E 168 = .inl (cy 1, 52, .inl g)) ∧ (∃ g : Nat → Int32, E 169 = .inl (cy 1, 6, .inl g)) := by obtain ⟨_, _, _, _, _, _, _, _, _, a, c, _⟩ := hmd; exact ⟨a, c⟩
  obtain ⟨hn, hlo, _, _, _, ⟨hmk, hs99, hth, hm10, _⟩, _⟩ := id hok
  replace hn : D.1 ≤ 6 := hn
  obtain ⟨v0, v4, v10, v16⟩ := zCm0 hW.2.2.2
  have N1 : 161 < N := by omega
  obtain ⟨_, _, ⟨rf, r1, r2⟩, _⟩ := id hmd
  replace r1 : E 161 = .inl (cy 1, 2, .inl rf) := r1
  replace r2 : rf 0 = nI D.1 := r2
  have hin : vp_in 0 2 := (vp_in_nI (show 0 < 2 by omega) (by omega) : vp_in (nI 0) 2)
  have hcl : (0 : Int32).toNatClampNeg = 0 := by decide
  replace hP := hP E hmd (fun _ _ => rfl)
  simp only [op_likely] at hP
  generalize hg : (fun r => if (C.1 1).testBit r then zpop (zlaws D C S r) else 1) = g at hP
  have loop : ∀ (d k : Nat) (hd : d + k = D.1), A 4 [(0, .ref (b + 159)), (1, .int (nI (zprod g k))), (2, .int (nI k))] [] 0 0 E := by
    intro d
    induction d with
    | zero =>
      intro k hd
      obtain rfl : k = D.1 := by omega
      apply hA
      have cle : nI D.1 ≤ nI D.1 := nI_le (Nat.le_refl _) (by omega)
      simp -implicitDefEqProofs only [B_X6_likely_4, e_cut, e_iload, e_aload, e_istore, e_astore, e_iinc, e_const, e_lconst, e_bin, e_bin0, e_un, e_ladd, e_dupi, e_dupr, e_dup2, e_pop, e_sw, e_sw0, e_sw1, e_get, e_put, e_ald, e_ast, e_aald, e_aast, e_copy, e_new, e_newa, e_anewa, e_min, e_abs, e_oinit, e_callI, e_callV, e_callS, e_iret, e_zret, e_lret, e_vret, e_tl1, e_tl0, e_tl2, e_tl3, z10, Bool.false_eq_true, e_argi, e_argr, e_argn, zld_c, zst_n, zst_c, zpick_n, zpick_c, List.drop_succ_cons, List.drop_zero, List.take_succ_cons, List.take_zero, List.length_cons, List.length_nil, List.reverse_cons, List.reverse_nil, List.nil_append, List.cons_append, List.append_nil, List.getElem?_cons_zero, List.getElem?_cons_succ, List.set_cons_zero, List.set_cons_succ, Nat.add_sub_cancel_left, Nat.sub_self, Nat.add_zero, Nat.zero_add, Nat.le_add_right, Nat.le_refl, true_and, and_true, va_rf, zok, Nat.add_left_cancel_iff, Nat.add_eq_left, Nat.left_eq_add, eq_self, if_true, if_false, not_false_eq_true, not_true_eq_false, false_implies, true_implies, Nat.reduceEqDiff, Nat.reduceAdd, Nat.reduceLT, Nat.reduceLeDiff, reduceIte, e_icmpt (c2 := fun x y => y ≤ x) cle, zM0, e0, N0, N1, r1, r2, hin, hcl]
      exact hP
    | succ d ih =>
      intro k hd
      have hk : k < D.1 := by omega
      apply hA
      have cle : ¬ nI D.1 ≤ nI k := nI_ge hk (by omega)
      have h9 := ih (k + 1) (by omega)
      rw [zprod] at h9
      simp -implicitDefEqProofs only [B_X6_likely_4, e_cut, e_iload, e_aload, e_istore, e_astore, e_iinc, e_const, e_lconst, e_bin, e_bin0, e_un, e_ladd, e_dupi, e_dupr, e_dup2, e_pop, e_sw, e_sw0, e_sw1, e_get, e_put, e_ald, e_ast, e_aald, e_aast, e_copy, e_new, e_newa, e_anewa, e_min, e_abs, e_oinit, e_callI, e_callV, e_callS, e_iret, e_zret, e_lret, e_vret, e_tl1, e_tl0, e_tl2, e_tl3, z10, Bool.false_eq_true, e_argi, e_argr, e_argn, zld_c, zst_n, zst_c, zpick_n, zpick_c, List.drop_succ_cons, List.drop_zero, List.take_succ_cons, List.take_zero, List.length_cons, List.length_nil, List.reverse_cons, List.reverse_nil, List.nil_append, List.cons_append, List.append_nil, List.getElem?_cons_zero, List.getElem?_cons_succ, List.set_cons_zero, List.set_cons_succ, Nat.add_sub_cancel_left, Nat.sub_self, Nat.add_zero, Nat.zero_add, Nat.le_add_right, Nat.le_refl, true_and, and_true, va_rf, zok, Nat.add_left_cancel_iff, Nat.add_eq_left, Nat.left_eq_add, eq_self, if_true, if_false, not_false_eq_true, not_true_eq_false, false_implies, true_implies, Nat.reduceEqDiff, Nat.reduceAdd, Nat.reduceLT, Nat.reduceLeDiff, reduceIte, e_icmpf (c2 := fun x y => y ≤ x) cle, zM0, e0, N0, N1, r1, r2, hin, hcl]
      refine ⟨166, k, D.1, C.1, rfl, hW.ar, N6, by omega, hmk.l64, ?_⟩
      by_cases q1 : (C.1 1).testBit k = true
      · have e : g k = zpop (zlaws D C S k) := by rw [← hg]; simp [q1]
        rw [e] at h9
        simp -implicitDefEqProofs only [e_cut, e_iload, e_aload, e_istore, e_astore, e_iinc, e_const, e_lconst, e_bin, e_bin0, e_un, e_ladd, e_dupi, e_dupr, e_dup2, e_pop, e_sw, e_sw0, e_sw1, e_get, e_put, e_ald, e_ast, e_aald, e_aast, e_copy, e_new, e_newa, e_anewa, e_min, e_abs, e_oinit, e_callI, e_callV, e_callS, e_iret, e_zret, e_lret, e_vret, e_tl1, e_tl0, e_tl2, e_tl3, z10, Bool.false_eq_true, e_argi, e_argr, e_argn, zld_c, zst_n, zst_c, zpick_n, zpick_c, List.drop_succ_cons, List.drop_zero, List.take_succ_cons, List.take_zero, List.length_cons, List.length_nil, List.reverse_cons, List.reverse_nil, List.nil_append, List.cons_append, List.append_nil, List.getElem?_cons_zero, List.getElem?_cons_succ, List.set_cons_zero, List.set_cons_succ, Nat.add_sub_cancel_left, Nat.sub_self, Nat.add_zero, Nat.zero_add, Nat.le_add_right, Nat.le_refl, true_and, and_true, va_rf, zok, Nat.add_left_cancel_iff, Nat.add_eq_left, Nat.left_eq_add, eq_self, if_true, if_false, not_false_eq_true, not_true_eq_false, false_implies, true_implies, Nat.reduceEqDiff, Nat.reduceAdd, Nat.reduceLT, Nat.reduceLeDiff, reduceIte, q1, e_iff (c1 := fun x => x = 0) (x := 1) (by decide), zM0, e0, N0]
        refine ⟨K, T, D, C, I, S, tr, k, rfl, hmd, hok, hN, hk, ?_⟩
        simp -implicitDefEqProofs only [e_cut, e_iload, e_aload, e_istore, e_astore, e_iinc, e_const, e_lconst, e_bin, e_bin0, e_un, e_ladd, e_dupi, e_dupr, e_dup2, e_pop, e_sw, e_sw0, e_sw1, e_get, e_put, e_ald, e_ast, e_aald, e_aast, e_copy, e_new, e_newa, e_anewa, e_min, e_abs, e_oinit, e_callI, e_callV, e_callS, e_iret, e_zret, e_lret, e_vret, e_tl1, e_tl0, e_tl2, e_tl3, z10, Bool.false_eq_true, e_argi, e_argr, e_argn, zld_c, zst_n, zst_c, zpick_n, zpick_c, List.drop_succ_cons, List.drop_zero, List.take_succ_cons, List.take_zero, List.length_cons, List.length_nil, List.reverse_cons, List.reverse_nil, List.nil_append, List.cons_append, List.append_nil, List.getElem?_cons_zero, List.getElem?_cons_succ, List.set_cons_zero, List.set_cons_succ, Nat.add_sub_cancel_left, Nat.sub_self, Nat.add_zero, Nat.zero_add, Nat.le_add_right, Nat.le_refl, true_and, and_true, va_rf, zok, Nat.add_left_cancel_iff, Nat.add_eq_left, Nat.left_eq_add, eq_self, if_true, if_false, not_false_eq_true, not_true_eq_false, false_implies, true_implies, Nat.reduceEqDiff, Nat.reduceAdd, Nat.reduceLT, Nat.reduceLeDiff, reduceIte]
        refine ⟨_, rfl, zlw_lt 3 (by omega), ?_⟩
        simp -implicitDefEqProofs only [e_cut, e_iload, e_aload, e_istore, e_astore, e_iinc, e_const, e_lconst, e_bin, e_bin0, e_un, e_ladd, e_dupi, e_dupr, e_dup2, e_pop, e_sw, e_sw0, e_sw1, e_get, e_put, e_ald, e_ast, e_aald, e_aast, e_copy, e_new, e_newa, e_anewa, e_min, e_abs, e_oinit, e_callI, e_callV, e_callS, e_iret, e_zret, e_lret, e_vret, e_tl1, e_tl0, e_tl2, e_tl3, z10, Bool.false_eq_true, e_argi, e_argr, e_argn, zld_c, zst_n, zst_c, zpick_n, zpick_c, List.drop_succ_cons, List.drop_zero, List.take_succ_cons, List.take_zero, List.length_cons, List.length_nil, List.reverse_cons, List.reverse_nil, List.nil_append, List.cons_append, List.append_nil, List.getElem?_cons_zero, List.getElem?_cons_succ, List.set_cons_zero, List.set_cons_succ, Nat.add_sub_cancel_left, Nat.sub_self, Nat.add_zero, Nat.zero_add, Nat.le_add_right, Nat.le_refl, true_and, and_true, va_rf, zok, Nat.add_left_cancel_iff, Nat.add_eq_left, Nat.left_eq_add, eq_self, if_true, if_false, not_false_eq_true, not_true_eq_false, false_implies, true_implies, Nat.reduceEqDiff, Nat.reduceAdd, Nat.reduceLT, Nat.reduceLeDiff, reduceIte, B_X6_likely_39, pk_mul, nI_1]
        exact h9
      · have e : g k = 1 := by rw [← hg]; simp [q1]
        rw [e] at h9
        have m1 : nI (zprod g k) * 1 = nI (zprod g k * 1) := pk_mul _ 1
        simp -implicitDefEqProofs only [e_cut, e_iload, e_aload, e_istore, e_astore, e_iinc, e_const, e_lconst, e_bin, e_bin0, e_un, e_ladd, e_dupi, e_dupr, e_dup2, e_pop, e_sw, e_sw0, e_sw1, e_get, e_put, e_ald, e_ast, e_aald, e_aast, e_copy, e_new, e_newa, e_anewa, e_min, e_abs, e_oinit, e_callI, e_callV, e_callS, e_iret, e_zret, e_lret, e_vret, e_tl1, e_tl0, e_tl2, e_tl3, z10, Bool.false_eq_true, e_argi, e_argr, e_argn, zld_c, zst_n, zst_c, zpick_n, zpick_c, List.drop_succ_cons, List.drop_zero, List.take_succ_cons, List.take_zero, List.length_cons, List.length_nil, List.reverse_cons, List.reverse_nil, List.nil_append, List.cons_append, List.append_nil, List.getElem?_cons_zero, List.getElem?_cons_succ, List.set_cons_zero, List.set_cons_succ, Nat.add_sub_cancel_left, Nat.sub_self, Nat.add_zero, Nat.zero_add, Nat.le_add_right, Nat.le_refl, true_and, and_true, va_rf, zok, Nat.add_left_cancel_iff, Nat.add_eq_left, Nat.left_eq_add, eq_self, if_true, if_false, not_false_eq_true, not_true_eq_false, false_implies, true_implies, Nat.reduceEqDiff, Nat.reduceAdd, Nat.reduceLT, Nat.reduceLeDiff, reduceIte, q1, e_ift (c1 := fun x => x = 0) (x := 0) rfl, B_X6_likely_39, m1, nI_1]
        exact h9
  simp -implicitDefEqProofs only [B_X6_likely_0, e_cut, e_iload, e_aload, e_istore, e_astore, e_iinc, e_const, e_lconst, e_bin, e_bin0, e_un, e_ladd, e_dupi, e_dupr, e_dup2, e_pop, e_sw, e_sw0, e_sw1, e_get, e_put, e_ald, e_ast, e_aald, e_aast, e_copy, e_new, e_newa, e_anewa, e_min, e_abs, e_oinit, e_callI, e_callV, e_callS, e_iret, e_zret, e_lret, e_vret, e_tl1, e_tl0, e_tl2, e_tl3, z10, Bool.false_eq_true, e_argi, e_argr, e_argn, zld_c, zst_n, zst_c, zpick_n, zpick_c, List.drop_succ_cons, List.drop_zero, List.take_succ_cons, List.take_zero, List.length_cons, List.length_nil, List.reverse_cons, List.reverse_nil, List.nil_append, List.cons_append, List.append_nil, List.getElem?_cons_zero, List.getElem?_cons_succ, List.set_cons_zero, List.set_cons_succ, Nat.add_sub_cancel_left, Nat.sub_self, Nat.add_zero, Nat.zero_add, Nat.le_add_right, Nat.le_refl, true_and, and_true, va_rf, zok, Nat.add_left_cancel_iff, Nat.add_eq_left, Nat.left_eq_add, eq_self, if_true, if_false, not_false_eq_true, not_true_eq_false, false_implies, true_implies, Nat.reduceEqDiff, Nat.reduceAdd, Nat.reduceLT, Nat.reduceLeDiff, reduceIte]
  exact loop D.1 0 rfl
set_option maxRecDepth 20000 in
theorem f_X6_likely_13 : Cond.fieldLink RX6 13 (TX6 3).1 (TX6 3).2.1 (TX6 3).2.2.1 ∈ wsX6_likely := by decide +kernel
set_option maxRecDepth 20000 in
theorem k_X6_likely_6 : ∀ w ∈ u_ws RX6 TX6 21, w ∈ wsX6_likely := fun _ h => List.mem_cons_of_mem _ (List.mem_append_right _ h)
set_option maxRecDepth 20000 in
theorem f_X6_likely_29 : Cond.fieldLink RX6 29 (TX6 14).1 (TX6 14).2.1 (TX6 14).2.2.1 ∈ wsX6_likely := by decide +kernel
set_option maxRecDepth 100000 in
set_option maxHeartbeats 4000000 in
theorem S_X6_likely_39 {p : Program} {e : Env} {s : State} {m : MethodId} {args : Array Value} {below : List Frame} {meth : Method} {c : Code} {D : va_G} {cy : zY} {b n0 : Nat} {P : zPo} (la : Launch) (X : zX p la e (rm_X6_likely) s m args below meth c 3 D cy b n0 cX6_likely wsX6_likely RX6) (hr : meth.sig.returnType = (some .int)) (h_X6_isAboard : zMet la yX6_isAboard wsX6_isAboard rm_X6_isAboard 0 0 sp_X6_isAboard) (h_X6_lawsOf : zMet la yX6_lawsOf wsX6_lawsOf rm_X6_lawsOf 0 0 sp_X6_lawsOf) (h_X6_manyOf : zMet la yX6_manyOf wsX6_manyOf rm_X6_manyOf 0 0 sp_X6_manyOf) : zS p la e (rm_X6_likely) s m args below meth c (MQ below (zQ D b (n0 + 0) P) args s 0 0 (fun q => b ≤ q)) 3 D b n0 39 (B_X6_likely_39 b n0 cy P (zAt p la e (rm_X6_likely) s m args below meth c (MQ below (zQ D b (n0 + 0) P) args s 0 0 (fun q => b ≤ q)) 3 D b n0)) := by
  unfold B_X6_likely_39
  exact (s_imul X dX6_likely_39 (s_istore_n X dX6_likely_40 rfl (by decide) (s_iinc X dX6_likely_41 (by decide) (by decide) (s_goto X dX6_likely_44 (by decide) (s_cut (by decide) zS_at)))))
set_option maxRecDepth 100000 in
set_option maxHeartbeats 4000000 in
theorem S_X6_likely_4 {p : Program} {e : Env} {s : State} {m : MethodId} {args : Array Value} {below : List Frame} {meth : Method} {c : Code} {D : va_G} {cy : zY} {b n0 : Nat} {P : zPo} (la : Launch) (X : zX p la e (rm_X6_likely) s m args below meth c 3 D cy b n0 cX6_likely wsX6_likely RX6) (hr : meth.sig.returnType = (some .int)) (h_X6_isAboard : zMet la yX6_isAboard wsX6_isAboard rm_X6_isAboard 0 0 sp_X6_isAboard) (h_X6_lawsOf : zMet la yX6_lawsOf wsX6_lawsOf rm_X6_lawsOf 0 0 sp_X6_lawsOf) (h_X6_manyOf : zMet la yX6_manyOf wsX6_manyOf rm_X6_manyOf 0 0 sp_X6_manyOf) : zS p la e (rm_X6_likely) s m args below meth c (MQ below (zQ D b (n0 + 0) P) args s 0 0 (fun q => b ≤ q)) 3 D b n0 4 (B_X6_likely_4 b n0 cy P (zAt p la e (rm_X6_likely) s m args below meth c (MQ below (zQ D b (n0 + 0) P) args s 0 0 (fun q => b ≤ q)) 3 D b n0)) := by
  unfold B_X6_likely_4
  exact (s_iload_n X dX6_likely_4 rfl (s_aload_n X dX6_likely_5 rfl (s_get X dX6_likely_6 rfl k_X6_likely_6 (by decide) f_X6_likely_13 (s_iconst X dX6_likely_9 (by decide) (s_iald X dX6_likely_10 (s_icmp_ge X dX6_likely_11 (by decide) (s_iload_n X dX6_likely_47 rfl (s_iret X dX6_likely_48 hr)) (s_iload_n X dX6_likely_14 rfl (s_aload_n X dX6_likely_15 rfl (s_aload_n X dX6_likely_16 rfl (s_get X dX6_likely_17 rfl k_X6_likely_6 (by decide) f_X6_likely_29 (s_iload_n X dX6_likely_20 rfl (s_callV X h_X6_isAboard dX6_likely_21 rfl gX6_likely_X6_isAboard rfl rfl rfl (by decide +kernel) ⟨by decide, by decide⟩ (s_if_eq X dX6_likely_24 (by decide) (s_iconst X dX6_likely_38 (by decide) (S_X6_likely_39 la X hr h_X6_isAboard h_X6_lawsOf h_X6_manyOf)) (s_aload_n X dX6_likely_27 rfl (s_iload_n X dX6_likely_28 rfl (s_callV X h_X6_lawsOf dX6_likely_29 rfl gX6_likely_X6_lawsOf rfl rfl rfl (by decide +kernel) ⟨by decide, by decide⟩ (s_callS X h_X6_manyOf dX6_likely_32 gX6_likely_X6_manyOf rfl rfl rfl (by decide +kernel) ⟨by decide, by decide⟩ (s_goto X dX6_likely_35 (by decide) (S_X6_likely_39 la X hr h_X6_isAboard h_X6_lawsOf h_X6_manyOf)))))))))))))))))))
set_option maxRecDepth 100000 in
set_option maxHeartbeats 4000000 in
theorem S_X6_likely_0 {p : Program} {e : Env} {s : State} {m : MethodId} {args : Array Value} {below : List Frame} {meth : Method} {c : Code} {D : va_G} {cy : zY} {b n0 : Nat} {P : zPo} (la : Launch) (X : zX p la e (rm_X6_likely) s m args below meth c 3 D cy b n0 cX6_likely wsX6_likely RX6) (hr : meth.sig.returnType = (some .int)) (h_X6_isAboard : zMet la yX6_isAboard wsX6_isAboard rm_X6_isAboard 0 0 sp_X6_isAboard) (h_X6_lawsOf : zMet la yX6_lawsOf wsX6_lawsOf rm_X6_lawsOf 0 0 sp_X6_lawsOf) (h_X6_manyOf : zMet la yX6_manyOf wsX6_manyOf rm_X6_manyOf 0 0 sp_X6_manyOf) : zS p la e (rm_X6_likely) s m args below meth c (MQ below (zQ D b (n0 + 0) P) args s 0 0 (fun q => b ≤ q)) 3 D b n0 0 (B_X6_likely_0 b n0 cy P (zAt p la e (rm_X6_likely) s m args below meth c (MQ below (zQ D b (n0 + 0) P) args s 0 0 (fun q => b ≤ q)) 3 D b n0)) := by
  unfold B_X6_likely_0
  exact (s_iconst X dX6_likely_0 (by decide) (s_istore_n X dX6_likely_1 rfl (by decide) (s_iconst X dX6_likely_2 (by decide) (s_istore_n X dX6_likely_3 rfl (by decide) (s_cut (by decide) zS_at)))))
theorem w_X6_likely (la : Launch) (h_X6_isAboard : zMet la yX6_isAboard wsX6_isAboard rm_X6_isAboard 0 0 sp_X6_isAboard) (h_X6_lawsOf : zMet la yX6_lawsOf wsX6_lawsOf rm_X6_lawsOf 0 0 sp_X6_lawsOf) (h_X6_manyOf : zMet la yX6_manyOf wsX6_manyOf rm_X6_manyOf 0 0 sp_X6_manyOf) (sp : zSp) (vc : zVC_X6_likely sp) : zMet la yX6_likely wsX6_likely (rm_X6_likely) 0 0 sp :=
  z_of (cc := cX6_likely) (maxL := 3) (ret := (some .int)) (by decide +kernel) rfl (fun p e s m args below meth c D cy b n as E P hsp X hr hin => by
    obtain ⟨h1, h2⟩ := vc b cy n as E P (zAt p la e (rm_X6_likely) s m args below meth c (MQ below (zQ D b (n + 0) P) args s 0 0 (fun q => b ≤ q)) 3 D b n) (fun _ _ _ _ _ q => S_X6_likely_4 la X hr h_X6_isAboard h_X6_lawsOf h_X6_manyOf _ _ _ _ _ q) hsp
    exact ⟨h1, S_X6_likely_0 la X hr h_X6_isAboard h_X6_lawsOf h_X6_manyOf _ _ _ _ _ h2⟩)

theorem m_X6_likely (la : Launch) : zMet la yX6_likely wsX6_likely rm_X6_likely 0 0 sp_X6_likely := w_X6_likely la (m_X6_isAboard la) (m_X6_lawsOf la) (m_X6_manyOf la) _ vc_X6_likely

