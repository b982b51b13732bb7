def zP2 (b : Nat) (cy : zY) (N : Nat) (E : zE) (n : Nat) (lo la : Nat → Nat) (c : Nat → Nat) : Prop := zP1 b cy N E n lo la 12 c ∧ E 11 = .inr (0, [.ref (b + 12), .ref (b + 16)])
def sp_J6_bitCount_0f7a4 : zSp := fun b cy as N E P => ∃ M : Nat, as = [.int (nI M)] ∧ M < 64 ∧ P (some (.int (nI (zsum (fun q => if M.testBit q then 1 else 0) 6)))) E
abbrev rm_J6_bitCount_0f7a4 : Room := { frames := 1, cells := 0, slots := 0, locals := 40 }
def B_J6_bitCount_0f7a4_0 (b n0 : Nat) (cy : zY) (P : zPo) (A : Nat → zC) : zC :=
  z_iload 0 (z_iload 0 (z_const (1) (z_bin (fun x y => (x.toUInt32 >>> (y.toUInt32 &&& Int32.toUInt32 31)).toInt32) (z_const (1431655765) (z_bin (fun x y => x &&& y) (z_bin (fun x y => x - y) (z_istore 0 (z_iload 0 (z_const (858993459) (z_bin (fun x y => x &&& y) (z_iload 0 (z_const (2) (z_bin (fun x y => (x.toUInt32 >>> (y.toUInt32 &&& Int32.toUInt32 31)).toInt32) (z_const (858993459) (z_bin (fun x y => x &&& y) (z_bin (fun x y => x + y) (z_istore 0 (z_iload 0 (z_iload 0 (z_const (4) (z_bin (fun x y => (x.toUInt32 >>> (y.toUInt32 &&& Int32.toUInt32 31)).toInt32) (z_bin (fun x y => x + y) (z_const (252645135) (z_bin (fun x y => x &&& y) (z_istore 0 (z_iload 0 (z_iload 0 (z_const (8) (z_bin (fun x y => (x.toUInt32 >>> (y.toUInt32 &&& Int32.toUInt32 31)).toInt32) (z_bin (fun x y => x + y) (z_istore 0 (z_iload 0 (z_iload 0 (z_const (16) (z_bin (fun x y => (x.toUInt32 >>> (y.toUInt32 &&& Int32.toUInt32 31)).toInt32) (z_bin (fun x y => x + y) (z_istore 0 (z_iload 0 (z_const (63) (z_bin (fun x y => x &&& y) (z_iret 0 0 P)))))))))))))))))))))))))))))))))))))))))
def zVC_J6_bitCount_0f7a4 (sp : zSp) : Prop := ∀ (b : Nat) (cy : zY) (n : Nat) (as : List Value) (E : zE) (P : zPo) (A : Nat → zC), sp b cy as n E P → zgood as 1 ∧ B_J6_bitCount_0f7a4_0 b n cy P A (lv_args 0 as) [] 0 0 E

def zbcE (x : Int32) : Int32 :=
  let a := x - ((x.toUInt32 >>> (Int32.toUInt32 1 &&& Int32.toUInt32 31)).toInt32 &&& 1431655765)
  let a := (a &&& 858993459) + ((a.toUInt32 >>> (Int32.toUInt32 2 &&& Int32.toUInt32 31)).toInt32 &&& 858993459)
  let a := (a + (a.toUInt32 >>> (Int32.toUInt32 4 &&& Int32.toUInt32 31)).toInt32) &&& 252645135
  let a := a + (a.toUInt32 >>> (Int32.toUInt32 8 &&& Int32.toUInt32 31)).toInt32
  let a := a + (a.toUInt32 >>> (Int32.toUInt32 16 &&& Int32.toUInt32 31)).toInt32
  a &&& 63
theorem zbc_all : ∀ M : Fin 64, zbcE (nI M.val) = nI (zsum (fun q => if M.val.testBit q then 1 else 0) 6) := by decide +kernel
set_option maxRecDepth 100000 in
set_option maxHeartbeats 4000000 in
theorem vc_J6_bitCount_0f7a4 : zVC_J6_bitCount_0f7a4 sp_J6_bitCount_0f7a4 := by
  intro b cy N as E P A hsp
  obtain ⟨M, rfl, hM, hP⟩ := hsp
  refine ⟨⟨Nat.le_of_ble_eq_true rfl, zg1 rfl (zg0)⟩, ?_⟩
  simp only [B_J6_bitCount_0f7a4_0, e_cut, e_iload, e_aload, e_istore, e_astore, e_iinc, e_const, e_lconst, e_bin, e_bin0, e_un, e_ladd, e_dupi, e_dupr, e_dup2, e_pop, e_if, e_icmp, e_sw, e_sw0, e_sw1, e_get, e_put, e_ald, e_ast, e_aald, e_aast, e_copy, e_new, e_newa, e_anewa, e_min, e_abs, e_oinit, e_callI, e_callV, e_callS, e_iret, e_zret, e_lret, e_vret, e_tl1, e_tl0, e_tl2, e_tl3, z10, Bool.false_eq_true, e_argi, e_argr, e_argn, zld_c, zst_n, zst_c, zpick_n, zpick_c, List.drop_succ_cons, List.drop_zero, List.take_succ_cons, List.take_zero, List.length_cons, List.length_nil, List.reverse_cons, List.reverse_nil, List.nil_append, List.cons_append, List.append_nil, List.getElem?_cons_zero, List.getElem?_cons_succ, List.set_cons_zero, List.set_cons_succ, Nat.add_sub_cancel_left, Nat.sub_self, Nat.add_zero, Nat.zero_add, Nat.le_add_right, Nat.le_refl, true_and, and_true, va_rf, zok, Nat.add_left_cancel_iff, Nat.add_eq_left, Nat.left_eq_add, eq_self, if_true, if_false, not_false_eq_true, not_true_eq_false, false_implies, true_implies, Nat.reduceEqDiff, Nat.reduceAdd, Nat.reduceLT, Nat.reduceLeDiff, reduceIte]
  have e := zbc_all ⟨M, hM⟩
  unfold zbcE at e
  rw [e]
  exact hP
set_option maxRecDepth 20000 in
theorem f_J6_bitCount_0f7a4_c265 : Cond.constant RJ6 265 (1431655765) ∈ wsJ6_bitCount_0f7a4 := by decide +kernel
set_option maxRecDepth 20000 in
theorem f_J6_bitCount_0f7a4_c266 : Cond.constant RJ6 266 (858993459) ∈ wsJ6_bitCount_0f7a4 := by decide +kernel
set_option maxRecDepth 20000 in
theorem f_J6_bitCount_0f7a4_c267 : Cond.constant RJ6 267 (252645135) ∈ wsJ6_bitCount_0f7a4 := by decide +kernel
set_option maxRecDepth 100000 in
set_option maxHeartbeats 4000000 in
theorem S_J6_bitCount_0f7a4_0 {p : Program} {e : Env} {s : State} {m : MethodId} {args : Array Value} {below : List Frame} {meth : Method} {c : Code} {D : va_G} {cy : zY} {b n0 : Nat} {P : zPo} (la : Launch) (X : zX p la e (rm_J6_bitCount_0f7a4) s m args below meth c 1 D cy b n0 cJ6_bitCount_0f7a4 wsJ6_bitCount_0f7a4 RJ6) (hr : meth.sig.returnType = (some .int)) : zS p la e (rm_J6_bitCount_0f7a4) s m args below meth c (MQ below (zQ D b (n0 + 0) P) args s 0 0 (fun q => b ≤ q)) 1 D b n0 0 (B_J6_bitCount_0f7a4_0 b n0 cy P (zAt p la e (rm_J6_bitCount_0f7a4) s m args below meth c (MQ below (zQ D b (n0 + 0) P) args s 0 0 (fun q => b ≤ q)) 1 D b n0)) := by
  unfold B_J6_bitCount_0f7a4_0
  exact (s_iload_n X dJ6_bitCount_0f7a4_0 rfl (s_iload_n X dJ6_bitCount_0f7a4_1 rfl (s_iconst X dJ6_bitCount_0f7a4_2 (by decide) (s_iushr X dJ6_bitCount_0f7a4_3 (s_ldcw X dJ6_bitCount_0f7a4_4 f_J6_bitCount_0f7a4_c265 (s_iand X dJ6_bitCount_0f7a4_7 (s_isub X dJ6_bitCount_0f7a4_8 (s_istore_n X dJ6_bitCount_0f7a4_9 rfl (by decide) (s_iload_n X dJ6_bitCount_0f7a4_10 rfl (s_ldcw X dJ6_bitCount_0f7a4_11 f_J6_bitCount_0f7a4_c266 (s_iand X dJ6_bitCount_0f7a4_14 (s_iload_n X dJ6_bitCount_0f7a4_15 rfl (s_iconst X dJ6_bitCount_0f7a4_16 (by decide) (s_iushr X dJ6_bitCount_0f7a4_17 (s_ldcw X dJ6_bitCount_0f7a4_18 f_J6_bitCount_0f7a4_c266 (s_iand X dJ6_bitCount_0f7a4_21 (s_iadd X dJ6_bitCount_0f7a4_22 (s_istore_n X dJ6_bitCount_0f7a4_23 rfl (by decide) (s_iload_n X dJ6_bitCount_0f7a4_24 rfl (s_iload_n X dJ6_bitCount_0f7a4_25 rfl (s_iconst X dJ6_bitCount_0f7a4_26 (by decide) (s_iushr X dJ6_bitCount_0f7a4_27 (s_iadd X dJ6_bitCount_0f7a4_28 (s_ldcw X dJ6_bitCount_0f7a4_29 f_J6_bitCount_0f7a4_c267 (s_iand X dJ6_bitCount_0f7a4_32 (s_istore_n X dJ6_bitCount_0f7a4_33 rfl (by decide) (s_iload_n X dJ6_bitCount_0f7a4_34 rfl (s_iload_n X dJ6_bitCount_0f7a4_35 rfl (s_bipush X dJ6_bitCount_0f7a4_36 (by decide) (s_iushr X dJ6_bitCount_0f7a4_38 (s_iadd X dJ6_bitCount_0f7a4_39 (s_istore_n X dJ6_bitCount_0f7a4_40 rfl (by decide) (s_iload_n X dJ6_bitCount_0f7a4_41 rfl (s_iload_n X dJ6_bitCount_0f7a4_42 rfl (s_bipush X dJ6_bitCount_0f7a4_43 (by decide) (s_iushr X dJ6_bitCount_0f7a4_45 (s_iadd X dJ6_bitCount_0f7a4_46 (s_istore_n X dJ6_bitCount_0f7a4_47 rfl (by decide) (s_iload_n X dJ6_bitCount_0f7a4_48 rfl (s_bipush X dJ6_bitCount_0f7a4_49 (by decide) (s_iand X dJ6_bitCount_0f7a4_51 (s_iret X dJ6_bitCount_0f7a4_52 hr))))))))))))))))))))))))))))))))))))))))))
theorem w_J6_bitCount_0f7a4 (la : Launch) (sp : zSp) (vc : zVC_J6_bitCount_0f7a4 sp) : zMet la yJ6_bitCount_0f7a4 wsJ6_bitCount_0f7a4 (rm_J6_bitCount_0f7a4) 0 0 sp :=
  z_of (cc := cJ6_bitCount_0f7a4) (maxL := 1) (ret := (some .int)) (by decide +kernel) rfl (fun p e s m args below meth c D cy b n as E P hsp X hr hin => by
    obtain ⟨h1, h2⟩ := vc b cy n as E P (zAt p la e (rm_J6_bitCount_0f7a4) s m args below meth c (MQ below (zQ D b (n + 0) P) args s 0 0 (fun q => b ≤ q)) 1 D b n) hsp
    exact ⟨h1, S_J6_bitCount_0f7a4_0 la X hr _ _ _ _ _ h2⟩)

theorem m_J6_bitCount_0f7a4 (la : Launch) : zMet la yJ6_bitCount_0f7a4 wsJ6_bitCount_0f7a4 rm_J6_bitCount_0f7a4 0 0 sp_J6_bitCount_0f7a4 := w_J6_bitCount_0f7a4 la _ vc_J6_bitCount_0f7a4
def sp_X5_lowestOf : zSp := fun b cy as N E P => ∃ M : Nat, as = [.int (nI M)] ∧ M < 64 ∧ P (some (.int (zrv (zfind (fun q => M.testBit q) 0 6)))) E
abbrev rm_X5_lowestOf : Room := { frames := 1, cells := 0, slots := 0, locals := 40 }
def B_X5_lowestOf_2 (b n0 : Nat) (cy : zY) (P : zPo) (A : Nat → zC) : zC :=
  z_iload 1 (z_const (6) (z_icmp (fun x y => y ≤ x) (z_const (-9) (z_iret 0 0 P)) (z_iload 0 (z_iload 1 (z_bin (fun x y => x >>> (y &&& 31)) (z_const (1) (z_bin (fun x y => x &&& y) (z_if (fun x => x = 0) (z_iinc 1 (1) (z_cut [0, 1] (A 2))) (z_iload 1 (z_iret 0 0 P))))))))))
def B_X5_lowestOf_0 (b n0 : Nat) (cy : zY) (P : zPo) (A : Nat → zC) : zC :=
  z_const (0) (z_istore 1 (z_cut [0, 1] (A 2)))
def zVC_X5_lowestOf (sp : zSp) : Prop := ∀ (b : Nat) (cy : zY) (n : Nat) (as : List Value) (E : zE) (P : zPo) (A : Nat → zC), (∀ l st k u E, B_X5_lowestOf_2 b n cy P A l st k u E → A 2 l st k u E) → sp b cy as n E P → zgood as 2 ∧ B_X5_lowestOf_0 b n cy P A (lv_args 0 as) [] 0 0 E

set_option maxRecDepth 100000 in
set_option maxHeartbeats 4000000 in
theorem vc_X5_lowestOf : zVC_X5_lowestOf sp_X5_lowestOf := by
  intro b cy N as E P A hA hsp
  obtain ⟨M, rfl, hM, hP⟩ := hsp
  refine ⟨⟨Nat.le_of_ble_eq_true rfl, zg1 rfl (zg0)⟩, ?_⟩
  have k6 : (6 : Int32) = nI 6 := rfl
  have loop : ∀ (t k : Nat) (hd : t + k = 6), P (some (.int (zrv (zfind (fun q => M.testBit q) k t)))) E → A 2 [(0, .int (nI M)), (1, .int (nI k))] [] 0 0 E := by
    intro t
    induction t with
    | zero =>
      intro k hd hP
      obtain rfl : k = 6 := by omega
      apply hA
      have cle : nI 6 ≤ nI 6 := nI_le (Nat.le_refl _) (by omega)
      simp only [B_X5_lowestOf_0, B_X5_lowestOf_2, e_cut, e_iload, e_aload, e_istore, e_astore, e_iinc, e_const, e_lconst, e_bin, e_bin0, e_un, e_ladd, e_dupi, e_dupr, e_dup2, e_pop, e_if, e_icmp, e_sw, e_sw0, e_sw1, e_get, e_put, e_ald, e_ast, e_aald, e_aast, e_copy, e_new, e_newa, e_anewa, e_min, e_abs, e_oinit, e_callI, e_callV, e_callS, e_iret, e_zret, e_lret, e_vret, e_tl1, e_tl0, e_tl2, e_tl3, z10, Bool.false_eq_true, e_argi, e_argr, e_argn, zld_c, zst_n, zst_c, zpick_n, zpick_c, List.drop_succ_cons, List.drop_zero, List.take_succ_cons, List.take_zero, List.length_cons, List.length_nil, List.reverse_cons, List.reverse_nil, List.nil_append, List.cons_append, List.append_nil, List.getElem?_cons_zero, List.getElem?_cons_succ, List.set_cons_zero, List.set_cons_succ, Nat.add_sub_cancel_left, Nat.sub_self, Nat.add_zero, Nat.zero_add, Nat.le_add_right, Nat.le_refl, true_and, and_true, va_rf, zok, Nat.add_left_cancel_iff, Nat.add_eq_left, Nat.left_eq_add, eq_self, if_true, if_false, not_false_eq_true, not_true_eq_false, false_implies, true_implies, Nat.reduceEqDiff, Nat.reduceAdd, Nat.reduceLT, Nat.reduceLeDiff, reduceIte, k6, cle]
      exact hP
    | succ t ih =>
      intro k hd hP
      have hk : k < 6 := by omega
      apply hA
      have cle : ¬ nI 6 ≤ nI k := nI_ge hk (by omega)
      rw [zfind] at hP
      by_cases q1 : M.testBit k = true
      · simp only [B_X5_lowestOf_0, B_X5_lowestOf_2, e_cut, e_iload, e_aload, e_istore, e_astore, e_iinc, e_const, e_lconst, e_bin, e_bin0, e_un, e_ladd, e_dupi, e_dupr, e_dup2, e_pop, e_if, e_icmp, e_sw, e_sw0, e_sw1, e_get, e_put, e_ald, e_ast, e_aald, e_aast, e_copy, e_new, e_newa, e_anewa, e_min, e_abs, e_oinit, e_callI, e_callV, e_callS, e_iret, e_zret, e_lret, e_vret, e_tl1, e_tl0, e_tl2, e_tl3, z10, Bool.false_eq_true, e_argi, e_argr, e_argn, zld_c, zst_n, zst_c, zpick_n, zpick_c, List.drop_succ_cons, List.drop_zero, List.take_succ_cons, List.take_zero, List.length_cons, List.length_nil, List.reverse_cons, List.reverse_nil, List.nil_append, List.cons_append, List.append_nil, List.getElem?_cons_zero, List.getElem?_cons_succ, List.set_cons_zero, List.set_cons_succ, Nat.add_sub_cancel_left, Nat.sub_self, Nat.add_zero, Nat.zero_add, Nat.le_add_right, Nat.le_refl, true_and, and_true, va_rf, zok, Nat.add_left_cancel_iff, Nat.add_eq_left, Nat.left_eq_add, eq_self, if_true, if_false, not_false_eq_true, not_true_eq_false, false_implies, true_implies, Nat.reduceEqDiff, Nat.reduceAdd, Nat.reduceLT, Nat.reduceLeDiff, reduceIte, k6, cle, zbit hM hk, q1]
        simp only [q1, if_true] at hP
        exact hP
      · simp only [B_X5_lowestOf_0, B_X5_lowestOf_2, e_cut, e_iload, e_aload, e_istore, e_astore, e_iinc, e_const, e_lconst, e_bin, e_bin0, e_un, e_ladd, e_dupi, e_dupr, e_dup2, e_pop, e_if, e_icmp, e_sw, e_sw0, e_sw1, e_get, e_put, e_ald, e_ast, e_aald, e_aast, e_copy, e_new, e_newa, e_anewa, e_min, e_abs, e_oinit, e_callI, e_callV, e_callS, e_iret, e_zret, e_lret, e_vret, e_tl1, e_tl0, e_tl2, e_tl3, z10, Bool.false_eq_true, e_argi, e_argr, e_argn, zld_c, zst_n, zst_c, zpick_n, zpick_c, List.drop_succ_cons, List.drop_zero, List.take_succ_cons, List.take_zero, List.length_cons, List.length_nil, List.reverse_cons, List.reverse_nil, List.nil_append, List.cons_append, List.append_nil, List.getElem?_cons_zero, List.getElem?_cons_succ, List.set_cons_zero, List.set_cons_succ, Nat.add_sub_cancel_left, Nat.sub_self, Nat.add_zero, Nat.zero_add, Nat.le_add_right, Nat.le_refl, true_and, and_true, va_rf, zok, Nat.add_left_cancel_iff, Nat.add_eq_left, Nat.left_eq_add, eq_self, if_true, if_false, not_false_eq_true, not_true_eq_false, false_implies, true_implies, Nat.reduceEqDiff, Nat.reduceAdd, Nat.reduceLT, Nat.reduceLeDiff, reduceIte, k6, cle, zbit hM hk, q1, nI_1]
        simp only [q1] at hP
        exact ih (k + 1) (by omega) hP
  simp only [B_X5_lowestOf_0, B_X5_lowestOf_2, e_cut, e_iload, e_aload, e_istore, e_astore, e_iinc, e_const, e_lconst, e_bin, e_bin0, e_un, e_ladd, e_dupi, e_dupr, e_dup2, e_pop, e_if, e_icmp, e_sw, e_sw0, e_sw1, e_get, e_put, e_ald, e_ast, e_aald, e_aast, e_copy, e_new, e_newa, e_anewa, e_min, e_abs, e_oinit, e_callI, e_callV, e_callS, e_iret, e_zret, e_lret, e_vret, e_tl1, e_tl0, e_tl2, e_tl3, z10, Bool.false_eq_true, e_argi, e_argr, e_argn, zld_c, zst_n, zst_c, zpick_n, zpick_c, List.drop_succ_cons, List.drop_zero, List.take_succ_cons, List.take_zero, List.length_cons, List.length_nil, List.reverse_cons, List.reverse_nil, List.nil_append, List.cons_append, List.append_nil, List.getElem?_cons_zero, List.getElem?_cons_succ, List.set_cons_zero, List.set_cons_succ, Nat.add_sub_cancel_left, Nat.sub_self, Nat.add_zero, Nat.zero_add, Nat.le_add_right, Nat.le_refl, true_and, and_true, va_rf, zok, Nat.add_left_cancel_iff, Nat.add_eq_left, Nat.left_eq_add, eq_self, if_true, if_false, not_false_eq_true, not_true_eq_false, false_implies, true_implies, Nat.reduceEqDiff, Nat.reduceAdd, Nat.reduceLT, Nat.reduceLeDiff, reduceIte]
  exact loop 6 0 rfl hP
set_option maxRecDepth 100000 in
set_option maxHeartbeats 4000000 in
theorem S_X5_lowestOf_2 {p : Program} {e : Env} {s : State} {m : MethodId} {args : Array Value} {below : List Frame} {meth : Method} {c : Code} {D : va_G} {cy : zY} {b n0 : Nat} {P : zPo} (la : Launch) (X : zX p la e (rm_X5_lowestOf) s m args below meth c 2 D cy b n0 cX5_lowestOf wsX5_lowestOf RX5) (hr : meth.sig.returnType = (some .int)) : zS p la e (rm_X5_lowestOf) s m args below meth c (MQ below (zQ D b (n0 + 0) P) args s 0 0 (fun q => b ≤ q)) 2 D b n0 2 (B_X5_lowestOf_2 b n0 cy P (zAt p la e (rm_X5_lowestOf) s m args below meth c (MQ below (zQ D b (n0 + 0) P) args s 0 0 (fun q => b ≤ q)) 2 D b n0)) := by
  unfold B_X5_lowestOf_2
  exact (s_iload_n X dX5_lowestOf_2 rfl (s_bipush X dX5_lowestOf_3 (by decide) (s_icmp_ge X dX5_lowestOf_5 (by decide) (s_bipush X dX5_lowestOf_24 (by decide) (s_iret X dX5_lowestOf_26 hr)) (s_iload_n X dX5_lowestOf_8 rfl (s_iload_n X dX5_lowestOf_9 rfl (s_ishr X dX5_lowestOf_10 (s_iconst X dX5_lowestOf_11 (by decide) (s_iand X dX5_lowestOf_12 (s_if_eq X dX5_lowestOf_13 (by decide) (s_iinc X dX5_lowestOf_18 (by decide) (by decide) (s_goto X dX5_lowestOf_21 (by decide) (s_cut (by decide) zS_at))) (s_iload_n X dX5_lowestOf_16 rfl (s_iret X dX5_lowestOf_17 hr)))))))))))
set_option maxRecDepth 100000 in
set_option maxHeartbeats 4000000 in
theorem S_X5_lowestOf_0 {p : Program} {e : Env} {s : State} {m : MethodId} {args : Array Value} {below : List Frame} {meth : Method} {c : Code} {D : va_G} {cy : zY} {b n0 : Nat} {P : zPo} (la : Launch) (X : zX p la e (rm_X5_lowestOf) s m args below meth c 2 D cy b n0 cX5_lowestOf wsX5_lowestOf RX5) (hr : meth.sig.returnType = (some .int)) : zS p la e (rm_X5_lowestOf) s m args below meth c (MQ below (zQ D b (n0 + 0) P) args s 0 0 (fun q => b ≤ q)) 2 D b n0 0 (B_X5_lowestOf_0 b n0 cy P (zAt p la e (rm_X5_lowestOf) s m args below meth c (MQ below (zQ D b (n0 + 0) P) args s 0 0 (fun q => b ≤ q)) 2 D b n0)) := by
  unfold B_X5_lowestOf_0
  exact (s_iconst X dX5_lowestOf_0 (by decide) (s_istore_n X dX5_lowestOf_1 rfl (by decide) (s_cut (by decide) zS_at)))
theorem w_X5_lowestOf (la : Launch) (sp : zSp) (vc : zVC_X5_lowestOf sp) : zMet la yX5_lowestOf wsX5_lowestOf (rm_X5_lowestOf) 0 0 sp :=
  z_of (cc := cX5_lowestOf) (maxL := 2) (ret := (some .int)) (by decide +kernel) rfl (fun p e s m args below meth c D cy b n as E P hsp X hr hin => by
    obtain ⟨h1, h2⟩ := vc b cy n as E P (zAt p la e (rm_X5_lowestOf) s m args below meth c (MQ below (zQ D b (n + 0) P) args s 0 0 (fun q => b ≤ q)) 2 D b n) (fun _ _ _ _ _ q => S_X5_lowestOf_2 la X hr _ _ _ _ _ q) hsp
    exact ⟨h1, S_X5_lowestOf_0 la X hr _ _ _ _ _ h2⟩)

theorem m_X5_lowestOf (la : Launch) : zMet la yX5_lowestOf wsX5_lowestOf rm_X5_lowestOf 0 0 sp_X5_lowestOf := w_X5_lowestOf la _ vc_X5_lowestOf
/-- where r's thinking comes to after t steps -/
def zit (n : Nat) (lo la c : Nat → Nat) (r : Nat) : Nat → Option Nat
  | 0 => some r
  | t + 1 => (zit n lo la c r t).bind (fun a => zwhom n lo c a (la a))
def zcm (n : Nat) (lo la c : Nat → Nat) (r : Nat) : Nat → Nat
  | 0 => 0
  | t + 1 => match zit n lo la c r (n + t) with | none => zcm n lo la c r t | some a => zset (zcm n lo la c r t) a
theorem zit_lt {n : Nat} {lo la c : Nat → Nat} {r : Nat} (hr : r < n) : ∀ {t a : Nat}, zit n lo la c r t = some a → a < n := by
  intro t
  cases t with
  | zero => intro a h; cases h; exact hr
  | succ t =>
    intro a h
    rw [zit] at h
    cases hz : zit n lo la c r t with
    | none => rw [hz] at h; cases h
    | some q => rw [hz] at h; exact (zwhom_lt h).1
theorem zit_none {n : Nat} {lo la c : Nat → Nat} {r : Nat} {t : Nat} (h : zit n lo la c r t = none) : ∀ d, zit n lo la c r (t + d) = none := by
  intro d
  induction d with
  | zero => exact h
  | succ d ih => rw [← Nat.add_assoc, zit, ih]; rfl
theorem zcm_none {n : Nat} {lo la c : Nat → Nat} {r : Nat} {t : Nat} (h : zit n lo la c r (n + t) = none) : ∀ d, zcm n lo la c r (t + d) = zcm n lo la c r t := by
  intro d
  induction d with
  | zero => rfl
  | succ d ih =>
    rw [← Nat.add_assoc, zcm]
    have e : n + (t + d) = n + t + d := by omega
    rw [e, zit_none h d]
    exact ih
theorem zcm_lt {n : Nat} {lo la c : Nat → Nat} {r : Nat} (hn : n ≤ 6) (hr : r < n) : ∀ t, zcm n lo la c r t < 64 := by
  intro t
  induction t with
  | zero => show (0 : Nat) < 64; omega
  | succ t ih =>
    rw [zcm]
    cases hz : zit n lo la c r (n + t) with
    | none => exact ih
    | some a => exact zset_lt ih (by have := zit_lt hr hz; omega)
def sp_X5_circleOf : zSp := fun b cy as N E P => ∃ (n : Nat) (lo la : Nat → Nat) (i : Nat) (c : Nat → Nat) (r : Nat), as = [.ref b, .ref (b + i), .int (nI r)] ∧ zP1 b cy N E n lo la i c ∧ r < n ∧ P (some (.int (nI (zcm n lo la c r n)))) E
abbrev rm_X5_circleOf : Room := { frames := 4, cells := 0, slots := 0, locals := 111 }
def B_X5_circleOf_99 (b n0 : Nat) (cy : zY) (P : zPo) (A : Nat → zC) : zC :=
  z_iload 4 (z_iret 0 0 P)
def B_X5_circleOf_51 (b n0 : Nat) (cy : zY) (P : zPo) (A : Nat → zC) : zC :=
  z_iload 5 (z_aload 0 (z_get b n0 5 1 (z_get b n0 4 0 (z_icmp (fun x y => y ≤ x) (B_X5_circleOf_99 b n0 cy P A) (z_iload 3 (z_const (-9) (z_icmp (fun x y => x = y) (B_X5_circleOf_99 b n0 cy P A) (z_iload 4 (z_const (1) (z_iload 3 (z_bin (fun x y => x <<< (y &&& 31)) (z_bin (fun x y => x ||| y) (z_istore 4 (z_aload 0 (z_aload 1 (z_iload 3 (z_aload 0 (z_get b n0 5 1 (z_get b n0 4 5 (z_iload 3 (z_ald b n0 (cy 1) (z_callV b n0 0 0 cy 5 3 0 0 sp_X5_whom (z_istore 3 (z_iinc 5 (1) (z_cut [0, 1, 3, 4, 5] (A 51))))))))))))))))))))))))))
def B_X5_circleOf_45 (b n0 : Nat) (cy : zY) (P : zPo) (A : Nat → zC) : zC :=
  z_const (0) (z_istore 4 (z_const (0) (z_istore 5 (z_cut [0, 1, 3, 4, 5] (A 51)))))
def B_X5_circleOf_5 (b n0 : Nat) (cy : zY) (P : zPo) (A : Nat → zC) : zC :=
  z_iload 4 (z_aload 0 (z_get b n0 5 1 (z_get b n0 4 0 (z_icmp (fun x y => y ≤ x) (B_X5_circleOf_45 b n0 cy P A) (z_iload 3 (z_const (-9) (z_icmp (fun x y => x = y) (B_X5_circleOf_45 b n0 cy P A) (z_aload 0 (z_aload 1 (z_iload 3 (z_aload 0 (z_get b n0 5 1 (z_get b n0 4 5 (z_iload 3 (z_ald b n0 (cy 1) (z_callV b n0 0 0 cy 5 3 0 0 sp_X5_whom (z_istore 3 (z_iinc 4 (1) (z_cut [0, 1, 3, 4] (A 5))))))))))))))))))))
def B_X5_circleOf_0 (b n0 : Nat) (cy : zY) (P : zPo) (A : Nat → zC) : zC :=
  z_iload 2 (z_istore 3 (z_const (0) (z_istore 4 (z_cut [0, 1, 3, 4] (A 5)))))
def zVC_X5_circleOf (sp : zSp) : Prop := ∀ (b : Nat) (cy : zY) (n : Nat) (as : List Value) (E : zE) (P : zPo) (A : Nat → zC), (∀ l st k u E, B_X5_circleOf_5 b n cy P A l st k u E → A 5 l st k u E) → (∀ l st k u E, B_X5_circleOf_51 b n cy P A l st k u E → A 51 l st k u E) → sp b cy as n E P → zgood as 6 ∧ B_X5_circleOf_0 b n cy P A (lv_args 0 as) [] 0 0 E

set_option maxRecDepth 100000 in
set_option maxHeartbeats 4000000 in
theorem vc_X5_circleOf : zVC_X5_circleOf sp_X5_circleOf := by
  intro b cy N as E P A hA5 hA51 hsp
  obtain ⟨n, lo, la, i, c, r, rfl, hp1, hr, hP⟩ := hsp
  refine ⟨⟨Nat.le_of_ble_eq_true rfl, zg1 rfl (zg1 rfl (zg1 rfl (zg0)))⟩, ?_⟩
  obtain ⟨⟨⟨kept, cnt, tr, e0⟩, ⟨seat, line, items, ⟨hn, tf, tg, th, h0, h1, h2, h3, htf, htg, hth⟩⟩, hlo⟩, hmo, hok, hi, hN⟩ := id hp1
  replace h3 : E 6 = .inl (cy 1, 6, .inl th) := h3
  have N0 : 0 < N := by omega
  have N3 : 3 < N := by omega
  have N6 : 6 < N := by omega
  have loop2 : ∀ (d t : Nat) (hd : d + t = n), A 51 [(0, .ref b), (1, .ref (b + i)), (3, .int (zrv (zit n lo la c r (n + t)))), (4, .int (nI (zcm n lo la c r t))), (5, .int (nI t))] [] 0 0 E := by
    intro d
    induction d with
    | zero =>
      intro t hd
      obtain rfl : t = n := by omega
      apply hA51
      have cle : nI t ≤ nI t := nI_le (Nat.le_refl _) (by omega)
      simp only [B_X5_circleOf_0, B_X5_circleOf_5, B_X5_circleOf_45, B_X5_circleOf_51, B_X5_circleOf_99, e_cut, e_iload, e_aload, e_istore, e_astore, e_iinc, e_const, e_lconst, e_bin, e_bin0, e_un, e_ladd, e_dupi, e_dupr, e_dup2, e_pop, e_if, e_icmp, e_sw, e_sw0, e_sw1, e_get, e_put, e_ald, e_ast, e_aald, e_aast, e_copy, e_new, e_newa, e_anewa, e_min, e_abs, e_oinit, e_callI, e_callV, e_callS, e_iret, e_zret, e_lret, e_vret, e_tl1, e_tl0, e_tl2, e_tl3, z10, Bool.false_eq_true, e_argi, e_argr, e_argn, zld_c, zst_n, zst_c, zpick_n, zpick_c, List.drop_succ_cons, List.drop_zero, List.take_succ_cons, List.take_zero, List.length_cons, List.length_nil, List.reverse_cons, List.reverse_nil, List.nil_append, List.cons_append, List.append_nil, List.getElem?_cons_zero, List.getElem?_cons_succ, List.set_cons_zero, List.set_cons_succ, Nat.add_sub_cancel_left, Nat.sub_self, Nat.add_zero, Nat.zero_add, Nat.le_add_right, Nat.le_refl, true_and, and_true, va_rf, zok, Nat.add_left_cancel_iff, Nat.add_eq_left, Nat.left_eq_add, eq_self, if_true, if_false, not_false_eq_true, not_true_eq_false, false_implies, true_implies, Nat.reduceEqDiff, Nat.reduceAdd, Nat.reduceLT, Nat.reduceLeDiff, reduceIte, zB0, e0, N0, N3, h0, cle]
      exact hP
    | succ d ih =>
      intro t hd
      have ht : t < n := by omega
      apply hA51
      have cle : ¬ nI n ≤ nI t := nI_ge ht (by omega)
      cases hz : zit n lo la c r (n + t) with
      | none =>
        simp only [B_X5_circleOf_0, B_X5_circleOf_5, B_X5_circleOf_45, B_X5_circleOf_51, B_X5_circleOf_99, e_cut, e_iload, e_aload, e_istore, e_astore, e_iinc, e_const, e_lconst, e_bin, e_bin0, e_un, e_ladd, e_dupi, e_dupr, e_dup2, e_pop, e_if, e_icmp, e_sw, e_sw0, e_sw1, e_get, e_put, e_ald, e_ast, e_aald, e_aast, e_copy, e_new, e_newa, e_anewa, e_min, e_abs, e_oinit, e_callI, e_callV, e_callS, e_iret, e_zret, e_lret, e_vret, e_tl1, e_tl0, e_tl2, e_tl3, z10, Bool.false_eq_true, e_argi, e_argr, e_argn, zld_c, zst_n, zst_c, zpick_n, zpick_c, List.drop_succ_cons, List.drop_zero, List.take_succ_cons, List.take_zero, List.length_cons, List.length_nil, List.reverse_cons, List.reverse_nil, List.nil_append, List.cons_append, List.append_nil, List.getElem?_cons_zero, List.getElem?_cons_succ, List.set_cons_zero, List.set_cons_succ, Nat.add_sub_cancel_left, Nat.sub_self, Nat.add_zero, Nat.zero_add, Nat.le_add_right, Nat.le_refl, true_and, and_true, va_rf, zok, Nat.add_left_cancel_iff, Nat.add_eq_left, Nat.left_eq_add, eq_self, if_true, if_false, not_false_eq_true, not_true_eq_false, false_implies, true_implies, Nat.reduceEqDiff, Nat.reduceAdd, Nat.reduceLT, Nat.reduceLeDiff, reduceIte, zB0, e0, N0, N3, h0, cle, zrv]
        have e : zcm n lo la c r n = zcm n lo la c r t := by
          have := zcm_none hz (n - t)
          rwa [Nat.add_sub_cancel' (by omega)] at this
        rw [e] at hP
        exact hP
      | some a =>
        have ha := zit_lt hr hz
        have ha6 : a < 6 := by omega
        have hin : vp_in (nI a) 6 := vp_in_nI ha6 (by omega)
        have hcl : (nI a).toNatClampNeg = a := nI_clamp (by omega)
        simp only [B_X5_circleOf_0, B_X5_circleOf_5, B_X5_circleOf_45, B_X5_circleOf_51, B_X5_circleOf_99, e_cut, e_iload, e_aload, e_istore, e_astore, e_iinc, e_const, e_lconst, e_bin, e_bin0, e_un, e_ladd, e_dupi, e_dupr, e_dup2, e_pop, e_if, e_icmp, e_sw, e_sw0, e_sw1, e_get, e_put, e_ald, e_ast, e_aald, e_aast, e_copy, e_new, e_newa, e_anewa, e_min, e_abs, e_oinit, e_callI, e_callV, e_callS, e_iret, e_zret, e_lret, e_vret, e_tl1, e_tl0, e_tl2, e_tl3, z10, Bool.false_eq_true, e_argi, e_argr, e_argn, zld_c, zst_n, zst_c, zpick_n, zpick_c, List.drop_succ_cons, List.drop_zero, List.take_succ_cons, List.take_zero, List.length_cons, List.length_nil, List.reverse_cons, List.reverse_nil, List.nil_append, List.cons_append, List.append_nil, List.getElem?_cons_zero, List.getElem?_cons_succ, List.set_cons_zero, List.set_cons_succ, Nat.add_sub_cancel_left, Nat.sub_self, Nat.add_zero, Nat.zero_add, Nat.le_add_right, Nat.le_refl, true_and, and_true, va_rf, zok, Nat.add_left_cancel_iff, Nat.add_eq_left, Nat.left_eq_add, eq_self, if_true, if_false, not_false_eq_true, not_true_eq_false, false_implies, true_implies, Nat.reduceEqDiff, Nat.reduceAdd, Nat.reduceLT, Nat.reduceLeDiff, reduceIte, zB0, e0, N0, N3, N6, h0, h3, cle, zrv, zrv_nn ha6, zset_i (zcm_lt hn hr t) ha6, hin, hcl, hth a ha]
        refine ⟨n, lo, la, i, c, a, la a, rfl, hp1, ha, (hlo a ha).2, ?_⟩
        simp only [e_cut, e_iload, e_aload, e_istore, e_astore, e_iinc, e_const, e_lconst, e_bin, e_bin0, e_un, e_ladd, e_dupi, e_dupr, e_dup2, e_pop, e_if, e_icmp, e_sw, e_sw0, e_sw1, e_get, e_put, e_ald, e_ast, e_aald, e_aast, e_copy, e_new, e_newa, e_anewa, e_min, e_abs, e_oinit, e_callI, e_callV, e_callS, e_iret, e_zret, e_lret, e_vret, e_tl1, e_tl0, e_tl2, e_tl3, z10, Bool.false_eq_true, e_argi, e_argr, e_argn, zld_c, zst_n, zst_c, zpick_n, zpick_c, List.drop_succ_cons, List.drop_zero, List.take_succ_cons, List.take_zero, List.length_cons, List.length_nil, List.reverse_cons, List.reverse_nil, List.nil_append, List.cons_append, List.append_nil, List.getElem?_cons_zero, List.getElem?_cons_succ, List.set_cons_zero, List.set_cons_succ, Nat.add_sub_cancel_left, Nat.sub_self, Nat.add_zero, Nat.zero_add, Nat.le_add_right, Nat.le_refl, true_and, and_true, va_rf, zok, Nat.add_left_cancel_iff, Nat.add_eq_left, Nat.left_eq_add, eq_self, if_true, if_false, not_false_eq_true, not_true_eq_false, false_implies, true_implies, Nat.reduceEqDiff, Nat.reduceAdd, Nat.reduceLT, Nat.reduceLeDiff, reduceIte, nI_1]
        have h9 := ih (t + 1) (by omega)
        have e1 : zit n lo la c r (n + (t + 1)) = zwhom n lo c a (la a) := by rw [← Nat.add_assoc, zit, hz]; rfl
        have e2 : zcm n lo la c r (t + 1) = zset (zcm n lo la c r t) a := by rw [zcm, hz]
        rw [e1, e2] at h9
        exact h9
  have fin : ∀ v, v = zrv (zit n lo la c r n) → B_X5_circleOf_45 b N cy P A [(0, .ref b), (1, .ref (b + i)), (2, .int (nI r)), (3, .int v), (4, .int 0)] [] 0 0 E → True := fun _ _ _ => trivial
  have loop1 : ∀ (d t : Nat) (hd : d + t = n), A 5 [(0, .ref b), (1, .ref (b + i)), (3, .int (zrv (zit n lo la c r t))), (4, .int (nI t))] [] 0 0 E := by
    intro d
    induction d with
    | zero =>
      intro t hd
      obtain rfl : t = n := by omega
      apply hA5
      have cle : nI t ≤ nI t := nI_le (Nat.le_refl _) (by omega)
      simp only [B_X5_circleOf_0, B_X5_circleOf_5, B_X5_circleOf_45, B_X5_circleOf_51, B_X5_circleOf_99, e_cut, e_iload, e_aload, e_istore, e_astore, e_iinc, e_const, e_lconst, e_bin, e_bin0, e_un, e_ladd, e_dupi, e_dupr, e_dup2, e_pop, e_if, e_icmp, e_sw, e_sw0, e_sw1, e_get, e_put, e_ald, e_ast, e_aald, e_aast, e_copy, e_new, e_newa, e_anewa, e_min, e_abs, e_oinit, e_callI, e_callV, e_callS, e_iret, e_zret, e_lret, e_vret, e_tl1, e_tl0, e_tl2, e_tl3, z10, Bool.false_eq_true, e_argi, e_argr, e_argn, zld_c, zst_n, zst_c, zpick_n, zpick_c, List.drop_succ_cons, List.drop_zero, List.take_succ_cons, List.take_zero, List.length_cons, List.length_nil, List.reverse_cons, List.reverse_nil, List.nil_append, List.cons_append, List.append_nil, List.getElem?_cons_zero, List.getElem?_cons_succ, List.set_cons_zero, List.set_cons_succ, Nat.add_sub_cancel_left, Nat.sub_self, Nat.add_zero, Nat.zero_add, Nat.le_add_right, Nat.le_refl, true_and, and_true, va_rf, zok, Nat.add_left_cancel_iff, Nat.add_eq_left, Nat.left_eq_add, eq_self, if_true, if_false, not_false_eq_true, not_true_eq_false, false_implies, true_implies, Nat.reduceEqDiff, Nat.reduceAdd, Nat.reduceLT, Nat.reduceLeDiff, reduceIte, zB0, e0, N0, N3, h0, cle]
      exact loop2 t 0 rfl
    | succ d ih =>
      intro t hd
      have ht : t < n := by omega
      apply hA5
      have cle : ¬ nI n ≤ nI t := nI_ge ht (by omega)
      cases hz : zit n lo la c r t with
      | none =>
        simp only [B_X5_circleOf_0, B_X5_circleOf_5, B_X5_circleOf_45, B_X5_circleOf_51, B_X5_circleOf_99, e_cut, e_iload, e_aload, e_istore, e_astore, e_iinc, e_const, e_lconst, e_bin, e_bin0, e_un, e_ladd, e_dupi, e_dupr, e_dup2, e_pop, e_if, e_icmp, e_sw, e_sw0, e_sw1, e_get, e_put, e_ald, e_ast, e_aald, e_aast, e_copy, e_new, e_newa, e_anewa, e_min, e_abs, e_oinit, e_callI, e_callV, e_callS, e_iret, e_zret, e_lret, e_vret, e_tl1, e_tl0, e_tl2, e_tl3, z10, Bool.false_eq_true, e_argi, e_argr, e_argn, zld_c, zst_n, zst_c, zpick_n, zpick_c, List.drop_succ_cons, List.drop_zero, List.take_succ_cons, List.take_zero, List.length_cons, List.length_nil, List.reverse_cons, List.reverse_nil, List.nil_append, List.cons_append, List.append_nil, List.getElem?_cons_zero, List.getElem?_cons_succ, List.set_cons_zero, List.set_cons_succ, Nat.add_sub_cancel_left, Nat.sub_self, Nat.add_zero, Nat.zero_add, Nat.le_add_right, Nat.le_refl, true_and, and_true, va_rf, zok, Nat.add_left_cancel_iff, Nat.add_eq_left, Nat.left_eq_add, eq_self, if_true, if_false, not_false_eq_true, not_true_eq_false, false_implies, true_implies, Nat.reduceEqDiff, Nat.reduceAdd, Nat.reduceLT, Nat.reduceLeDiff, reduceIte, zB0, e0, N0, N3, h0, cle, zrv]
        have h9 := loop2 n 0 rfl
        have e : zit n lo la c r (n + 0) = none := by
          have := zit_none hz (n - t)
          rwa [Nat.add_sub_cancel' (by omega)] at this
        rw [e] at h9
        exact h9
      | some a =>
        have ha := zit_lt hr hz
        have ha6 : a < 6 := by omega
        have hin : vp_in (nI a) 6 := vp_in_nI ha6 (by omega)
        have hcl : (nI a).toNatClampNeg = a := nI_clamp (by omega)
        simp only [B_X5_circleOf_0, B_X5_circleOf_5, B_X5_circleOf_45, B_X5_circleOf_51, B_X5_circleOf_99, e_cut, e_iload, e_aload, e_istore, e_astore, e_iinc, e_const, e_lconst, e_bin, e_bin0, e_un, e_ladd, e_dupi, e_dupr, e_dup2, e_pop, e_if, e_icmp, e_sw, e_sw0, e_sw1, e_get, e_put, e_ald, e_ast, e_aald, e_aast, e_copy, e_new, e_newa, e_anewa, e_min, e_abs, e_oinit, e_callI, e_callV, e_callS, e_iret, e_zret, e_lret, e_vret, e_tl1, e_tl0, e_tl2, e_tl3, z10, Bool.false_eq_true, e_argi, e_argr, e_argn, zld_c, zst_n, zst_c, zpick_n, zpick_c, List.drop_succ_cons, List.drop_zero, List.take_succ_cons, List.take_zero, List.length_cons, List.length_nil, List.reverse_cons, List.reverse_nil, List.nil_append, List.cons_append, List.append_nil, List.getElem?_cons_zero, List.getElem?_cons_succ, List.set_cons_zero, List.set_cons_succ, Nat.add_sub_cancel_left, Nat.sub_self, Nat.add_zero, Nat.zero_add, Nat.le_add_right, Nat.le_refl, true_and, and_true, va_rf, zok, Nat.add_left_cancel_iff, Nat.add_eq_left, Nat.left_eq_add, eq_self, if_true, if_false, not_false_eq_true, not_true_eq_false, false_implies, true_implies, Nat.reduceEqDiff, Nat.reduceAdd, Nat.reduceLT, Nat.reduceLeDiff, reduceIte, zB0, e0, N0, N3, N6, h0, h3, cle, zrv, zrv_nn ha6, hin, hcl, hth a ha]
        refine ⟨n, lo, la, i, c, a, la a, rfl, hp1, ha, (hlo a ha).2, ?_⟩
        simp only [e_cut, e_iload, e_aload, e_istore, e_astore, e_iinc, e_const, e_lconst, e_bin, e_bin0, e_un, e_ladd, e_dupi, e_dupr, e_dup2, e_pop, e_if, e_icmp, e_sw, e_sw0, e_sw1, e_get, e_put, e_ald, e_ast, e_aald, e_aast, e_copy, e_new, e_newa, e_anewa, e_min, e_abs, e_oinit, e_callI, e_callV, e_callS, e_iret, e_zret, e_lret, e_vret, e_tl1, e_tl0, e_tl2, e_tl3, z10, Bool.false_eq_true, e_argi, e_argr, e_argn, zld_c, zst_n, zst_c, zpick_n, zpick_c, List.drop_succ_cons, List.drop_zero, List.take_succ_cons, List.take_zero, List.length_cons, List.length_nil, List.reverse_cons, List.reverse_nil, List.nil_append, List.cons_append, List.append_nil, List.getElem?_cons_zero, List.getElem?_cons_succ, List.set_cons_zero, List.set_cons_succ, Nat.add_sub_cancel_left, Nat.sub_self, Nat.add_zero, Nat.zero_add, Nat.le_add_right, Nat.le_refl, true_and, and_true, va_rf, zok, Nat.add_left_cancel_iff, Nat.add_eq_left, Nat.left_eq_add, eq_self, if_true, if_false, not_false_eq_true, not_true_eq_false, false_implies, true_implies, Nat.reduceEqDiff, Nat.reduceAdd, Nat.reduceLT, Nat.reduceLeDiff, reduceIte, nI_1]
        have h9 := ih (t + 1) (by omega)
        have e1 : zit n lo la c r (t + 1) = zwhom n lo c a (la a) := by rw [zit, hz]; rfl
        rw [e1] at h9
        exact h9
  simp only [B_X5_circleOf_0, B_X5_circleOf_5, B_X5_circleOf_45, B_X5_circleOf_51, B_X5_circleOf_99, e_cut, e_iload, e_aload, e_istore, e_astore, e_iinc, e_const, e_lconst, e_bin, e_bin0, e_un, e_ladd, e_dupi, e_dupr, e_dup2, e_pop, e_if, e_icmp, e_sw, e_sw0, e_sw1, e_get, e_put, e_ald, e_ast, e_aald, e_aast, e_copy, e_new, e_newa, e_anewa, e_min, e_abs, e_oinit, e_callI, e_callV, e_callS, e_iret, e_zret, e_lret, e_vret, e_tl1, e_tl0, e_tl2, e_tl3, z10, Bool.false_eq_true, e_argi, e_argr, e_argn, zld_c, zst_n, zst_c, zpick_n, zpick_c, List.drop_succ_cons, List.drop_zero, List.take_succ_cons, List.take_zero, List.length_cons, List.length_nil, List.reverse_cons, List.reverse_nil, List.nil_append, List.cons_append, List.append_nil, List.getElem?_cons_zero, List.getElem?_cons_succ, List.set_cons_zero, List.set_cons_succ, Nat.add_sub_cancel_left, Nat.sub_self, Nat.add_zero, Nat.zero_add, Nat.le_add_right, Nat.le_refl, true_and, and_true, va_rf, zok, Nat.add_left_cancel_iff, Nat.add_eq_left, Nat.left_eq_add, eq_self, if_true, if_false, not_false_eq_true, not_true_eq_false, false_implies, true_implies, Nat.reduceEqDiff, Nat.reduceAdd, Nat.reduceLT, Nat.reduceLeDiff, reduceIte]
  exact loop1 n 0 rfl
set_option maxRecDepth 20000 in
theorem f_X5_circleOf_19 : Cond.fieldLink RX5 19 (TX5 1).1 (TX5 1).2.1 (TX5 1).2.2.1 ∈ wsX5_circleOf := by decide +kernel
set_option maxRecDepth 20000 in
theorem k_X5_circleOf_5 : ∀ w ∈ u_ws RX5 TX5 11, w ∈ wsX5_circleOf := fun _ h => List.mem_cons_of_mem _ (List.mem_append_left _ (List.mem_append_left _ (List.mem_append_right _ h)))
set_option maxRecDepth 20000 in
theorem f_X5_circleOf_200 : Cond.fieldLink RX5 200 (TX4 0).1 (TX4 0).2.1 (TX4 0).2.2.1 ∈ wsX5_circleOf := by decide +kernel
set_option maxRecDepth 20000 in
theorem k_X5_circleOf_4 : ∀ w ∈ u_ws RX4 TX4 6, w ∈ wsX5_circleOf := fun _ h => List.mem_cons_of_mem _ (List.mem_append_left _ (List.mem_append_right _ h))
set_option maxRecDepth 20000 in
theorem f_X5_circleOf_85 : Cond.fieldLink RX5 85 (TX4 5).1 (TX4 5).2.1 (TX4 5).2.2.1 ∈ wsX5_circleOf := by decide +kernel
set_option maxRecDepth 100000 in
set_option maxHeartbeats 4000000 in
theorem S_X5_circleOf_99 {p : Program} {e : Env} {s : State} {m : MethodId} {args : Array Value} {below : List Frame} {meth : Method} {c : Code} {D : va_G} {cy : zY} {b n0 : Nat} {P : zPo} (la : Launch) (X : zX p la e (rm_X5_circleOf) s m args below meth c 6 D cy b n0 cX5_circleOf wsX5_circleOf RX5) (hr : meth.sig.returnType = (some .int)) (h_X5_whom : zMet la yX5_whom wsX5_whom rm_X5_whom 0 0 sp_X5_whom) : zS p la e (rm_X5_circleOf) s m args below meth c (MQ below (zQ D b (n0 + 0) P) args s 0 0 (fun q => b ≤ q)) 6 D b n0 99 (B_X5_circleOf_99 b n0 cy P (zAt p la e (rm_X5_circleOf) s m args below meth c (MQ below (zQ D b (n0 + 0) P) args s 0 0 (fun q => b ≤ q)) 6 D b n0)) := by
  unfold B_X5_circleOf_99
  exact (s_iload X dX5_circleOf_99 (s_iret X dX5_circleOf_101 hr))
set_option maxRecDepth 100000 in
set_option maxHeartbeats 4000000 in
theorem S_X5_circleOf_51 {p : Program} {e : Env} {s : State} {m : MethodId} {args : Array Value} {below : List Frame} {meth : Method} {c : Code} {D : va_G} {cy : zY} {b n0 : Nat} {P : zPo} (la : Launch) (X : zX p la e (rm_X5_circleOf) s m args below meth c 6 D cy b n0 cX5_circleOf wsX5_circleOf RX5) (hr : meth.sig.returnType = (some .int)) (h_X5_whom : zMet la yX5_whom wsX5_whom rm_X5_whom 0 0 sp_X5_whom) : zS p la e (rm_X5_circleOf) s m args below meth c (MQ below (zQ D b (n0 + 0) P) args s 0 0 (fun q => b ≤ q)) 6 D b n0 51 (B_X5_circleOf_51 b n0 cy P (zAt p la e (rm_X5_circleOf) s m args below meth c (MQ below (zQ D b (n0 + 0) P) args s 0 0 (fun q => b ≤ q)) 6 D b n0)) := by
  unfold B_X5_circleOf_51
  exact (s_iload X dX5_circleOf_51 (s_aload_n X dX5_circleOf_53 rfl (s_get X dX5_circleOf_54 rfl k_X5_circleOf_5 (by decide) f_X5_circleOf_19 (s_get X dX5_circleOf_57 rfl k_X5_circleOf_4 (by decide) f_X5_circleOf_200 (s_icmp_ge X dX5_circleOf_60 (by decide) (S_X5_circleOf_99 la X hr h_X5_whom) (s_iload_n X dX5_circleOf_63 rfl (s_bipush X dX5_circleOf_64 (by decide) (s_icmp_eq X dX5_circleOf_66 (by decide) (S_X5_circleOf_99 la X hr h_X5_whom) (s_iload X dX5_circleOf_69 (s_iconst X dX5_circleOf_71 (by decide) (s_iload_n X dX5_circleOf_72 rfl (s_ishl X dX5_circleOf_73 (s_ior X dX5_circleOf_74 (s_istore X dX5_circleOf_75 (by decide) (s_aload_n X dX5_circleOf_77 rfl (s_aload_n X dX5_circleOf_78 rfl (s_iload_n X dX5_circleOf_79 rfl (s_aload_n X dX5_circleOf_80 rfl (s_get X dX5_circleOf_81 rfl k_X5_circleOf_5 (by decide) f_X5_circleOf_19 (s_get X dX5_circleOf_84 rfl k_X5_circleOf_4 (by decide) f_X5_circleOf_85 (s_iload_n X dX5_circleOf_87 rfl (s_iald X dX5_circleOf_88 (s_callV X h_X5_whom dX5_circleOf_89 rfl gX5_circleOf_X5_whom rfl rfl rfl (by decide +kernel) ⟨by decide, by decide⟩ (s_istore_n X dX5_circleOf_92 rfl (by decide) (s_iinc X dX5_circleOf_93 (by decide) (by decide) (s_goto X dX5_circleOf_96 (by decide) (s_cut (by decide) zS_at)))))))))))))))))))))))))))
set_option maxRecDepth 100000 in
set_option maxHeartbeats 4000000 in
theorem S_X5_circleOf_45 {p : Program} {e : Env} {s : State} {m : MethodId} {args : Array Value} {below : List Frame} {meth : Method} {c : Code} {D : va_G} {cy : zY} {b n0 : Nat} {P : zPo} (la : Launch) (X : zX p la e (rm_X5_circleOf) s m args below meth c 6 D cy b n0 cX5_circleOf wsX5_circleOf RX5) (hr : meth.sig.returnType = (some .int)) (h_X5_whom : zMet la yX5_whom wsX5_whom rm_X5_whom 0 0 sp_X5_whom) : zS p la e (rm_X5_circleOf) s m args below meth c (MQ below (zQ D b (n0 + 0) P) args s 0 0 (fun q => b ≤ q)) 6 D b n0 45 (B_X5_circleOf_45 b n0 cy P (zAt p la e (rm_X5_circleOf) s m args below meth c (MQ below (zQ D b (n0 + 0) P) args s 0 0 (fun q => b ≤ q)) 6 D b n0)) := by
  unfold B_X5_circleOf_45
  exact (s_iconst X dX5_circleOf_45 (by decide) (s_istore X dX5_circleOf_46 (by decide) (s_iconst X dX5_circleOf_48 (by decide) (s_istore X dX5_circleOf_49 (by decide) (s_cut (by decide) zS_at)))))
set_option maxRecDepth 100000 in
set_option maxHeartbeats 4000000 in
theorem S_X5_circleOf_5 {p : Program} {e : Env} {s : State} {m : MethodId} {args : Array Value} {below : List Frame} {meth : Method} {c : Code} {D : va_G} {cy : zY} {b n0 : Nat} {P : zPo} (la : Launch) (X : zX p la e (rm_X5_circleOf) s m args below meth c 6 D cy b n0 cX5_circleOf wsX5_circleOf RX5) (hr : meth.sig.returnType = (some .int)) (h_X5_whom : zMet la yX5_whom wsX5_whom rm_X5_whom 0 0 sp_X5_whom) : zS p la e (rm_X5_circleOf) s m args below meth c (MQ below (zQ D b (n0 + 0) P) args s 0 0 (fun q => b ≤ q)) 6 D b n0 5 (B_X5_circleOf_5 b n0 cy P (zAt p la e (rm_X5_circleOf) s m args below meth c (MQ below (zQ D b (n0 + 0) P) args s 0 0 (fun q => b ≤ q)) 6 D b n0)) := by
  unfold B_X5_circleOf_5
  exact (s_iload X dX5_circleOf_5 (s_aload_n X dX5_circleOf_7 rfl (s_get X dX5_circleOf_8 rfl k_X5_circleOf_5 (by decide) f_X5_circleOf_19 (s_get X dX5_circleOf_11 rfl k_X5_circleOf_4 (by decide) f_X5_circleOf_200 (s_icmp_ge X dX5_circleOf_14 (by decide) (S_X5_circleOf_45 la X hr h_X5_whom) (s_iload_n X dX5_circleOf_17 rfl (s_bipush X dX5_circleOf_18 (by decide) (s_icmp_eq X dX5_circleOf_20 (by decide) (S_X5_circleOf_45 la X hr h_X5_whom) (s_aload_n X dX5_circleOf_23 rfl (s_aload_n X dX5_circleOf_24 rfl (s_iload_n X dX5_circleOf_25 rfl (s_aload_n X dX5_circleOf_26 rfl (s_get X dX5_circleOf_27 rfl k_X5_circleOf_5 (by decide) f_X5_circleOf_19 (s_get X dX5_circleOf_30 rfl k_X5_circleOf_4 (by decide) f_X5_circleOf_85 (s_iload_n X dX5_circleOf_33 rfl (s_iald X dX5_circleOf_34 (s_callV X h_X5_whom dX5_circleOf_35 rfl gX5_circleOf_X5_whom rfl rfl rfl (by decide +kernel) ⟨by decide, by decide⟩ (s_istore_n X dX5_circleOf_38 rfl (by decide) (s_iinc X dX5_circleOf_39 (by decide) (by decide) (s_goto X dX5_circleOf_42 (by decide) (s_cut (by decide) zS_at)))))))))))))))))))))
set_option maxRecDepth 100000 in
set_option maxHeartbeats 4000000 in
theorem S_X5_circleOf_0 {p : Program} {e : Env} {s : State} {m : MethodId} {args : Array Value} {below : List Frame} {meth : Method} {c : Code} {D : va_G} {cy : zY} {b n0 : Nat} {P : zPo} (la : Launch) (X : zX p la e (rm_X5_circleOf) s m args below meth c 6 D cy b n0 cX5_circleOf wsX5_circleOf RX5) (hr : meth.sig.returnType = (some .int)) (h_X5_whom : zMet la yX5_whom wsX5_whom rm_X5_whom 0 0 sp_X5_whom) : zS p la e (rm_X5_circleOf) s m args below meth c (MQ below (zQ D b (n0 + 0) P) args s 0 0 (fun q => b ≤ q)) 6 D b n0 0 (B_X5_circleOf_0 b n0 cy P (zAt p la e (rm_X5_circleOf) s m args below meth c (MQ below (zQ D b (n0 + 0) P) args s 0 0 (fun q => b ≤ q)) 6 D b n0)) := by
  unfold B_X5_circleOf_0
  exact (s_iload_n X dX5_circleOf_0 rfl (s_istore_n X dX5_circleOf_1 rfl (by decide) (s_iconst X dX5_circleOf_2 (by decide) (s_istore X dX5_circleOf_3 (by decide) (s_cut (by decide) zS_at)))))
theorem w_X5_circleOf (la : Launch) (h_X5_whom : zMet la yX5_whom wsX5_whom rm_X5_whom 0 0 sp_X5_whom) (sp : zSp) (vc : zVC_X5_circleOf sp) : zMet la yX5_circleOf wsX5_circleOf (rm_X5_circleOf) 0 0 sp :=
  z_of (cc := cX5_circleOf) (maxL := 6) (ret := (some .int)) (by decide +kernel) rfl (fun p e s m args below meth c D cy b n as E P hsp X hr hin => by
    obtain ⟨h1, h2⟩ := vc b cy n as E P (zAt p la e (rm_X5_circleOf) s m args below meth c (MQ below (zQ D b (n + 0) P) args s 0 0 (fun q => b ≤ q)) 6 D b n) (fun _ _ _ _ _ q => S_X5_circleOf_5 la X hr h_X5_whom _ _ _ _ _ q) (fun _ _ _ _ _ q => S_X5_circleOf_51 la X hr h_X5_whom _ _ _ _ _ q) hsp
    exact ⟨h1, S_X5_circleOf_0 la X hr h_X5_whom _ _ _ _ _ h2⟩)

theorem m_X5_circleOf (la : Launch) : zMet la yX5_circleOf wsX5_circleOf rm_X5_circleOf 0 0 sp_X5_circleOf := w_X5_circleOf la (m_X5_whom la) _ vc_X5_circleOf
def sp_X5_isImage : zSp := fun b cy as N E P => ∃ x : Int32, as = [.int x] ∧ P (some (.int (if zisB 2 x = true then 1 else 0))) E
abbrev rm_X5_isImage : Room := { frames := 1, cells := 0, slots := 0, locals := 40 }
def B_X5_isImage_14 (b n0 : Nat) (cy : zY) (P : zPo) (A : Nat → zC) : zC :=
  z_zret 0 0 P
def B_X5_isImage_13 (b n0 : Nat) (cy : zY) (P : zPo) (A : Nat → zC) : zC :=
  z_const (0) (B_X5_isImage_14 b n0 cy P A)
def B_X5_isImage_0 (b n0 : Nat) (cy : zY) (P : zPo) (A : Nat → zC) : zC :=
  z_iload 0 (z_if (fun x => x < 0) (B_X5_isImage_13 b n0 cy P A) (z_iload 0 (z_const (2) (z_icmp (fun x y => y ≤ x) (B_X5_isImage_13 b n0 cy P A) (z_const (1) (B_X5_isImage_14 b n0 cy P A))))))
def zVC_X5_isImage (sp : zSp) : Prop := ∀ (b : Nat) (cy : zY) (n : Nat) (as : List Value) (E : zE) (P : zPo) (A : Nat → zC), sp b cy as n E P → zgood as 1 ∧ B_X5_isImage_0 b n cy P A (lv_args 0 as) [] 0 0 E

set_option maxRecDepth 100000 in
set_option maxHeartbeats 4000000 in
theorem vc_X5_isImage : zVC_X5_isImage sp_X5_isImage := by
  intro b cy N as E P A hsp
  obtain ⟨x, rfl, hP⟩ := hsp
  refine ⟨⟨Nat.le_of_ble_eq_true rfl, zg1 rfl (zg0)⟩, ?_⟩
  have k2 : (2 : Int32) = nI 2 := rfl
  simp only [B_X5_isImage_0, B_X5_isImage_13, B_X5_isImage_14, e_cut, e_iload, e_aload, e_istore, e_astore, e_iinc, e_const, e_lconst, e_bin, e_bin0, e_un, e_ladd, e_dupi, e_dupr, e_dup2, e_pop, e_if, e_icmp, e_sw, e_sw0, e_sw1, e_get, e_put, e_ald, e_ast, e_aald, e_aast, e_copy, e_new, e_newa, e_anewa, e_min, e_abs, e_oinit, e_callI, e_callV, e_callS, e_iret, e_zret, e_lret, e_vret, e_tl1, e_tl0, e_tl2, e_tl3, z10, Bool.false_eq_true, e_argi, e_argr, e_argn, zld_c, zst_n, zst_c, zpick_n, zpick_c, List.drop_succ_cons, List.drop_zero, List.take_succ_cons, List.take_zero, List.length_cons, List.length_nil, List.reverse_cons, List.reverse_nil, List.nil_append, List.cons_append, List.append_nil, List.getElem?_cons_zero, List.getElem?_cons_succ, List.set_cons_zero, List.set_cons_succ, Nat.add_sub_cancel_left, Nat.sub_self, Nat.add_zero, Nat.zero_add, Nat.le_add_right, Nat.le_refl, true_and, and_true, va_rf, zok, Nat.add_left_cancel_iff, Nat.add_eq_left, Nat.left_eq_add, eq_self, if_true, if_false, not_false_eq_true, not_true_eq_false, false_implies, true_implies, Nat.reduceEqDiff, Nat.reduceAdd, Nat.reduceLT, Nat.reduceLeDiff, reduceIte, k2]
  refine ⟨fun c1 => ?_, fun c1 => ⟨fun c2 => ?_, fun c2 => ?_⟩⟩
  · rw [if_neg (zisB_f1 c1)] at hP; exact ⟨Or.inl trivial, hP⟩
  · rw [if_neg (zisB_f2 c2)] at hP; exact ⟨Or.inl trivial, hP⟩
  · rw [if_pos (zisB_i c1 c2)] at hP; exact ⟨Or.inr trivial, hP⟩
set_option maxRecDepth 100000 in
set_option maxHeartbeats 4000000 in
theorem S_X5_isImage_14 {p : Program} {e : Env} {s : State} {m : MethodId} {args : Array Value} {below : List Frame} {meth : Method} {c : Code} {D : va_G} {cy : zY} {b n0 : Nat} {P : zPo} (la : Launch) (X : zX p la e (rm_X5_isImage) s m args below meth c 1 D cy b n0 cX5_isImage wsX5_isImage RX5) (hr : meth.sig.returnType = (some .boolean)) : zS p la e (rm_X5_isImage) s m args below meth c (MQ below (zQ D b (n0 + 0) P) args s 0 0 (fun q => b ≤ q)) 1 D b n0 14 (B_X5_isImage_14 b n0 cy P (zAt p la e (rm_X5_isImage) s m args below meth c (MQ below (zQ D b (n0 + 0) P) args s 0 0 (fun q => b ≤ q)) 1 D b n0)) := by
  unfold B_X5_isImage_14
  exact (s_zret X dX5_isImage_14 hr)
set_option maxRecDepth 100000 in
set_option maxHeartbeats 4000000 in
theorem S_X5_isImage_13 {p : Program} {e : Env} {s : State} {m : MethodId} {args : Array Value} {below : List Frame} {meth : Method} {c : Code} {D : va_G} {cy : zY} {b n0 : Nat} {P : zPo} (la : Launch) (X : zX p la e (rm_X5_isImage) s m args below meth c 1 D cy b n0 cX5_isImage wsX5_isImage RX5) (hr : meth.sig.returnType = (some .boolean)) : zS p la e (rm_X5_isImage) s m args below meth c (MQ below (zQ D b (n0 + 0) P) args s 0 0 (fun q => b ≤ q)) 1 D b n0 13 (B_X5_isImage_13 b n0 cy P (zAt p la e (rm_X5_isImage) s m args below meth c (MQ below (zQ D b (n0 + 0) P) args s 0 0 (fun q => b ≤ q)) 1 D b n0)) := by
  unfold B_X5_isImage_13
  exact (s_iconst X dX5_isImage_13 (by decide) (S_X5_isImage_14 la X hr))
set_option maxRecDepth 100000 in
set_option maxHeartbeats 4000000 in
theorem S_X5_isImage_0 {p : Program} {e : Env} {s : State} {m : MethodId} {args : Array Value} {below : List Frame} {meth : Method} {c : Code} {D : va_G} {cy : zY} {b n0 : Nat} {P : zPo} (la : Launch) (X : zX p la e (rm_X5_isImage) s m args below meth c 1 D cy b n0 cX5_isImage wsX5_isImage RX5) (hr : meth.sig.returnType = (some .boolean)) : zS p la e (rm_X5_isImage) s m args below meth c (MQ below (zQ D b (n0 + 0) P) args s 0 0 (fun q => b ≤ q)) 1 D b n0 0 (B_X5_isImage_0 b n0 cy P (zAt p la e (rm_X5_isImage) s m args below meth c (MQ below (zQ D b (n0 + 0) P) args s 0 0 (fun q => b ≤ q)) 1 D b n0)) := by
  unfold B_X5_isImage_0
  exact (s_iload_n X dX5_isImage_0 rfl (s_if_lt X dX5_isImage_1 (by decide) (S_X5_isImage_13 la X hr) (s_iload_n X dX5_isImage_4 rfl (s_iconst X dX5_isImage_5 (by decide) (s_icmp_ge X dX5_isImage_6 (by decide) (S_X5_isImage_13 la X hr) (s_iconst X dX5_isImage_9 (by decide) (s_goto X dX5_isImage_10 (by decide) (S_X5_isImage_14 la X hr))))))))
theorem w_X5_isImage (la : Launch) (sp : zSp) (vc : zVC_X5_isImage sp) : zMet la yX5_isImage wsX5_isImage (rm_X5_isImage) 0 0 sp :=
  z_of (cc := cX5_isImage) (maxL := 1) (ret := (some .boolean)) (by decide +kernel) rfl (fun p e s m args below meth c D cy b n as E P hsp X hr hin => by
    obtain ⟨h1, h2⟩ := vc b cy n as E P (zAt p la e (rm_X5_isImage) s m args below meth c (MQ below (zQ D b (n + 0) P) args s 0 0 (fun q => b ≤ q)) 1 D b n) hsp
    exact ⟨h1, S_X5_isImage_0 la X hr _ _ _ _ _ h2⟩)

theorem m_X5_isImage (la : Launch) : zMet la yX5_isImage wsX5_isImage rm_X5_isImage 0 0 sp_X5_isImage := w_X5_isImage la _ vc_X5_isImage
def zisA (n : Nat) (c : Nat → Nat) (x y : Int32) : Bool := zisP n x y && ((c 1).testBit x.toNatClampNeg && (c 1).testBit y.toNatClampNeg)
theorem zisP_t {n : Nat} {x y : Int32} (h : zisP n x y = true) (hn : n ≤ 6) : ∃ r q, r < n ∧ q < n ∧ r ≠ q ∧ x = nI r ∧ y = nI q := by
  unfold zisP at h
  simp at h
  obtain ⟨r, hr, rfl⟩ := zisB_t h.1.1 hn
  obtain ⟨q, hq, rfl⟩ := zisB_t h.1.2 hn
  exact ⟨r, q, hr, hq, fun e => h.2 (by rw [e]), rfl, rfl⟩
theorem zisA_t {n : Nat} {c : Nat → Nat} {x y : Int32} (h : zisA n c x y = true) (hn : n ≤ 6) : ∃ r q, r < n ∧ q < n ∧ r ≠ q ∧ x = nI r ∧ y = nI q ∧ (c 1).testBit r = true ∧ (c 1).testBit q = true := by
  unfold zisA at h
  simp only [Bool.and_eq_true] at h
  obtain ⟨r, q, hr, hq, hne, rfl, rfl⟩ := zisP_t h.1 hn
  refine ⟨r, q, hr, hq, hne, rfl, rfl, ?_, ?_⟩
  · have := h.2.1; rwa [nI_clamp (by omega)] at this
  · have := h.2.2; rwa [nI_clamp (by omega)] at this
def sp_X5_isPairAboard : zSp := fun b cy as N E P => ∃ (n : Nat) (lo la : Nat → Nat) (c : Nat → Nat) (x y : Int32), as = [.ref b, .int x, .int y] ∧ zP2 b cy N E n lo la c ∧ P (some (.int (if zisA n c x y = true then 1 else 0))) E
abbrev rm_X5_isPairAboard : Room := { frames := 3, cells := 0, slots := 0, locals := 83 }
def B_X5_isPairAboard_42 (b n0 : Nat) (cy : zY) (P : zPo) (A : Nat → zC) : zC :=
  z_zret 0 0 P
def B_X5_isPairAboard_41 (b n0 : Nat) (cy : zY) (P : zPo) (A : Nat → zC) : zC :=
  z_const (0) (B_X5_isPairAboard_42 b n0 cy P A)
def B_X5_isPairAboard_0 (b n0 : Nat) (cy : zY) (P : zPo) (A : Nat → zC) : zC :=
  z_aload 0 (z_iload 1 (z_iload 2 (z_callV b n0 0 0 cy 5 2 0 0 sp_X5_isPair (z_if (fun x => x = 0) (B_X5_isPairAboard_41 b n0 cy P A) (z_aload 0 (z_get b n0 5 3 (z_get b n0 0 0 (z_iload 1 (z_callV b n0 0 0 cy 1 1 0 0 sp_X1_isAboard (z_if (fun x => x = 0) (B_X5_isPairAboard_41 b n0 cy P A) (z_aload 0 (z_get b n0 5 3 (z_get b n0 0 0 (z_iload 2 (z_callV b n0 0 0 cy 1 1 0 0 sp_X1_isAboard (z_if (fun x => x = 0) (B_X5_isPairAboard_41 b n0 cy P A) (z_const (1) (B_X5_isPairAboard_42 b n0 cy P A))))))))))))))))))
def zVC_X5_isPairAboard (sp : zSp) : Prop := ∀ (b : Nat) (cy : zY) (n : Nat) (as : List Value) (E : zE) (P : zPo) (A : Nat → zC), sp b cy as n E P → zgood as 3 ∧ B_X5_isPairAboard_0 b n cy P A (lv_args 0 as) [] 0 0 E

set_option maxRecDepth 100000 in
set_option maxHeartbeats 4000000 in
theorem vc_X5_isPairAboard : zVC_X5_isPairAboard sp_X5_isPairAboard := by
  intro b cy N as E P A hsp
  obtain ⟨n, lo, la, c, x, y, rfl, ⟨hp1, e11⟩, hP⟩ := hsp
  refine ⟨⟨Nat.le_of_ble_eq_true rfl, zg1 rfl (zg1 rfl (zg1 rfl (zg0)))⟩, ?_⟩
  obtain ⟨hR, hmo, hok, hi, hN⟩ := id hp1
  obtain ⟨⟨kept, cnt, tr, e0⟩, hT⟩ := id hR
  have hn := hok.1
  have N0 : 0 < N := by omega
  have N11 : 11 < N := by omega
  have N12 : 12 < N := by omega
  obtain ⟨hn1, mf, mg, mh, m0, m1, m2, m3, hmf, hmg, hmh⟩ := id hmo
  simp only [B_X5_isPairAboard_0, B_X5_isPairAboard_41, B_X5_isPairAboard_42, e_cut, e_iload, e_aload, e_istore, e_astore, e_iinc, e_const, e_lconst, e_bin, e_bin0, e_un, e_ladd, e_dupi, e_dupr, e_dup2, e_pop, e_if, e_icmp, e_sw, e_sw0, e_sw1, e_get, e_put, e_ald, e_ast, e_aald, e_aast, e_copy, e_new, e_newa, e_anewa, e_min, e_abs, e_oinit, e_callI, e_callV, e_callS, e_iret, e_zret, e_lret, e_vret, e_tl1, e_tl0, e_tl2, e_tl3, z10, Bool.false_eq_true, e_argi, e_argr, e_argn, zld_c, zst_n, zst_c, zpick_n, zpick_c, List.drop_succ_cons, List.drop_zero, List.take_succ_cons, List.take_zero, List.length_cons, List.length_nil, List.reverse_cons, List.reverse_nil, List.nil_append, List.cons_append, List.append_nil, List.getElem?_cons_zero, List.getElem?_cons_succ, List.set_cons_zero, List.set_cons_succ, Nat.add_sub_cancel_left, Nat.sub_self, Nat.add_zero, Nat.zero_add, Nat.le_add_right, Nat.le_refl, true_and, and_true, va_rf, zok, Nat.add_left_cancel_iff, Nat.add_eq_left, Nat.left_eq_add, eq_self, if_true, if_false, not_false_eq_true, not_true_eq_false, false_implies, true_implies, Nat.reduceEqDiff, Nat.reduceAdd, Nat.reduceLT, Nat.reduceLeDiff, reduceIte, zB0, e0, N0]
  refine ⟨n, lo, la, x, y, rfl, hR, hN, ?_⟩
  by_cases q1 : zisP n x y = true
  · obtain ⟨r, q, hr, hq, hne, rfl, rfl⟩ := zisP_t q1 hn
    have hA2 : zisA n c (nI r) (nI q) = ((c 1).testBit r && (c 1).testBit q) := by
      unfold zisA
      rw [q1, nI_clamp (by omega), nI_clamp (by omega), Bool.true_and]
    rw [hA2] at hP
    simp only [e_cut, e_iload, e_aload, e_istore, e_astore, e_iinc, e_const, e_lconst, e_bin, e_bin0, e_un, e_ladd, e_dupi, e_dupr, e_dup2, e_pop, e_if, e_icmp, e_sw, e_sw0, e_sw1, e_get, e_put, e_ald, e_ast, e_aald, e_aast, e_copy, e_new, e_newa, e_anewa, e_min, e_abs, e_oinit, e_callI, e_callV, e_callS, e_iret, e_zret, e_lret, e_vret, e_tl1, e_tl0, e_tl2, e_tl3, z10, Bool.false_eq_true, e_argi, e_argr, e_argn, zld_c, zst_n, zst_c, zpick_n, zpick_c, List.drop_succ_cons, List.drop_zero, List.take_succ_cons, List.take_zero, List.length_cons, List.length_nil, List.reverse_cons, List.reverse_nil, List.nil_append, List.cons_append, List.append_nil, List.getElem?_cons_zero, List.getElem?_cons_succ, List.set_cons_zero, List.set_cons_succ, Nat.add_sub_cancel_left, Nat.sub_self, Nat.add_zero, Nat.zero_add, Nat.le_add_right, Nat.le_refl, true_and, and_true, va_rf, zok, Nat.add_left_cancel_iff, Nat.add_eq_left, Nat.left_eq_add, eq_self, if_true, if_false, not_false_eq_true, not_true_eq_false, false_implies, true_implies, Nat.reduceEqDiff, Nat.reduceAdd, Nat.reduceLT, Nat.reduceLeDiff, reduceIte, zB0, e0, N0, q1, N11, e11, N12, m0]
    refine ⟨12, r, n, c, rfl, hmo, hi, by omega, hok.l64, ?_⟩
    by_cases q2 : (c 1).testBit r = true
    · simp only [e_cut, e_iload, e_aload, e_istore, e_astore, e_iinc, e_const, e_lconst, e_bin, e_bin0, e_un, e_ladd, e_dupi, e_dupr, e_dup2, e_pop, e_if, e_icmp, e_sw, e_sw0, e_sw1, e_get, e_put, e_ald, e_ast, e_aald, e_aast, e_copy, e_new, e_newa, e_anewa, e_min, e_abs, e_oinit, e_callI, e_callV, e_callS, e_iret, e_zret, e_lret, e_vret, e_tl1, e_tl0, e_tl2, e_tl3, z10, Bool.false_eq_true, e_argi, e_argr, e_argn, zld_c, zst_n, zst_c, zpick_n, zpick_c, List.drop_succ_cons, List.drop_zero, List.take_succ_cons, List.take_zero, List.length_cons, List.length_nil, List.reverse_cons, List.reverse_nil, List.nil_append, List.cons_append, List.append_nil, List.getElem?_cons_zero, List.getElem?_cons_succ, List.set_cons_zero, List.set_cons_succ, Nat.add_sub_cancel_left, Nat.sub_self, Nat.add_zero, Nat.zero_add, Nat.le_add_right, Nat.le_refl, true_and, and_true, va_rf, zok, Nat.add_left_cancel_iff, Nat.add_eq_left, Nat.left_eq_add, eq_self, if_true, if_false, not_false_eq_true, not_true_eq_false, false_implies, true_implies, Nat.reduceEqDiff, Nat.reduceAdd, Nat.reduceLT, Nat.reduceLeDiff, reduceIte, zB0, e0, N0, q2, N11, e11, N12, m0]
      refine ⟨12, q, n, c, rfl, hmo, hi, by omega, hok.l64, ?_⟩
      by_cases q3 : (c 1).testBit q = true
      · simp only [e_cut, e_iload, e_aload, e_istore, e_astore, e_iinc, e_const, e_lconst, e_bin, e_bin0, e_un, e_ladd, e_dupi, e_dupr, e_dup2, e_pop, e_if, e_icmp, e_sw, e_sw0, e_sw1, e_get, e_put, e_ald, e_ast, e_aald, e_aast, e_copy, e_new, e_newa, e_anewa, e_min, e_abs, e_oinit, e_callI, e_callV, e_callS, e_iret, e_zret, e_lret, e_vret, e_tl1, e_tl0, e_tl2, e_tl3, z10, Bool.false_eq_true, e_argi, e_argr, e_argn, zld_c, zst_n, zst_c, zpick_n, zpick_c, List.drop_succ_cons, List.drop_zero, List.take_succ_cons, List.take_zero, List.length_cons, List.length_nil, List.reverse_cons, List.reverse_nil, List.nil_append, List.cons_append, List.append_nil, List.getElem?_cons_zero, List.getElem?_cons_succ, List.set_cons_zero, List.set_cons_succ, Nat.add_sub_cancel_left, Nat.sub_self, Nat.add_zero, Nat.zero_add, Nat.le_add_right, Nat.le_refl, true_and, and_true, va_rf, zok, Nat.add_left_cancel_iff, Nat.add_eq_left, Nat.left_eq_add, eq_self, if_true, if_false, not_false_eq_true, not_true_eq_false, false_implies, true_implies, Nat.reduceEqDiff, Nat.reduceAdd, Nat.reduceLT, Nat.reduceLeDiff, reduceIte, q3, B_X5_isPairAboard_0, B_X5_isPairAboard_41, B_X5_isPairAboard_42]
        simp [q2, q3] at hP
        exact ⟨Or.inr trivial, hP⟩
      · simp only [e_cut, e_iload, e_aload, e_istore, e_astore, e_iinc, e_const, e_lconst, e_bin, e_bin0, e_un, e_ladd, e_dupi, e_dupr, e_dup2, e_pop, e_if, e_icmp, e_sw, e_sw0, e_sw1, e_get, e_put, e_ald, e_ast, e_aald, e_aast, e_copy, e_new, e_newa, e_anewa, e_min, e_abs, e_oinit, e_callI, e_callV, e_callS, e_iret, e_zret, e_lret, e_vret, e_tl1, e_tl0, e_tl2, e_tl3, z10, Bool.false_eq_true, e_argi, e_argr, e_argn, zld_c, zst_n, zst_c, zpick_n, zpick_c, List.drop_succ_cons, List.drop_zero, List.take_succ_cons, List.take_zero, List.length_cons, List.length_nil, List.reverse_cons, List.reverse_nil, List.nil_append, List.cons_append, List.append_nil, List.getElem?_cons_zero, List.getElem?_cons_succ, List.set_cons_zero, List.set_cons_succ, Nat.add_sub_cancel_left, Nat.sub_self, Nat.add_zero, Nat.zero_add, Nat.le_add_right, Nat.le_refl, true_and, and_true, va_rf, zok, Nat.add_left_cancel_iff, Nat.add_eq_left, Nat.left_eq_add, eq_self, if_true, if_false, not_false_eq_true, not_true_eq_false, false_implies, true_implies, Nat.reduceEqDiff, Nat.reduceAdd, Nat.reduceLT, Nat.reduceLeDiff, reduceIte, q3, B_X5_isPairAboard_0, B_X5_isPairAboard_41, B_X5_isPairAboard_42]
        simp [q2, q3] at hP
        exact ⟨Or.inl trivial, hP⟩
    · simp only [e_cut, e_iload, e_aload, e_istore, e_astore, e_iinc, e_const, e_lconst, e_bin, e_bin0, e_un, e_ladd, e_dupi, e_dupr, e_dup2, e_pop, e_if, e_icmp, e_sw, e_sw0, e_sw1, e_get, e_put, e_ald, e_ast, e_aald, e_aast, e_copy, e_new, e_newa, e_anewa, e_min, e_abs, e_oinit, e_callI, e_callV, e_callS, e_iret, e_zret, e_lret, e_vret, e_tl1, e_tl0, e_tl2, e_tl3, z10, Bool.false_eq_true, e_argi, e_argr, e_argn, zld_c, zst_n, zst_c, zpick_n, zpick_c, List.drop_succ_cons, List.drop_zero, List.take_succ_cons, List.take_zero, List.length_cons, List.length_nil, List.reverse_cons, List.reverse_nil, List.nil_append, List.cons_append, List.append_nil, List.getElem?_cons_zero, List.getElem?_cons_succ, List.set_cons_zero, List.set_cons_succ, Nat.add_sub_cancel_left, Nat.sub_self, Nat.add_zero, Nat.zero_add, Nat.le_add_right, Nat.le_refl, true_and, and_true, va_rf, zok, Nat.add_left_cancel_iff, Nat.add_eq_left, Nat.left_eq_add, eq_self, if_true, if_false, not_false_eq_true, not_true_eq_false, false_implies, true_implies, Nat.reduceEqDiff, Nat.reduceAdd, Nat.reduceLT, Nat.reduceLeDiff, reduceIte, q2, B_X5_isPairAboard_0, B_X5_isPairAboard_41, B_X5_isPairAboard_42]
      simp [q2] at hP
      exact ⟨Or.inl trivial, hP⟩
  · have : ¬ zisA n c x y = true := by unfold zisA; simp [q1]
    rw [if_neg this] at hP
    simp only [e_cut, e_iload, e_aload, e_istore, e_astore, e_iinc, e_const, e_lconst, e_bin, e_bin0, e_un, e_ladd, e_dupi, e_dupr, e_dup2, e_pop, e_if, e_icmp, e_sw, e_sw0, e_sw1, e_get, e_put, e_ald, e_ast, e_aald, e_aast, e_copy, e_new, e_newa, e_anewa, e_min, e_abs, e_oinit, e_callI, e_callV, e_callS, e_iret, e_zret, e_lret, e_vret, e_tl1, e_tl0, e_tl2, e_tl3, z10, Bool.false_eq_true, e_argi, e_argr, e_argn, zld_c, zst_n, zst_c, zpick_n, zpick_c, List.drop_succ_cons, List.drop_zero, List.take_succ_cons, List.take_zero, List.length_cons, List.length_nil, List.reverse_cons, List.reverse_nil, List.nil_append, List.cons_append, List.append_nil, List.getElem?_cons_zero, List.getElem?_cons_succ, List.set_cons_zero, List.set_cons_succ, Nat.add_sub_cancel_left, Nat.sub_self, Nat.add_zero, Nat.zero_add, Nat.le_add_right, Nat.le_refl, true_and, and_true, va_rf, zok, Nat.add_left_cancel_iff, Nat.add_eq_left, Nat.left_eq_add, eq_self, if_true, if_false, not_false_eq_true, not_true_eq_false, false_implies, true_implies, Nat.reduceEqDiff, Nat.reduceAdd, Nat.reduceLT, Nat.reduceLeDiff, reduceIte, q1, B_X5_isPairAboard_0, B_X5_isPairAboard_41, B_X5_isPairAboard_42]
    exact ⟨Or.inl trivial, hP⟩
set_option maxRecDepth 20000 in
theorem f_X5_isPairAboard_29 : Cond.fieldLink RX5 29 (TX5 3).1 (TX5 3).2.1 (TX5 3).2.2.1 ∈ wsX5_isPairAboard := by decide +kernel
set_option maxRecDepth 20000 in
theorem k_X5_isPairAboard_5 : ∀ w ∈ u_ws RX5 TX5 11, w ∈ wsX5_isPairAboard := fun _ h => List.mem_cons_of_mem _ (List.mem_append_left _ (List.mem_append_left _ (List.mem_append_left _ (List.mem_append_right _ h))))
set_option maxRecDepth 20000 in
theorem f_X5_isPairAboard_76 : Cond.fieldLink RX5 76 (TX0 0).1 (TX0 0).2.1 (TX0 0).2.2.1 ∈ wsX5_isPairAboard := by decide +kernel
set_option maxRecDepth 20000 in
theorem k_X5_isPairAboard_0 : ∀ w ∈ u_ws RX0 TX0 2, w ∈ wsX5_isPairAboard := fun _ h => List.mem_cons_of_mem _ (List.mem_append_left _ (List.mem_append_left _ (List.mem_append_right _ h)))
set_option maxRecDepth 100000 in
set_option maxHeartbeats 4000000 in
theorem S_X5_isPairAboard_42 {p : Program} {e : Env} {s : State} {m : MethodId} {args : Array Value} {below : List Frame} {meth : Method} {c : Code} {D : va_G} {cy : zY} {b n0 : Nat} {P : zPo} (la : Launch) (X : zX p la e (rm_X5_isPairAboard) s m args below meth c 3 D cy b n0 cX5_isPairAboard wsX5_isPairAboard RX5) (hr : meth.sig.returnType = (some .boolean)) (h_X1_isAboard : zMet la yX1_isAboard wsX1_isAboard rm_X1_isAboard 0 0 sp_X1_isAboard) (h_X5_isPair : zMet la yX5_isPair wsX5_isPair rm_X5_isPair 0 0 sp_X5_isPair) : zS p la e (rm_X5_isPairAboard) s m args below meth c (MQ below (zQ D b (n0 + 0) P) args s 0 0 (fun q => b ≤ q)) 3 D b n0 42 (B_X5_isPairAboard_42 b n0 cy P (zAt p la e (rm_X5_isPairAboard) s m args below meth c (MQ below (zQ D b (n0 + 0) P) args s 0 0 (fun q => b ≤ q)) 3 D b n0)) := by
  unfold B_X5_isPairAboard_42
  exact (s_zret X dX5_isPairAboard_42 hr)
set_option maxRecDepth 100000 in
set_option maxHeartbeats 4000000 in
theorem S_X5_isPairAboard_41 {p : Program} {e : Env} {s : State} {m : MethodId} {args : Array Value} {below : List Frame} {meth : Method} {c : Code} {D : va_G} {cy : zY} {b n0 : Nat} {P : zPo} (la : Launch) (X : zX p la e (rm_X5_isPairAboard) s m args below meth c 3 D cy b n0 cX5_isPairAboard wsX5_isPairAboard RX5) (hr : meth.sig.returnType = (some .boolean)) (h_X1_isAboard : zMet la yX1_isAboard wsX1_isAboard rm_X1_isAboard 0 0 sp_X1_isAboard) (h_X5_isPair : zMet la yX5_isPair wsX5_isPair rm_X5_isPair 0 0 sp_X5_isPair) : zS p la e (rm_X5_isPairAboard) s m args below meth c (MQ below (zQ D b (n0 + 0) P) args s 0 0 (fun q => b ≤ q)) 3 D b n0 41 (B_X5_isPairAboard_41 b n0 cy P (zAt p la e (rm_X5_isPairAboard) s m args below meth c (MQ below (zQ D b (n0 + 0) P) args s 0 0 (fun q => b ≤ q)) 3 D b n0)) := by
  unfold B_X5_isPairAboard_41
  exact (s_iconst X dX5_isPairAboard_41 (by decide) (S_X5_isPairAboard_42 la X hr h_X1_isAboard h_X5_isPair))
set_option maxRecDepth 100000 in
set_option maxHeartbeats 4000000 in
theorem S_X5_isPairAboard_0 {p : Program} {e : Env} {s : State} {m : MethodId} {args : Array Value} {below : List Frame} {meth : Method} {c : Code} {D : va_G} {cy : zY} {b n0 : Nat} {P : zPo} (la : Launch) (X : zX p la e (rm_X5_isPairAboard) s m args below meth c 3 D cy b n0 cX5_isPairAboard wsX5_isPairAboard RX5) (hr : meth.sig.returnType = (some .boolean)) (h_X1_isAboard : zMet la yX1_isAboard wsX1_isAboard rm_X1_isAboard 0 0 sp_X1_isAboard) (h_X5_isPair : zMet la yX5_isPair wsX5_isPair rm_X5_isPair 0 0 sp_X5_isPair) : zS p la e (rm_X5_isPairAboard) s m args below meth c (MQ below (zQ D b (n0 + 0) P) args s 0 0 (fun q => b ≤ q)) 3 D b n0 0 (B_X5_isPairAboard_0 b n0 cy P (zAt p la e (rm_X5_isPairAboard) s m args below meth c (MQ below (zQ D b (n0 + 0) P) args s 0 0 (fun q => b ≤ q)) 3 D b n0)) := by
  unfold B_X5_isPairAboard_0
  exact (s_aload_n X dX5_isPairAboard_0 rfl (s_iload_n X dX5_isPairAboard_1 rfl (s_iload_n X dX5_isPairAboard_2 rfl (s_callV X h_X5_isPair dX5_isPairAboard_3 rfl gX5_isPairAboard_X5_isPair rfl rfl rfl (by decide +kernel) ⟨by decide, by decide⟩ (s_if_eq X dX5_isPairAboard_6 (by decide) (S_X5_isPairAboard_41 la X hr h_X1_isAboard h_X5_isPair) (s_aload_n X dX5_isPairAboard_9 rfl (s_get X dX5_isPairAboard_10 rfl k_X5_isPairAboard_5 (by decide) f_X5_isPairAboard_29 (s_get X dX5_isPairAboard_13 rfl k_X5_isPairAboard_0 (by decide) f_X5_isPairAboard_76 (s_iload_n X dX5_isPairAboard_16 rfl (s_callV X h_X1_isAboard dX5_isPairAboard_17 rfl gX5_isPairAboard_X1_isAboard rfl rfl rfl (by decide +kernel) ⟨by decide, by decide⟩ (s_if_eq X dX5_isPairAboard_20 (by decide) (S_X5_isPairAboard_41 la X hr h_X1_isAboard h_X5_isPair) (s_aload_n X dX5_isPairAboard_23 rfl (s_get X dX5_isPairAboard_24 rfl k_X5_isPairAboard_5 (by decide) f_X5_isPairAboard_29 (s_get X dX5_isPairAboard_27 rfl k_X5_isPairAboard_0 (by decide) f_X5_isPairAboard_76 (s_iload_n X dX5_isPairAboard_30 rfl (s_callV X h_X1_isAboard dX5_isPairAboard_31 rfl gX5_isPairAboard_X1_isAboard rfl rfl rfl (by decide +kernel) ⟨by decide, by decide⟩ (s_if_eq X dX5_isPairAboard_34 (by decide) (S_X5_isPairAboard_41 la X hr h_X1_isAboard h_X5_isPair) (s_iconst X dX5_isPairAboard_37 (by decide) (s_goto X dX5_isPairAboard_38 (by decide) (S_X5_isPairAboard_42 la X hr h_X1_isAboard h_X5_isPair))))))))))))))))))))
theorem w_X5_isPairAboard (la : Launch) (h_X1_isAboard : zMet la yX1_isAboard wsX1_isAboard rm_X1_isAboard 0 0 sp_X1_isAboard) (h_X5_isPair : zMet la yX5_isPair wsX5_isPair rm_X5_isPair 0 0 sp_X5_isPair) (sp : zSp) (vc : zVC_X5_isPairAboard sp) : zMet la yX5_isPairAboard wsX5_isPairAboard (rm_X5_isPairAboard) 0 0 sp :=
  z_of (cc := cX5_isPairAboard) (maxL := 3) (ret := (some .boolean)) (by decide +kernel) rfl (fun p e s m args below meth c D cy b n as E P hsp X hr hin => by
    obtain ⟨h1, h2⟩ := vc b cy n as E P (zAt p la e (rm_X5_isPairAboard) s m args below meth c (MQ below (zQ D b (n + 0) P) args s 0 0 (fun q => b ≤ q)) 3 D b n) hsp
    exact ⟨h1, S_X5_isPairAboard_0 la X hr h_X1_isAboard h_X5_isPair _ _ _ _ _ h2⟩)

theorem m_X5_isPairAboard (la : Launch) : zMet la yX5_isPairAboard wsX5_isPairAboard rm_X5_isPairAboard 0 0 sp_X5_isPairAboard := w_X5_isPairAboard la (m_X1_isAboard la) (m_X5_isPair la) _ vc_X5_isPairAboard
/-! odds -/
def zahead (n : Nat) (c : Nat → Nat) (r q : Nat) : Nat := zsum (fun o => if o ≠ r ∧ (c 1).testBit o = true ∧ c (16 + 6 * q + r) < c (16 + 6 * o + r) then 1 else 0) n
def sp_X5_aheadOf : zSp := fun b cy as N E P => ∃ (n : Nat) (lo la : Nat → Nat) (c : Nat → Nat) (r q : Nat), as = [.ref b, .int (nI r), .int (nI q)] ∧ zP2 b cy N E n lo la c ∧ r < 6 ∧ q < 6 ∧ P (some (.int (nI (zahead n c r q)))) E
abbrev rm_X5_aheadOf : Room := { frames := 2, cells := 0, slots := 0, locals := 62 }
def B_X5_aheadOf_64 (b n0 : Nat) (cy : zY) (P : zPo) (A : Nat → zC) : zC :=
  z_iinc 6 (1) (z_cut [0, 1, 3, 4, 5, 6] (A 22))
def B_X5_aheadOf_22 (b n0 : Nat) (cy : zY) (P : zPo) (A : Nat → zC) : zC :=
  z_iload 6 (z_aload 0 (z_get b n0 5 1 (z_get b n0 4 0 (z_icmp (fun x y => y ≤ x) (z_iload 5 (z_iret 0 0 P)) (z_iload 6 (z_iload 1 (z_icmp (fun x y => x = y) (B_X5_aheadOf_64 b n0 cy P A) (z_aload 3 (z_iload 6 (z_callV b n0 0 0 cy 1 1 0 0 sp_X1_isAboard (z_if (fun x => x = 0) (B_X5_aheadOf_64 b n0 cy P A) (z_aload 3 (z_iload 6 (z_iload 1 (z_callV b n0 0 0 cy 1 2 0 0 sp_X1_thoughtOf (z_iload 4 (z_icmp (fun x y => x ≤ y) (B_X5_aheadOf_64 b n0 cy P A) (z_iinc 5 (1) (B_X5_aheadOf_64 b n0 cy P A)))))))))))))))))))
def B_X5_aheadOf_0 (b n0 : Nat) (cy : zY) (P : zPo) (A : Nat → zC) : zC :=
  z_aload 0 (z_get b n0 5 3 (z_get b n0 0 0 (z_astore 3 (z_aload 3 (z_iload 2 (z_iload 1 (z_callV b n0 0 0 cy 1 2 0 0 sp_X1_thoughtOf (z_istore 4 (z_const (0) (z_istore 5 (z_const (0) (z_istore 6 (z_cut [0, 1, 3, 4, 5, 6] (A 22))))))))))))))
def zVC_X5_aheadOf (sp : zSp) : Prop := ∀ (b : Nat) (cy : zY) (n : Nat) (as : List Value) (E : zE) (P : zPo) (A : Nat → zC), (∀ l st k u E, B_X5_aheadOf_22 b n cy P A l st k u E → A 22 l st k u E) → sp b cy as n E P → zgood as 7 ∧ B_X5_aheadOf_0 b n cy P A (lv_args 0 as) [] 0 0 E

set_option maxRecDepth 100000 in
set_option maxHeartbeats 4000000 in
theorem vc_X5_aheadOf : zVC_X5_aheadOf sp_X5_aheadOf := by
  intro b cy N as E P A hA hsp
  obtain ⟨n, lo, la, c, r, q, rfl, ⟨hp1, e11⟩, hr, hq, hP⟩ := hsp
  refine ⟨⟨Nat.le_of_ble_eq_true rfl, zg1 rfl (zg1 rfl (zg1 rfl (zg0)))⟩, ?_⟩
  obtain ⟨⟨⟨kept, cnt, tr, e0⟩, ⟨seat, line, items, ⟨hn, tf, tg, th, h0, h1, h2, h3, htf, htg, hth⟩⟩, hlo⟩, hmo, hok, hi, hN⟩ := id hp1
  have N0 : 0 < N := by omega
  have N3 : 3 < N := by omega
  have N11 : 11 < N := by omega
  have N12 : 12 < N := by omega
  obtain ⟨hn1, mf, mg, mh, m0, m1, m2, m3, hmf, hmg, hmh⟩ := id hmo
  unfold zahead at hP
  generalize hg : (fun o => if o ≠ r ∧ (c 1).testBit o = true ∧ c (16 + 6 * q + r) < c (16 + 6 * o + r) then 1 else 0) = g at hP
  have loop : ∀ (d k : Nat) (hd : d + k = n), A 22 [(0, .ref b), (1, .int (nI r)), (3, .ref (b + 12)), (4, .int (nI (c (16 + 6 * q + r)))), (5, .int (nI (zsum g k))), (6, .int (nI k))] [] 0 0 E := by
    intro d
    induction d with
    | zero =>
      intro k hd
      obtain rfl : k = n := by omega
      apply hA
      have cle : nI k ≤ nI k := nI_le (Nat.le_refl _) (by omega)
      simp only [B_X5_aheadOf_0, B_X5_aheadOf_22, B_X5_aheadOf_64, e_cut, e_iload, e_aload, e_istore, e_astore, e_iinc, e_const, e_lconst, e_bin, e_bin0, e_un, e_ladd, e_dupi, e_dupr, e_dup2, e_pop, e_if, e_icmp, e_sw, e_sw0, e_sw1, e_get, e_put, e_ald, e_ast, e_aald, e_aast, e_copy, e_new, e_newa, e_anewa, e_min, e_abs, e_oinit, e_callI, e_callV, e_callS, e_iret, e_zret, e_lret, e_vret, e_tl1, e_tl0, e_tl2, e_tl3, z10, Bool.false_eq_true, e_argi, e_argr, e_argn, zld_c, zst_n, zst_c, zpick_n, zpick_c, List.drop_succ_cons, List.drop_zero, List.take_succ_cons, List.take_zero, List.length_cons, List.length_nil, List.reverse_cons, List.reverse_nil, List.nil_append, List.cons_append, List.append_nil, List.getElem?_cons_zero, List.getElem?_cons_succ, List.set_cons_zero, List.set_cons_succ, Nat.add_sub_cancel_left, Nat.sub_self, Nat.add_zero, Nat.zero_add, Nat.le_add_right, Nat.le_refl, true_and, and_true, va_rf, zok, Nat.add_left_cancel_iff, Nat.add_eq_left, Nat.left_eq_add, eq_self, if_true, if_false, not_false_eq_true, not_true_eq_false, false_implies, true_implies, Nat.reduceEqDiff, Nat.reduceAdd, Nat.reduceLT, Nat.reduceLeDiff, reduceIte, zB0, e0, N0, N3, h0, cle]
      exact hP
    | succ d ih =>
      intro k hd
      have hk : k < n := by omega
      have hk6 : k < 6 := by omega
      apply hA
      have cle : ¬ nI n ≤ nI k := nI_ge hk (by omega)
      have h9 := ih (k + 1) (by omega)
      rw [zsum] at h9
      simp only [B_X5_aheadOf_0, B_X5_aheadOf_22, B_X5_aheadOf_64, e_cut, e_iload, e_aload, e_istore, e_astore, e_iinc, e_const, e_lconst, e_bin, e_bin0, e_un, e_ladd, e_dupi, e_dupr, e_dup2, e_pop, e_if, e_icmp, e_sw, e_sw0, e_sw1, e_get, e_put, e_ald, e_ast, e_aald, e_aast, e_copy, e_new, e_newa, e_anewa, e_min, e_abs, e_oinit, e_callI, e_callV, e_callS, e_iret, e_zret, e_lret, e_vret, e_tl1, e_tl0, e_tl2, e_tl3, z10, Bool.false_eq_true, e_argi, e_argr, e_argn, zld_c, zst_n, zst_c, zpick_n, zpick_c, List.drop_succ_cons, List.drop_zero, List.take_succ_cons, List.take_zero, List.length_cons, List.length_nil, List.reverse_cons, List.reverse_nil, List.nil_append, List.cons_append, List.append_nil, List.getElem?_cons_zero, List.getElem?_cons_succ, List.set_cons_zero, List.set_cons_succ, Nat.add_sub_cancel_left, Nat.sub_self, Nat.add_zero, Nat.zero_add, Nat.le_add_right, Nat.le_refl, true_and, and_true, va_rf, zok, Nat.add_left_cancel_iff, Nat.add_eq_left, Nat.left_eq_add, eq_self, if_true, if_false, not_false_eq_true, not_true_eq_false, false_implies, true_implies, Nat.reduceEqDiff, Nat.reduceAdd, Nat.reduceLT, Nat.reduceLeDiff, reduceIte, zB0, e0, N0, N3, h0, cle, nI_eq (show k < 2 ^ 31 by omega) (show r < 2 ^ 31 by omega), m0, N12, nI_1]
      by_cases q0 : k = r
      · have e : g k = 0 := by rw [← hg]; simp [q0]
        rw [e] at h9
        exact ⟨fun _ => h9, fun c1 => absurd q0 c1⟩
      · refine ⟨fun c1 => absurd c1 q0, fun _ => ?_⟩
        refine ⟨12, k, n, c, rfl, hmo, hi, hk6, hok.l64, ?_⟩
        by_cases q1 : (c 1).testBit k = true
        · simp only [q1, e_cut, e_iload, e_aload, e_istore, e_astore, e_iinc, e_const, e_lconst, e_bin, e_bin0, e_un, e_ladd, e_dupi, e_dupr, e_dup2, e_pop, e_if, e_icmp, e_sw, e_sw0, e_sw1, e_get, e_put, e_ald, e_ast, e_aald, e_aast, e_copy, e_new, e_newa, e_anewa, e_min, e_abs, e_oinit, e_callI, e_callV, e_callS, e_iret, e_zret, e_lret, e_vret, e_tl1, e_tl0, e_tl2, e_tl3, z10, Bool.false_eq_true, e_argi, e_argr, e_argn, zld_c, zst_n, zst_c, zpick_n, zpick_c, List.drop_succ_cons, List.drop_zero, List.take_succ_cons, List.take_zero, List.length_cons, List.length_nil, List.reverse_cons, List.reverse_nil, List.nil_append, List.cons_append, List.append_nil, List.getElem?_cons_zero, List.getElem?_cons_succ, List.set_cons_zero, List.set_cons_succ, Nat.add_sub_cancel_left, Nat.sub_self, Nat.add_zero, Nat.zero_add, Nat.le_add_right, Nat.le_refl, true_and, and_true, va_rf, zok, Nat.add_left_cancel_iff, Nat.add_eq_left, Nat.left_eq_add, eq_self, if_true, if_false, not_false_eq_true, not_true_eq_false, false_implies, true_implies, Nat.reduceEqDiff, Nat.reduceAdd, Nat.reduceLT, Nat.reduceLeDiff, reduceIte, N12, m0]
          refine ⟨12, k, r, n, c, rfl, hmo, hi, hk6, hr, ?_⟩
          simp only [e_cut, e_iload, e_aload, e_istore, e_astore, e_iinc, e_const, e_lconst, e_bin, e_bin0, e_un, e_ladd, e_dupi, e_dupr, e_dup2, e_pop, e_if, e_icmp, e_sw, e_sw0, e_sw1, e_get, e_put, e_ald, e_ast, e_aald, e_aast, e_copy, e_new, e_newa, e_anewa, e_min, e_abs, e_oinit, e_callI, e_callV, e_callS, e_iret, e_zret, e_lret, e_vret, e_tl1, e_tl0, e_tl2, e_tl3, z10, Bool.false_eq_true, e_argi, e_argr, e_argn, zld_c, zst_n, zst_c, zpick_n, zpick_c, List.drop_succ_cons, List.drop_zero, List.take_succ_cons, List.take_zero, List.length_cons, List.length_nil, List.reverse_cons, List.reverse_nil, List.nil_append, List.cons_append, List.append_nil, List.getElem?_cons_zero, List.getElem?_cons_succ, List.set_cons_zero, List.set_cons_succ, Nat.add_sub_cancel_left, Nat.sub_self, Nat.add_zero, Nat.zero_add, Nat.le_add_right, Nat.le_refl, true_and, and_true, va_rf, zok, Nat.add_left_cancel_iff, Nat.add_eq_left, Nat.left_eq_add, eq_self, if_true, if_false, not_false_eq_true, not_true_eq_false, false_implies, true_implies, Nat.reduceEqDiff, Nat.reduceAdd, Nat.reduceLT, Nat.reduceLeDiff, reduceIte, nI_1, nI_leI (hok.lat hk6 hr) (hok.lat hq hr), B_X5_aheadOf_0, B_X5_aheadOf_22, B_X5_aheadOf_64]
          refine ⟨fun c2 => ?_, fun c2 => ?_⟩
          · have e : g k = 0 := by rw [← hg]; simp; intro _ _; omega
            rw [e] at h9; exact h9
          · have e : g k = 1 := by rw [← hg]; simp [q0, q1]; omega
            rw [e] at h9; exact h9
        · have e : g k = 0 := by rw [← hg]; simp [q1]
          rw [e] at h9
          simp only [q1, e_cut, e_iload, e_aload, e_istore, e_astore, e_iinc, e_const, e_lconst, e_bin, e_bin0, e_un, e_ladd, e_dupi, e_dupr, e_dup2, e_pop, e_if, e_icmp, e_sw, e_sw0, e_sw1, e_get, e_put, e_ald, e_ast, e_aald, e_aast, e_copy, e_new, e_newa, e_anewa, e_min, e_abs, e_oinit, e_callI, e_callV, e_callS, e_iret, e_zret, e_lret, e_vret, e_tl1, e_tl0, e_tl2, e_tl3, z10, Bool.false_eq_true, e_argi, e_argr, e_argn, zld_c, zst_n, zst_c, zpick_n, zpick_c, List.drop_succ_cons, List.drop_zero, List.take_succ_cons, List.take_zero, List.length_cons, List.length_nil, List.reverse_cons, List.reverse_nil, List.nil_append, List.cons_append, List.append_nil, List.getElem?_cons_zero, List.getElem?_cons_succ, List.set_cons_zero, List.set_cons_succ, Nat.add_sub_cancel_left, Nat.sub_self, Nat.add_zero, Nat.zero_add, Nat.le_add_right, Nat.le_refl, true_and, and_true, va_rf, zok, Nat.add_left_cancel_iff, Nat.add_eq_left, Nat.left_eq_add, eq_self, if_true, if_false, not_false_eq_true, not_true_eq_false, false_implies, true_implies, Nat.reduceEqDiff, Nat.reduceAdd, Nat.reduceLT, Nat.reduceLeDiff, reduceIte, nI_1, B_X5_aheadOf_0, B_X5_aheadOf_22, B_X5_aheadOf_64]
          exact h9
  simp only [B_X5_aheadOf_0, B_X5_aheadOf_22, B_X5_aheadOf_64, e_cut, e_iload, e_aload, e_istore, e_astore, e_iinc, e_const, e_lconst, e_bin, e_bin0, e_un, e_ladd, e_dupi, e_dupr, e_dup2, e_pop, e_if, e_icmp, e_sw, e_sw0, e_sw1, e_get, e_put, e_ald, e_ast, e_aald, e_aast, e_copy, e_new, e_newa, e_anewa, e_min, e_abs, e_oinit, e_callI, e_callV, e_callS, e_iret, e_zret, e_lret, e_vret, e_tl1, e_tl0, e_tl2, e_tl3, z10, Bool.false_eq_true, e_argi, e_argr, e_argn, zld_c, zst_n, zst_c, zpick_n, zpick_c, List.drop_succ_cons, List.drop_zero, List.take_succ_cons, List.take_zero, List.length_cons, List.length_nil, List.reverse_cons, List.reverse_nil, List.nil_append, List.cons_append, List.append_nil, List.getElem?_cons_zero, List.getElem?_cons_succ, List.set_cons_zero, List.set_cons_succ, Nat.add_sub_cancel_left, Nat.sub_self, Nat.add_zero, Nat.zero_add, Nat.le_add_right, Nat.le_refl, true_and, and_true, va_rf, zok, Nat.add_left_cancel_iff, Nat.add_eq_left, Nat.left_eq_add, eq_self, if_true, if_false, not_false_eq_true, not_true_eq_false, false_implies, true_implies, Nat.reduceEqDiff, Nat.reduceAdd, Nat.reduceLT, Nat.reduceLeDiff, reduceIte, zB0, e0, N0, N11, e11, N12, m0]
  refine ⟨12, q, r, n, c, rfl, hmo, hi, hq, hr, ?_⟩
  simp only [e_cut, e_iload, e_aload, e_istore, e_astore, e_iinc, e_const, e_lconst, e_bin, e_bin0, e_un, e_ladd, e_dupi, e_dupr, e_dup2, e_pop, e_if, e_icmp, e_sw, e_sw0, e_sw1, e_get, e_put, e_ald, e_ast, e_aald, e_aast, e_copy, e_new, e_newa, e_anewa, e_min, e_abs, e_oinit, e_callI, e_callV, e_callS, e_iret, e_zret, e_lret, e_vret, e_tl1, e_tl0, e_tl2, e_tl3, z10, Bool.false_eq_true, e_argi, e_argr, e_argn, zld_c, zst_n, zst_c, zpick_n, zpick_c, List.drop_succ_cons, List.drop_zero, List.take_succ_cons, List.take_zero, List.length_cons, List.length_nil, List.reverse_cons, List.reverse_nil, List.nil_append, List.cons_append, List.append_nil, List.getElem?_cons_zero, List.getElem?_cons_succ, List.set_cons_zero, List.set_cons_succ, Nat.add_sub_cancel_left, Nat.sub_self, Nat.add_zero, Nat.zero_add, Nat.le_add_right, Nat.le_refl, true_and, and_true, va_rf, zok, Nat.add_left_cancel_iff, Nat.add_eq_left, Nat.left_eq_add, eq_self, if_true, if_false, not_false_eq_true, not_true_eq_false, false_implies, true_implies, Nat.reduceEqDiff, Nat.reduceAdd, Nat.reduceLT, Nat.reduceLeDiff, reduceIte]
  exact loop n 0 rfl
set_option maxRecDepth 20000 in
theorem f_X5_aheadOf_19 : Cond.fieldLink RX5 19 (TX5 1).1 (TX5 1).2.1 (TX5 1).2.2.1 ∈ wsX5_aheadOf := by decide +kernel
set_option maxRecDepth 20000 in
theorem k_X5_aheadOf_5 : ∀ w ∈ u_ws RX5 TX5 11, w ∈ wsX5_aheadOf := fun _ h => List.mem_cons_of_mem _ (List.mem_append_left _ (List.mem_append_left _ (List.mem_append_left _ (List.mem_append_right _ h))))
set_option maxRecDepth 20000 in
theorem f_X5_aheadOf_200 : Cond.fieldLink RX5 200 (TX4 0).1 (TX4 0).2.1 (TX4 0).2.2.1 ∈ wsX5_aheadOf := by decide +kernel
set_option maxRecDepth 20000 in
theorem k_X5_aheadOf_4 : ∀ w ∈ u_ws RX4 TX4 6, w ∈ wsX5_aheadOf := fun _ h => List.mem_cons_of_mem _ (List.mem_append_left _ (List.mem_append_right _ h))
set_option maxRecDepth 20000 in
theorem f_X5_aheadOf_29 : Cond.fieldLink RX5 29 (TX5 3).1 (TX5 3).2.1 (TX5 3).2.2.1 ∈ wsX5_aheadOf := by decide +kernel
set_option maxRecDepth 20000 in
theorem f_X5_aheadOf_76 : Cond.fieldLink RX5 76 (TX0 0).1 (TX0 0).2.1 (TX0 0).2.2.1 ∈ wsX5_aheadOf := by decide +kernel
set_option maxRecDepth 20000 in
theorem k_X5_aheadOf_0 : ∀ w ∈ u_ws RX0 TX0 2, w ∈ wsX5_aheadOf := fun _ h => List.mem_cons_of_mem _ (List.mem_append_left _ (List.mem_append_left _ (List.mem_append_right _ h)))
set_option maxRecDepth 100000 in
set_option maxHeartbeats 4000000 in
theorem S_X5_aheadOf_64 {p : Program} {e : Env} {s : State} {m : MethodId} {args : Array Value} {below : List Frame} {meth : Method} {c : Code} {D : va_G} {cy : zY} {b n0 : Nat} {P : zPo} (la : Launch) (X : zX p la e (rm_X5_aheadOf) s m args below meth c 7 D cy b n0 cX5_aheadOf wsX5_aheadOf RX5) (hr : meth.sig.returnType = (some .int)) (h_X1_isAboard : zMet la yX1_isAboard wsX1_isAboard rm_X1_isAboard 0 0 sp_X1_isAboard) (h_X1_thoughtOf : zMet la yX1_thoughtOf wsX1_thoughtOf rm_X1_thoughtOf 0 0 sp_X1_thoughtOf) : zS p la e (rm_X5_aheadOf) s m args below meth c (MQ below (zQ D b (n0 + 0) P) args s 0 0 (fun q => b ≤ q)) 7 D b n0 64 (B_X5_aheadOf_64 b n0 cy P (zAt p la e (rm_X5_aheadOf) s m args below meth c (MQ below (zQ D b (n0 + 0) P) args s 0 0 (fun q => b ≤ q)) 7 D b n0)) := by
  unfold B_X5_aheadOf_64
  exact (s_iinc X dX5_aheadOf_64 (by decide) (by decide) (s_goto X dX5_aheadOf_67 (by decide) (s_cut (by decide) zS_at)))
set_option maxRecDepth 100000 in
set_option maxHeartbeats 4000000 in
theorem S_X5_aheadOf_22 {p : Program} {e : Env} {s : State} {m : MethodId} {args : Array Value} {below : List Frame} {meth : Method} {c : Code} {D : va_G} {cy : zY} {b n0 : Nat} {P : zPo} (la : Launch) (X : zX p la e (rm_X5_aheadOf) s m args below meth c 7 D cy b n0 cX5_aheadOf wsX5_aheadOf RX5) (hr : meth.sig.returnType = (some .int)) (h_X1_isAboard : zMet la yX1_isAboard wsX1_isAboard rm_X1_isAboard 0 0 sp_X1_isAboard) (h_X1_thoughtOf : zMet la yX1_thoughtOf wsX1_thoughtOf rm_X1_thoughtOf 0 0 sp_X1_thoughtOf) : zS p la e (rm_X5_aheadOf) s m args below meth c (MQ below (zQ D b (n0 + 0) P) args s 0 0 (fun q => b ≤ q)) 7 D b n0 22 (B_X5_aheadOf_22 b n0 cy P (zAt p la e (rm_X5_aheadOf) s m args below meth c (MQ below (zQ D b (n0 + 0) P) args s 0 0 (fun q => b ≤ q)) 7 D b n0)) := by
  unfold B_X5_aheadOf_22
  exact (s_iload X dX5_aheadOf_22 (s_aload_n X dX5_aheadOf_24 rfl (s_get X dX5_aheadOf_25 rfl k_X5_aheadOf_5 (by decide) f_X5_aheadOf_19 (s_get X dX5_aheadOf_28 rfl k_X5_aheadOf_4 (by decide) f_X5_aheadOf_200 (s_icmp_ge X dX5_aheadOf_31 (by decide) (s_iload X dX5_aheadOf_70 (s_iret X dX5_aheadOf_72 hr)) (s_iload X dX5_aheadOf_34 (s_iload_n X dX5_aheadOf_36 rfl (s_icmp_eq X dX5_aheadOf_37 (by decide) (S_X5_aheadOf_64 la X hr h_X1_isAboard h_X1_thoughtOf) (s_aload_n X dX5_aheadOf_40 rfl (s_iload X dX5_aheadOf_41 (s_callV X h_X1_isAboard dX5_aheadOf_43 rfl gX5_aheadOf_X1_isAboard rfl rfl rfl (by decide +kernel) ⟨by decide, by decide⟩ (s_if_eq X dX5_aheadOf_46 (by decide) (S_X5_aheadOf_64 la X hr h_X1_isAboard h_X1_thoughtOf) (s_aload_n X dX5_aheadOf_49 rfl (s_iload X dX5_aheadOf_50 (s_iload_n X dX5_aheadOf_52 rfl (s_callV X h_X1_thoughtOf dX5_aheadOf_53 rfl gX5_aheadOf_X1_thoughtOf rfl rfl rfl (by decide +kernel) ⟨by decide, by decide⟩ (s_iload X dX5_aheadOf_56 (s_icmp_le X dX5_aheadOf_58 (by decide) (S_X5_aheadOf_64 la X hr h_X1_isAboard h_X1_thoughtOf) (s_iinc X dX5_aheadOf_61 (by decide) (by decide) (S_X5_aheadOf_64 la X hr h_X1_isAboard h_X1_thoughtOf))))))))))))))))))))
set_option maxRecDepth 100000 in
set_option maxHeartbeats 4000000 in
theorem S_X5_aheadOf_0 {p : Program} {e : Env} {s : State} {m : MethodId} {args : Array Value} {below : List Frame} {meth : Method} {c : Code} {D : va_G} {cy : zY} {b n0 : Nat} {P : zPo} (la : Launch) (X : zX p la e (rm_X5_aheadOf) s m args below meth c 7 D cy b n0 cX5_aheadOf wsX5_aheadOf RX5) (hr : meth.sig.returnType = (some .int)) (h_X1_isAboard : zMet la yX1_isAboard wsX1_isAboard rm_X1_isAboard 0 0 sp_X1_isAboard) (h_X1_thoughtOf : zMet la yX1_thoughtOf wsX1_thoughtOf rm_X1_thoughtOf 0 0 sp_X1_thoughtOf) : zS p la e (rm_X5_aheadOf) s m args below meth c (MQ below (zQ D b (n0 + 0) P) args s 0 0 (fun q => b ≤ q)) 7 D b n0 0 (B_X5_aheadOf_0 b n0 cy P (zAt p la e (rm_X5_aheadOf) s m args below meth c (MQ below (zQ D b (n0 + 0) P) args s 0 0 (fun q => b ≤ q)) 7 D b n0)) := by
  unfold B_X5_aheadOf_0
  exact (s_aload_n X dX5_aheadOf_0 rfl (s_get X dX5_aheadOf_1 rfl k_X5_aheadOf_5 (by decide) f_X5_aheadOf_29 (s_get X dX5_aheadOf_4 rfl k_X5_aheadOf_0 (by decide) f_X5_aheadOf_76 (s_astore_n X dX5_aheadOf_7 rfl (by decide) (s_aload_n X dX5_aheadOf_8 rfl (s_iload_n X dX5_aheadOf_9 rfl (s_iload_n X dX5_aheadOf_10 rfl (s_callV X h_X1_thoughtOf dX5_aheadOf_11 rfl gX5_aheadOf_X1_thoughtOf rfl rfl rfl (by decide +kernel) ⟨by decide, by decide⟩ (s_istore X dX5_aheadOf_14 (by decide) (s_iconst X dX5_aheadOf_16 (by decide) (s_istore X dX5_aheadOf_17 (by decide) (s_iconst X dX5_aheadOf_19 (by decide) (s_istore X dX5_aheadOf_20 (by decide) (s_cut (by decide) zS_at))))))))))))))
theorem w_X5_aheadOf (la : Launch) (h_X1_isAboard : zMet la yX1_isAboard wsX1_isAboard rm_X1_isAboard 0 0 sp_X1_isAboard) (h_X1_thoughtOf : zMet la yX1_thoughtOf wsX1_thoughtOf rm_X1_thoughtOf 0 0 sp_X1_thoughtOf) (sp : zSp) (vc : zVC_X5_aheadOf sp) : zMet la yX5_aheadOf wsX5_aheadOf (rm_X5_aheadOf) 0 0 sp :=
  z_of (cc := cX5_aheadOf) (maxL := 7) (ret := (some .int)) (by decide +kernel) rfl (fun p e s m args below meth c D cy b n as E P hsp X hr hin => by
    obtain ⟨h1, h2⟩ := vc b cy n as E P (zAt p la e (rm_X5_aheadOf) s m args below meth c (MQ below (zQ D b (n + 0) P) args s 0 0 (fun q => b ≤ q)) 7 D b n) (fun _ _ _ _ _ q => S_X5_aheadOf_22 la X hr h_X1_isAboard h_X1_thoughtOf _ _ _ _ _ q) hsp
    exact ⟨h1, S_X5_aheadOf_0 la X hr h_X1_isAboard h_X1_thoughtOf _ _ _ _ _ h2⟩)

theorem m_X5_aheadOf (la : Launch) : zMet la yX5_aheadOf wsX5_aheadOf rm_X5_aheadOf 0 0 sp_X5_aheadOf := w_X5_aheadOf la (m_X1_isAboard la) (m_X1_thoughtOf la) _ vc_X5_aheadOf
def sp_X5_power : zSp := fun b cy as N E P => ∃ x t : Nat, as = [.int (nI x), .int (nI t)] ∧ t < 1000 ∧ P (some (.int (nI (x ^ t)))) E
abbrev rm_X5_power : Room := { frames := 1, cells := 0, slots := 0, locals := 40 }
def B_X5_power_4 (b n0 : Nat) (cy : zY) (P : zPo) (A : Nat → zC) : zC :=
  z_iload 3 (z_iload 1 (z_icmp (fun x y => y ≤ x) (z_iload 2 (z_iret 0 0 P)) (z_iload 2 (z_iload 0 (z_bin (fun x y => x * y) (z_istore 2 (z_iinc 3 (1) (z_cut [0, 1, 2, 3] (A 4)))))))))
def B_X5_power_0 (b n0 : Nat) (cy : zY) (P : zPo) (A : Nat → zC) : zC :=
  z_const (1) (z_istore 2 (z_const (0) (z_istore 3 (z_cut [0, 1, 2, 3] (A 4)))))
def zVC_X5_power (sp : zSp) : Prop := ∀ (b : Nat) (cy : zY) (n : Nat) (as : List Value) (E : zE) (P : zPo) (A : Nat → zC), (∀ l st k u E, B_X5_power_4 b n cy P A l st k u E → A 4 l st k u E) → sp b cy as n E P → zgood as 4 ∧ B_X5_power_0 b n cy P A (lv_args 0 as) [] 0 0 E

set_option maxRecDepth 100000 in
set_option maxHeartbeats 4000000 in
theorem vc_X5_power : zVC_X5_power sp_X5_power := by
  intro b cy N as E P A hA hsp
  obtain ⟨x, t, rfl, ht, hP⟩ := hsp
  refine ⟨⟨Nat.le_of_ble_eq_true rfl, zg1 rfl (zg1 rfl (zg0))⟩, ?_⟩
  have loop : ∀ (d k : Nat) (hd : d + k = t), A 4 [(0, .int (nI x)), (1, .int (nI t)), (2, .int (nI (x ^ k))), (3, .int (nI k))] [] 0 0 E := by
    intro d
    induction d with
    | zero =>
      intro k hd
      obtain rfl : k = t := by omega
      apply hA
      have cle : nI k ≤ nI k := nI_le (Nat.le_refl _) (by omega)
      simp only [B_X5_power_0, B_X5_power_4, e_cut, e_iload, e_aload, e_istore, e_astore, e_iinc, e_const, e_lconst, e_bin, e_bin0, e_un, e_ladd, e_dupi, e_dupr, e_dup2, e_pop, e_if, e_icmp, e_sw, e_sw0, e_sw1, e_get, e_put, e_ald, e_ast, e_aald, e_aast, e_copy, e_new, e_newa, e_anewa, e_min, e_abs, e_oinit, e_callI, e_callV, e_callS, e_iret, e_zret, e_lret, e_vret, e_tl1, e_tl0, e_tl2, e_tl3, z10, Bool.false_eq_true, e_argi, e_argr, e_argn, zld_c, zst_n, zst_c, zpick_n, zpick_c, List.drop_succ_cons, List.drop_zero, List.take_succ_cons, List.take_zero, List.length_cons, List.length_nil, List.reverse_cons, List.reverse_nil, List.nil_append, List.cons_append, List.append_nil, List.getElem?_cons_zero, List.getElem?_cons_succ, List.set_cons_zero, List.set_cons_succ, Nat.add_sub_cancel_left, Nat.sub_self, Nat.add_zero, Nat.zero_add, Nat.le_add_right, Nat.le_refl, true_and, and_true, va_rf, zok, Nat.add_left_cancel_iff, Nat.add_eq_left, Nat.left_eq_add, eq_self, if_true, if_false, not_false_eq_true, not_true_eq_false, false_implies, true_implies, Nat.reduceEqDiff, Nat.reduceAdd, Nat.reduceLT, Nat.reduceLeDiff, reduceIte, cle]
      exact hP
    | succ d ih =>
      intro k hd
      apply hA
      have cle : ¬ nI t ≤ nI k := nI_ge (by omega) (by omega)
      simp only [B_X5_power_0, B_X5_power_4, e_cut, e_iload, e_aload, e_istore, e_astore, e_iinc, e_const, e_lconst, e_bin, e_bin0, e_un, e_ladd, e_dupi, e_dupr, e_dup2, e_pop, e_if, e_icmp, e_sw, e_sw0, e_sw1, e_get, e_put, e_ald, e_ast, e_aald, e_aast, e_copy, e_new, e_newa, e_anewa, e_min, e_abs, e_oinit, e_callI, e_callV, e_callS, e_iret, e_zret, e_lret, e_vret, e_tl1, e_tl0, e_tl2, e_tl3, z10, Bool.false_eq_true, e_argi, e_argr, e_argn, zld_c, zst_n, zst_c, zpick_n, zpick_c, List.drop_succ_cons, List.drop_zero, List.take_succ_cons, List.take_zero, List.length_cons, List.length_nil, List.reverse_cons, List.reverse_nil, List.nil_append, List.cons_append, List.append_nil, List.getElem?_cons_zero, List.getElem?_cons_succ, List.set_cons_zero, List.set_cons_succ, Nat.add_sub_cancel_left, Nat.sub_self, Nat.add_zero, Nat.zero_add, Nat.le_add_right, Nat.le_refl, true_and, and_true, va_rf, zok, Nat.add_left_cancel_iff, Nat.add_eq_left, Nat.left_eq_add, eq_self, if_true, if_false, not_false_eq_true, not_true_eq_false, false_implies, true_implies, Nat.reduceEqDiff, Nat.reduceAdd, Nat.reduceLT, Nat.reduceLeDiff, reduceIte, cle, pk_mul, nI_1]
      have h9 := ih (k + 1) (by omega)
      rw [Nat.pow_succ] at h9
      exact h9
  simp only [B_X5_power_0, B_X5_power_4, e_cut, e_iload, e_aload, e_istore, e_astore, e_iinc, e_const, e_lconst, e_bin, e_bin0, e_un, e_ladd, e_dupi, e_dupr, e_dup2, e_pop, e_if, e_icmp, e_sw, e_sw0, e_sw1, e_get, e_put, e_ald, e_ast, e_aald, e_aast, e_copy, e_new, e_newa, e_anewa, e_min, e_abs, e_oinit, e_callI, e_callV, e_callS, e_iret, e_zret, e_lret, e_vret, e_tl1, e_tl0, e_tl2, e_tl3, z10, Bool.false_eq_true, e_argi, e_argr, e_argn, zld_c, zst_n, zst_c, zpick_n, zpick_c, List.drop_succ_cons, List.drop_zero, List.take_succ_cons, List.take_zero, List.length_cons, List.length_nil, List.reverse_cons, List.reverse_nil, List.nil_append, List.cons_append, List.append_nil, List.getElem?_cons_zero, List.getElem?_cons_succ, List.set_cons_zero, List.set_cons_succ, Nat.add_sub_cancel_left, Nat.sub_self, Nat.add_zero, Nat.zero_add, Nat.le_add_right, Nat.le_refl, true_and, and_true, va_rf, zok, Nat.add_left_cancel_iff, Nat.add_eq_left, Nat.left_eq_add, eq_self, if_true, if_false, not_false_eq_true, not_true_eq_false, false_implies, true_implies, Nat.reduceEqDiff, Nat.reduceAdd, Nat.reduceLT, Nat.reduceLeDiff, reduceIte]
  exact loop t 0 rfl
set_option maxRecDepth 100000 in
set_option maxHeartbeats 4000000 in
theorem S_X5_power_4 {p : Program} {e : Env} {s : State} {m : MethodId} {args : Array Value} {below : List Frame} {meth : Method} {c : Code} {D : va_G} {cy : zY} {b n0 : Nat} {P : zPo} (la : Launch) (X : zX p la e (rm_X5_power) s m args below meth c 4 D cy b n0 cX5_power wsX5_power RX5) (hr : meth.sig.returnType = (some .int)) : zS p la e (rm_X5_power) s m args below meth c (MQ below (zQ D b (n0 + 0) P) args s 0 0 (fun q => b ≤ q)) 4 D b n0 4 (B_X5_power_4 b n0 cy P (zAt p la e (rm_X5_power) s m args below meth c (MQ below (zQ D b (n0 + 0) P) args s 0 0 (fun q => b ≤ q)) 4 D b n0)) := by
  unfold B_X5_power_4
  exact (s_iload_n X dX5_power_4 rfl (s_iload_n X dX5_power_5 rfl (s_icmp_ge X dX5_power_6 (by decide) (s_iload_n X dX5_power_19 rfl (s_iret X dX5_power_20 hr)) (s_iload_n X dX5_power_9 rfl (s_iload_n X dX5_power_10 rfl (s_imul X dX5_power_11 (s_istore_n X dX5_power_12 rfl (by decide) (s_iinc X dX5_power_13 (by decide) (by decide) (s_goto X dX5_power_16 (by decide) (s_cut (by decide) zS_at))))))))))
set_option maxRecDepth 100000 in
set_option maxHeartbeats 4000000 in
theorem S_X5_power_0 {p : Program} {e : Env} {s : State} {m : MethodId} {args : Array Value} {below : List Frame} {meth : Method} {c : Code} {D : va_G} {cy : zY} {b n0 : Nat} {P : zPo} (la : Launch) (X : zX p la e (rm_X5_power) s m args below meth c 4 D cy b n0 cX5_power wsX5_power RX5) (hr : meth.sig.returnType = (some .int)) : zS p la e (rm_X5_power) s m args below meth c (MQ below (zQ D b (n0 + 0) P) args s 0 0 (fun q => b ≤ q)) 4 D b n0 0 (B_X5_power_0 b n0 cy P (zAt p la e (rm_X5_power) s m args below meth c (MQ below (zQ D b (n0 + 0) P) args s 0 0 (fun q => b ≤ q)) 4 D b n0)) := by
  unfold B_X5_power_0
  exact (s_iconst X dX5_power_0 (by decide) (s_istore_n X dX5_power_1 rfl (by decide) (s_iconst X dX5_power_2 (by decide) (s_istore_n X dX5_power_3 rfl (by decide) (s_cut (by decide) zS_at)))))
theorem w_X5_power (la : Launch) (sp : zSp) (vc : zVC_X5_power sp) : zMet la yX5_power wsX5_power (rm_X5_power) 0 0 sp :=
  z_of (cc := cX5_power) (maxL := 4) (ret := (some .int)) (by decide +kernel) rfl (fun p e s m args below meth c D cy b n as E P hsp X hr hin => by
    obtain ⟨h1, h2⟩ := vc b cy n as E P (zAt p la e (rm_X5_power) s m args below meth c (MQ below (zQ D b (n + 0) P) args s 0 0 (fun q => b ≤ q)) 4 D b n) (fun _ _ _ _ _ q => S_X5_power_4 la X hr _ _ _ _ _ q) hsp
    exact ⟨h1, S_X5_power_0 la X hr _ _ _ _ _ h2⟩)

theorem m_X5_power (la : Launch) : zMet la yX5_power wsX5_power rm_X5_power 0 0 sp_X5_power := w_X5_power la _ vc_X5_power
theorem zahead_le {n : Nat} {c : Nat → Nat} {r q : Nat} : zahead n c r q ≤ n := by
  unfold zahead
  have := zsum_le (B := 1) (g := fun o => if o ≠ r ∧ (c 1).testBit o = true ∧ c (16 + 6 * q + r) < c (16 + 6 * o + r) then 1 else 0) (fun r => by split <;> omega) n
  omega
def zoup (n : Nat) (c : Nat → Nat) (r q x : Nat) : Nat := if c (16 + 6 * q + r) = 0 then 0 else (10 - x) * x ^ zahead n c r q
def zolo (n : Nat) (c : Nat → Nat) (r q : Nat) : Nat := 10 * 10 ^ zahead n c r q
def sp_X5_oddsUpper : zSp := fun b cy as N E P => ∃ (n : Nat) (lo la : Nat → Nat) (c : Nat → Nat) (r q x : Nat), as = [.ref b, .int (nI r), .int (nI q), .int (nI x)] ∧ zP2 b cy N E n lo la c ∧ r < 6 ∧ q < 6 ∧ x ≤ 10 ∧ P (some (.int (nI (zoup n c r q x)))) E
abbrev rm_X5_oddsUpper : Room := { frames := 3, cells := 0, slots := 0, locals := 88 }
def B_X5_oddsUpper_0 (b n0 : Nat) (cy : zY) (P : zPo) (A : Nat → zC) : zC :=
  z_aload 0 (z_get b n0 5 3 (z_get b n0 0 0 (z_iload 2 (z_iload 1 (z_callV b n0 0 0 cy 1 2 0 0 sp_X1_thoughtOf (z_if (fun x => x = 0) (z_const (0) (z_iret 0 0 P)) (z_const (10) (z_iload 3 (z_bin (fun x y => x - y) (z_iload 3 (z_aload 0 (z_iload 1 (z_iload 2 (z_callV b n0 0 0 cy 5 2 0 0 sp_X5_aheadOf (z_callS b n0 0 0 cy 2 0 0 sp_X5_power (z_bin (fun x y => x * y) (z_iret 0 0 P)))))))))))))))))
def zVC_X5_oddsUpper (sp : zSp) : Prop := ∀ (b : Nat) (cy : zY) (n : Nat) (as : List Value) (E : zE) (P : zPo) (A : Nat → zC), sp b cy as n E P → zgood as 4 ∧ B_X5_oddsUpper_0 b n cy P A (lv_args 0 as) [] 0 0 E

set_option maxRecDepth 100000 in
set_option maxHeartbeats 4000000 in
theorem vc_X5_oddsUpper : zVC_X5_oddsUpper sp_X5_oddsUpper := by
  intro b cy N as E P A hsp
  obtain ⟨n, lo, la, c, r, q, x, rfl, hp2, hr, hq, hx, hP⟩ := hsp
  obtain ⟨hp1, e11⟩ := id hp2
  refine ⟨⟨Nat.le_of_ble_eq_true rfl, zg1 rfl (zg1 rfl (zg1 rfl (zg1 rfl (zg0))))⟩, ?_⟩
  obtain ⟨⟨⟨kept, cnt, tr, e0⟩, hT, hlo⟩, hmo, hok, hi, hN⟩ := id hp1
  have hn := hok.1
  have N0 : 0 < N := by omega
  have N11 : 11 < N := by omega
  have N12 : 12 < N := by omega
  obtain ⟨hn1, mf, mg, mh, m0, m1, m2, m3, hmf, hmg, hmh⟩ := id hmo
  have k10 : (10 : Int32) = nI 10 := rfl
  simp only [B_X5_oddsUpper_0, e_cut, e_iload, e_aload, e_istore, e_astore, e_iinc, e_const, e_lconst, e_bin, e_bin0, e_un, e_ladd, e_dupi, e_dupr, e_dup2, e_pop, e_if, e_icmp, e_sw, e_sw0, e_sw1, e_get, e_put, e_ald, e_ast, e_aald, e_aast, e_copy, e_new, e_newa, e_anewa, e_min, e_abs, e_oinit, e_callI, e_callV, e_callS, e_iret, e_zret, e_lret, e_vret, e_tl1, e_tl0, e_tl2, e_tl3, z10, Bool.false_eq_true, e_argi, e_argr, e_argn, zld_c, zst_n, zst_c, zpick_n, zpick_c, List.drop_succ_cons, List.drop_zero, List.take_succ_cons, List.take_zero, List.length_cons, List.length_nil, List.reverse_cons, List.reverse_nil, List.nil_append, List.cons_append, List.append_nil, List.getElem?_cons_zero, List.getElem?_cons_succ, List.set_cons_zero, List.set_cons_succ, Nat.add_sub_cancel_left, Nat.sub_self, Nat.add_zero, Nat.zero_add, Nat.le_add_right, Nat.le_refl, true_and, and_true, va_rf, zok, Nat.add_left_cancel_iff, Nat.add_eq_left, Nat.left_eq_add, eq_self, if_true, if_false, not_false_eq_true, not_true_eq_false, false_implies, true_implies, Nat.reduceEqDiff, Nat.reduceAdd, Nat.reduceLT, Nat.reduceLeDiff, reduceIte, zB0, e0, N0, N11, e11, N12, m0]
  refine ⟨12, q, r, n, c, rfl, hmo, hi, hq, hr, ?_⟩
  unfold zoup at hP
  have hlat := hok.lat hq hr
  by_cases q0 : c (16 + 6 * q + r) = 0
  · rw [if_pos q0] at hP
    simp only [e_cut, e_iload, e_aload, e_istore, e_astore, e_iinc, e_const, e_lconst, e_bin, e_bin0, e_un, e_ladd, e_dupi, e_dupr, e_dup2, e_pop, e_if, e_icmp, e_sw, e_sw0, e_sw1, e_get, e_put, e_ald, e_ast, e_aald, e_aast, e_copy, e_new, e_newa, e_anewa, e_min, e_abs, e_oinit, e_callI, e_callV, e_callS, e_iret, e_zret, e_lret, e_vret, e_tl1, e_tl0, e_tl2, e_tl3, z10, Bool.false_eq_true, e_argi, e_argr, e_argn, zld_c, zst_n, zst_c, zpick_n, zpick_c, List.drop_succ_cons, List.drop_zero, List.take_succ_cons, List.take_zero, List.length_cons, List.length_nil, List.reverse_cons, List.reverse_nil, List.nil_append, List.cons_append, List.append_nil, List.getElem?_cons_zero, List.getElem?_cons_succ, List.set_cons_zero, List.set_cons_succ, Nat.add_sub_cancel_left, Nat.sub_self, Nat.add_zero, Nat.zero_add, Nat.le_add_right, Nat.le_refl, true_and, and_true, va_rf, zok, Nat.add_left_cancel_iff, Nat.add_eq_left, Nat.left_eq_add, eq_self, if_true, if_false, not_false_eq_true, not_true_eq_false, false_implies, true_implies, Nat.reduceEqDiff, Nat.reduceAdd, Nat.reduceLT, Nat.reduceLeDiff, reduceIte, q0, nI_0]
    exact hP
  · rw [if_neg q0] at hP
    have q1 : ¬ nI (c (16 + 6 * q + r)) = 0 := nI_ne0 (by omega) hlat
    simp only [e_cut, e_iload, e_aload, e_istore, e_astore, e_iinc, e_const, e_lconst, e_bin, e_bin0, e_un, e_ladd, e_dupi, e_dupr, e_dup2, e_pop, e_if, e_icmp, e_sw, e_sw0, e_sw1, e_get, e_put, e_ald, e_ast, e_aald, e_aast, e_copy, e_new, e_newa, e_anewa, e_min, e_abs, e_oinit, e_callI, e_callV, e_callS, e_iret, e_zret, e_lret, e_vret, e_tl1, e_tl0, e_tl2, e_tl3, z10, Bool.false_eq_true, e_argi, e_argr, e_argn, zld_c, zst_n, zst_c, zpick_n, zpick_c, List.drop_succ_cons, List.drop_zero, List.take_succ_cons, List.take_zero, List.length_cons, List.length_nil, List.reverse_cons, List.reverse_nil, List.nil_append, List.cons_append, List.append_nil, List.getElem?_cons_zero, List.getElem?_cons_succ, List.set_cons_zero, List.set_cons_succ, Nat.add_sub_cancel_left, Nat.sub_self, Nat.add_zero, Nat.zero_add, Nat.le_add_right, Nat.le_refl, true_and, and_true, va_rf, zok, Nat.add_left_cancel_iff, Nat.add_eq_left, Nat.left_eq_add, eq_self, if_true, if_false, not_false_eq_true, not_true_eq_false, false_implies, true_implies, Nat.reduceEqDiff, Nat.reduceAdd, Nat.reduceLT, Nat.reduceLeDiff, reduceIte, q1, zB0, e0, N0, k10, pk_sub hx]
    refine ⟨n, lo, la, c, r, q, rfl, hp2, hr, hq, ?_⟩
    have hz := zahead_le (n := n) (c := c) (r := r) (q := q)
    simp only [e_cut, e_iload, e_aload, e_istore, e_astore, e_iinc, e_const, e_lconst, e_bin, e_bin0, e_un, e_ladd, e_dupi, e_dupr, e_dup2, e_pop, e_if, e_icmp, e_sw, e_sw0, e_sw1, e_get, e_put, e_ald, e_ast, e_aald, e_aast, e_copy, e_new, e_newa, e_anewa, e_min, e_abs, e_oinit, e_callI, e_callV, e_callS, e_iret, e_zret, e_lret, e_vret, e_tl1, e_tl0, e_tl2, e_tl3, z10, Bool.false_eq_true, e_argi, e_argr, e_argn, zld_c, zst_n, zst_c, zpick_n, zpick_c, List.drop_succ_cons, List.drop_zero, List.take_succ_cons, List.take_zero, List.length_cons, List.length_nil, List.reverse_cons, List.reverse_nil, List.nil_append, List.cons_append, List.append_nil, List.getElem?_cons_zero, List.getElem?_cons_succ, List.set_cons_zero, List.set_cons_succ, Nat.add_sub_cancel_left, Nat.sub_self, Nat.add_zero, Nat.zero_add, Nat.le_add_right, Nat.le_refl, true_and, and_true, va_rf, zok, Nat.add_left_cancel_iff, Nat.add_eq_left, Nat.left_eq_add, eq_self, if_true, if_false, not_false_eq_true, not_true_eq_false, false_implies, true_implies, Nat.reduceEqDiff, Nat.reduceAdd, Nat.reduceLT, Nat.reduceLeDiff, reduceIte]
    refine ⟨x, zahead n c r q, rfl, by omega, ?_⟩
    simp only [e_cut, e_iload, e_aload, e_istore, e_astore, e_iinc, e_const, e_lconst, e_bin, e_bin0, e_un, e_ladd, e_dupi, e_dupr, e_dup2, e_pop, e_if, e_icmp, e_sw, e_sw0, e_sw1, e_get, e_put, e_ald, e_ast, e_aald, e_aast, e_copy, e_new, e_newa, e_anewa, e_min, e_abs, e_oinit, e_callI, e_callV, e_callS, e_iret, e_zret, e_lret, e_vret, e_tl1, e_tl0, e_tl2, e_tl3, z10, Bool.false_eq_true, e_argi, e_argr, e_argn, zld_c, zst_n, zst_c, zpick_n, zpick_c, List.drop_succ_cons, List.drop_zero, List.take_succ_cons, List.take_zero, List.length_cons, List.length_nil, List.reverse_cons, List.reverse_nil, List.nil_append, List.cons_append, List.append_nil, List.getElem?_cons_zero, List.getElem?_cons_succ, List.set_cons_zero, List.set_cons_succ, Nat.add_sub_cancel_left, Nat.sub_self, Nat.add_zero, Nat.zero_add, Nat.le_add_right, Nat.le_refl, true_and, and_true, va_rf, zok, Nat.add_left_cancel_iff, Nat.add_eq_left, Nat.left_eq_add, eq_self, if_true, if_false, not_false_eq_true, not_true_eq_false, false_implies, true_implies, Nat.reduceEqDiff, Nat.reduceAdd, Nat.reduceLT, Nat.reduceLeDiff, reduceIte, pk_mul]
    exact hP
set_option maxRecDepth 20000 in
theorem f_X5_oddsUpper_29 : Cond.fieldLink RX5 29 (TX5 3).1 (TX5 3).2.1 (TX5 3).2.2.1 ∈ wsX5_oddsUpper := by decide +kernel
set_option maxRecDepth 20000 in
theorem k_X5_oddsUpper_5 : ∀ w ∈ u_ws RX5 TX5 11, w ∈ wsX5_oddsUpper := fun _ h => List.mem_cons_of_mem _ (List.mem_append_left _ (List.mem_append_left _ (List.mem_append_left _ (List.mem_append_right _ h))))
set_option maxRecDepth 20000 in
theorem f_X5_oddsUpper_76 : Cond.fieldLink RX5 76 (TX0 0).1 (TX0 0).2.1 (TX0 0).2.2.1 ∈ wsX5_oddsUpper := by decide +kernel
set_option maxRecDepth 20000 in
theorem k_X5_oddsUpper_0 : ∀ w ∈ u_ws RX0 TX0 2, w ∈ wsX5_oddsUpper := fun _ h => List.mem_cons_of_mem _ (List.mem_append_left _ (List.mem_append_left _ (List.mem_append_right _ h)))
set_option maxRecDepth 100000 in
set_option maxHeartbeats 4000000 in
theorem S_X5_oddsUpper_0 {p : Program} {e : Env} {s : State} {m : MethodId} {args : Array Value} {below : List Frame} {meth : Method} {c : Code} {D : va_G} {cy : zY} {b n0 : Nat} {P : zPo} (la : Launch) (X : zX p la e (rm_X5_oddsUpper) s m args below meth c 4 D cy b n0 cX5_oddsUpper wsX5_oddsUpper RX5) (hr : meth.sig.returnType = (some .int)) (h_X1_thoughtOf : zMet la yX1_thoughtOf wsX1_thoughtOf rm_X1_thoughtOf 0 0 sp_X1_thoughtOf) (h_X5_aheadOf : zMet la yX5_aheadOf wsX5_aheadOf rm_X5_aheadOf 0 0 sp_X5_aheadOf) (h_X5_power : zMet la yX5_power wsX5_power rm_X5_power 0 0 sp_X5_power) : zS p la e (rm_X5_oddsUpper) s m args below meth c (MQ below (zQ D b (n0 + 0) P) args s 0 0 (fun q => b ≤ q)) 4 D b n0 0 (B_X5_oddsUpper_0 b n0 cy P (zAt p la e (rm_X5_oddsUpper) s m args below meth c (MQ below (zQ D b (n0 + 0) P) args s 0 0 (fun q => b ≤ q)) 4 D b n0)) := by
  unfold B_X5_oddsUpper_0
  exact (s_aload_n X dX5_oddsUpper_0 rfl (s_get X dX5_oddsUpper_1 rfl k_X5_oddsUpper_5 (by decide) f_X5_oddsUpper_29 (s_get X dX5_oddsUpper_4 rfl k_X5_oddsUpper_0 (by decide) f_X5_oddsUpper_76 (s_iload_n X dX5_oddsUpper_7 rfl (s_iload_n X dX5_oddsUpper_8 rfl (s_callV X h_X1_thoughtOf dX5_oddsUpper_9 rfl gX5_oddsUpper_X1_thoughtOf rfl rfl rfl (by decide +kernel) ⟨by decide, by decide⟩ (s_if_ne X dX5_oddsUpper_12 (by decide) (s_bipush X dX5_oddsUpper_17 (by decide) (s_iload_n X dX5_oddsUpper_19 rfl (s_isub X dX5_oddsUpper_20 (s_iload_n X dX5_oddsUpper_21 rfl (s_aload_n X dX5_oddsUpper_22 rfl (s_iload_n X dX5_oddsUpper_23 rfl (s_iload_n X dX5_oddsUpper_24 rfl (s_callV X h_X5_aheadOf dX5_oddsUpper_25 rfl gX5_oddsUpper_X5_aheadOf rfl rfl rfl (by decide +kernel) ⟨by decide, by decide⟩ (s_callS X h_X5_power dX5_oddsUpper_28 gX5_oddsUpper_X5_power rfl rfl rfl (by decide +kernel) ⟨by decide, by decide⟩ (s_imul X dX5_oddsUpper_31 (s_iret X dX5_oddsUpper_32 hr))))))))))) (s_iconst X dX5_oddsUpper_15 (by decide) (s_iret X dX5_oddsUpper_16 hr)))))))))
theorem w_X5_oddsUpper (la : Launch) (h_X1_thoughtOf : zMet la yX1_thoughtOf wsX1_thoughtOf rm_X1_thoughtOf 0 0 sp_X1_thoughtOf) (h_X5_aheadOf : zMet la yX5_aheadOf wsX5_aheadOf rm_X5_aheadOf 0 0 sp_X5_aheadOf) (h_X5_power : zMet la yX5_power wsX5_power rm_X5_power 0 0 sp_X5_power) (sp : zSp) (vc : zVC_X5_oddsUpper sp) : zMet la yX5_oddsUpper wsX5_oddsUpper (rm_X5_oddsUpper) 0 0 sp :=
  z_of (cc := cX5_oddsUpper) (maxL := 4) (ret := (some .int)) (by decide +kernel) rfl (fun p e s m args below meth c D cy b n as E P hsp X hr hin => by
    obtain ⟨h1, h2⟩ := vc b cy n as E P (zAt p la e (rm_X5_oddsUpper) s m args below meth c (MQ below (zQ D b (n + 0) P) args s 0 0 (fun q => b ≤ q)) 4 D b n) hsp
    exact ⟨h1, S_X5_oddsUpper_0 la X hr h_X1_thoughtOf h_X5_aheadOf h_X5_power _ _ _ _ _ h2⟩)

theorem m_X5_oddsUpper (la : Launch) : zMet la yX5_oddsUpper wsX5_oddsUpper rm_X5_oddsUpper 0 0 sp_X5_oddsUpper := w_X5_oddsUpper la (m_X1_thoughtOf la) (m_X5_aheadOf la) (m_X5_power la) _ vc_X5_oddsUpper
def sp_X5_oddsLower : zSp := fun b cy as N E P => ∃ (n : Nat) (lo la : Nat → Nat) (c : Nat → Nat) (r q : Nat), as = [.ref b, .int (nI r), .int (nI q)] ∧ zP2 b cy N E n lo la c ∧ r < 6 ∧ q < 6 ∧ P (some (.int (nI (zolo n c r q)))) E
abbrev rm_X5_oddsLower : Room := { frames := 3, cells := 0, slots := 0, locals := 88 }
def B_X5_oddsLower_0 (b n0 : Nat) (cy : zY) (P : zPo) (A : Nat → zC) : zC :=
  z_const (10) (z_const (10) (z_aload 0 (z_iload 1 (z_iload 2 (z_callV b n0 0 0 cy 5 2 0 0 sp_X5_aheadOf (z_callS b n0 0 0 cy 2 0 0 sp_X5_power (z_bin (fun x y => x * y) (z_iret 0 0 P))))))))
def zVC_X5_oddsLower (sp : zSp) : Prop := ∀ (b : Nat) (cy : zY) (n : Nat) (as : List Value) (E : zE) (P : zPo) (A : Nat → zC), sp b cy as n E P → zgood as 3 ∧ B_X5_oddsLower_0 b n cy P A (lv_args 0 as) [] 0 0 E

set_option maxRecDepth 100000 in
set_option maxHeartbeats 4000000 in
theorem vc_X5_oddsLower : zVC_X5_oddsLower sp_X5_oddsLower := by
  intro b cy N as E P A hsp
  obtain ⟨n, lo, la, c, r, q, rfl, hp2, hr, hq, hP⟩ := hsp
  obtain ⟨hp1, e11⟩ := id hp2
  refine ⟨⟨Nat.le_of_ble_eq_true rfl, zg1 rfl (zg1 rfl (zg1 rfl (zg0)))⟩, ?_⟩
  obtain ⟨⟨⟨kept, cnt, tr, e0⟩, hT, hlo⟩, hmo, hok, hi, hN⟩ := id hp1
  have hn := hok.1
  have N0 : 0 < N := by omega
  have k10 : (10 : Int32) = nI 10 := rfl
  simp only [B_X5_oddsLower_0, e_cut, e_iload, e_aload, e_istore, e_astore, e_iinc, e_const, e_lconst, e_bin, e_bin0, e_un, e_ladd, e_dupi, e_dupr, e_dup2, e_pop, e_if, e_icmp, e_sw, e_sw0, e_sw1, e_get, e_put, e_ald, e_ast, e_aald, e_aast, e_copy, e_new, e_newa, e_anewa, e_min, e_abs, e_oinit, e_callI, e_callV, e_callS, e_iret, e_zret, e_lret, e_vret, e_tl1, e_tl0, e_tl2, e_tl3, z10, Bool.false_eq_true, e_argi, e_argr, e_argn, zld_c, zst_n, zst_c, zpick_n, zpick_c, List.drop_succ_cons, List.drop_zero, List.take_succ_cons, List.take_zero, List.length_cons, List.length_nil, List.reverse_cons, List.reverse_nil, List.nil_append, List.cons_append, List.append_nil, List.getElem?_cons_zero, List.getElem?_cons_succ, List.set_cons_zero, List.set_cons_succ, Nat.add_sub_cancel_left, Nat.sub_self, Nat.add_zero, Nat.zero_add, Nat.le_add_right, Nat.le_refl, true_and, and_true, va_rf, zok, Nat.add_left_cancel_iff, Nat.add_eq_left, Nat.left_eq_add, eq_self, if_true, if_false, not_false_eq_true, not_true_eq_false, false_implies, true_implies, Nat.reduceEqDiff, Nat.reduceAdd, Nat.reduceLT, Nat.reduceLeDiff, reduceIte, zB0, e0, N0, k10]
  refine ⟨n, lo, la, c, r, q, rfl, hp2, hr, hq, ?_⟩
  have hz := zahead_le (n := n) (c := c) (r := r) (q := q)
  simp only [e_cut, e_iload, e_aload, e_istore, e_astore, e_iinc, e_const, e_lconst, e_bin, e_bin0, e_un, e_ladd, e_dupi, e_dupr, e_dup2, e_pop, e_if, e_icmp, e_sw, e_sw0, e_sw1, e_get, e_put, e_ald, e_ast, e_aald, e_aast, e_copy, e_new, e_newa, e_anewa, e_min, e_abs, e_oinit, e_callI, e_callV, e_callS, e_iret, e_zret, e_lret, e_vret, e_tl1, e_tl0, e_tl2, e_tl3, z10, Bool.false_eq_true, e_argi, e_argr, e_argn, zld_c, zst_n, zst_c, zpick_n, zpick_c, List.drop_succ_cons, List.drop_zero, List.take_succ_cons, List.take_zero, List.length_cons, List.length_nil, List.reverse_cons, List.reverse_nil, List.nil_append, List.cons_append, List.append_nil, List.getElem?_cons_zero, List.getElem?_cons_succ, List.set_cons_zero, List.set_cons_succ, Nat.add_sub_cancel_left, Nat.sub_self, Nat.add_zero, Nat.zero_add, Nat.le_add_right, Nat.le_refl, true_and, and_true, va_rf, zok, Nat.add_left_cancel_iff, Nat.add_eq_left, Nat.left_eq_add, eq_self, if_true, if_false, not_false_eq_true, not_true_eq_false, false_implies, true_implies, Nat.reduceEqDiff, Nat.reduceAdd, Nat.reduceLT, Nat.reduceLeDiff, reduceIte]
  refine ⟨10, zahead n c r q, rfl, by omega, ?_⟩
  simp only [e_cut, e_iload, e_aload, e_istore, e_astore, e_iinc, e_const, e_lconst, e_bin, e_bin0, e_un, e_ladd, e_dupi, e_dupr, e_dup2, e_pop, e_if, e_icmp, e_sw, e_sw0, e_sw1, e_get, e_put, e_ald, e_ast, e_aald, e_aast, e_copy, e_new, e_newa, e_anewa, e_min, e_abs, e_oinit, e_callI, e_callV, e_callS, e_iret, e_zret, e_lret, e_vret, e_tl1, e_tl0, e_tl2, e_tl3, z10, Bool.false_eq_true, e_argi, e_argr, e_argn, zld_c, zst_n, zst_c, zpick_n, zpick_c, List.drop_succ_cons, List.drop_zero, List.take_succ_cons, List.take_zero, List.length_cons, List.length_nil, List.reverse_cons, List.reverse_nil, List.nil_append, List.cons_append, List.append_nil, List.getElem?_cons_zero, List.getElem?_cons_succ, List.set_cons_zero, List.set_cons_succ, Nat.add_sub_cancel_left, Nat.sub_self, Nat.add_zero, Nat.zero_add, Nat.le_add_right, Nat.le_refl, true_and, and_true, va_rf, zok, Nat.add_left_cancel_iff, Nat.add_eq_left, Nat.left_eq_add, eq_self, if_true, if_false, not_false_eq_true, not_true_eq_false, false_implies, true_implies, Nat.reduceEqDiff, Nat.reduceAdd, Nat.reduceLT, Nat.reduceLeDiff, reduceIte, pk_mul]
  exact hP
set_option maxRecDepth 100000 in
set_option maxHeartbeats 4000000 in
theorem S_X5_oddsLower_0 {p : Program} {e : Env} {s : State} {m : MethodId} {args : Array Value} {below : List Frame} {meth : Method} {c : Code} {D : va_G} {cy : zY} {b n0 : Nat} {P : zPo} (la : Launch) (X : zX p la e (rm_X5_oddsLower) s m args below meth c 3 D cy b n0 cX5_oddsLower wsX5_oddsLower RX5) (hr : meth.sig.returnType = (some .int)) (h_X5_aheadOf : zMet la yX5_aheadOf wsX5_aheadOf rm_X5_aheadOf 0 0 sp_X5_aheadOf) (h_X5_power : zMet la yX5_power wsX5_power rm_X5_power 0 0 sp_X5_power) : zS p la e (rm_X5_oddsLower) s m args below meth c (MQ below (zQ D b (n0 + 0) P) args s 0 0 (fun q => b ≤ q)) 3 D b n0 0 (B_X5_oddsLower_0 b n0 cy P (zAt p la e (rm_X5_oddsLower) s m args below meth c (MQ below (zQ D b (n0 + 0) P) args s 0 0 (fun q => b ≤ q)) 3 D b n0)) := by
  unfold B_X5_oddsLower_0
  exact (s_bipush X dX5_oddsLower_0 (by decide) (s_bipush X dX5_oddsLower_2 (by decide) (s_aload_n X dX5_oddsLower_4 rfl (s_iload_n X dX5_oddsLower_5 rfl (s_iload_n X dX5_oddsLower_6 rfl (s_callV X h_X5_aheadOf dX5_oddsLower_7 rfl gX5_oddsLower_X5_aheadOf rfl rfl rfl (by decide +kernel) ⟨by decide, by decide⟩ (s_callS X h_X5_power dX5_oddsLower_10 gX5_oddsLower_X5_power rfl rfl rfl (by decide +kernel) ⟨by decide, by decide⟩ (s_imul X dX5_oddsLower_13 (s_iret X dX5_oddsLower_14 hr)))))))))
theorem w_X5_oddsLower (la : Launch) (h_X5_aheadOf : zMet la yX5_aheadOf wsX5_aheadOf rm_X5_aheadOf 0 0 sp_X5_aheadOf) (h_X5_power : zMet la yX5_power wsX5_power rm_X5_power 0 0 sp_X5_power) (sp : zSp) (vc : zVC_X5_oddsLower sp) : zMet la yX5_oddsLower wsX5_oddsLower (rm_X5_oddsLower) 0 0 sp :=
  z_of (cc := cX5_oddsLower) (maxL := 3) (ret := (some .int)) (by decide +kernel) rfl (fun p e s m args below meth c D cy b n as E P hsp X hr hin => by
    obtain ⟨h1, h2⟩ := vc b cy n as E P (zAt p la e (rm_X5_oddsLower) s m args below meth c (MQ below (zQ D b (n + 0) P) args s 0 0 (fun q => b ≤ q)) 3 D b n) hsp
    exact ⟨h1, S_X5_oddsLower_0 la X hr h_X5_aheadOf h_X5_power _ _ _ _ _ h2⟩)

theorem m_X5_oddsLower (la : Launch) : zMet la yX5_oddsLower wsX5_oddsLower rm_X5_oddsLower 0 0 sp_X5_oddsLower := w_X5_oddsLower la (m_X5_aheadOf la) (m_X5_power la) _ vc_X5_oddsLower
def zgcd : Nat → Nat → Nat → Nat
  | 0, a, _ => a
  | f + 1, a, c => if c = 0 then a else zgcd f c (a % c)
def sp_X5_commonDivisor : zSp := fun b cy as N E P => ∃ x y : Nat, as = [.int (nI x), .int (nI y)] ∧ x < 2 ^ 31 ∧ y < 2 ^ 31 ∧ P (some (.int (nI (zgcd 64 x y)))) E
abbrev rm_X5_commonDivisor : Room := { frames := 1, cells := 0, slots := 0, locals := 40 }
def B_X5_commonDivisor_34 (b n0 : Nat) (cy : zY) (P : zPo) (A : Nat → zC) : zC :=
  z_iload 2 (z_iret 0 0 P)
def B_X5_commonDivisor_7 (b n0 : Nat) (cy : zY) (P : zPo) (A : Nat → zC) : zC :=
  z_iload 4 (z_const (64) (z_icmp (fun x y => y ≤ x) (B_X5_commonDivisor_34 b n0 cy P A) (z_iload 3 (z_if (fun x => x = 0) (B_X5_commonDivisor_34 b n0 cy P A) (z_iload 2 (z_iload 3 (z_bin0 (fun x y => x - x / y * y) (z_istore 5 (z_iload 3 (z_istore 2 (z_iload 5 (z_istore 3 (z_iinc 4 (1) (z_cut [2, 3, 4] (A 7)))))))))))))))
def B_X5_commonDivisor_0 (b n0 : Nat) (cy : zY) (P : zPo) (A : Nat → zC) : zC :=
  z_iload 0 (z_istore 2 (z_iload 1 (z_istore 3 (z_const (0) (z_istore 4 (z_cut [2, 3, 4] (A 7)))))))
def zVC_X5_commonDivisor (sp : zSp) : Prop := ∀ (b : Nat) (cy : zY) (n : Nat) (as : List Value) (E : zE) (P : zPo) (A : Nat → zC), (∀ l st k u E, B_X5_commonDivisor_7 b n cy P A l st k u E → A 7 l st k u E) → sp b cy as n E P → zgood as 6 ∧ B_X5_commonDivisor_0 b n cy P A (lv_args 0 as) [] 0 0 E

set_option maxRecDepth 100000 in
set_option maxHeartbeats 4000000 in
theorem vc_X5_commonDivisor : zVC_X5_commonDivisor sp_X5_commonDivisor := by
  intro b cy N as E P A hA hsp
  obtain ⟨x, y, rfl, hx, hy, hP⟩ := hsp
  refine ⟨⟨Nat.le_of_ble_eq_true rfl, zg1 rfl (zg1 rfl (zg0))⟩, ?_⟩
  have k64 : (64 : Int32) = nI 64 := rfl
  have loop : ∀ (f x y : Nat) (hf : f ≤ 64), x < 2 ^ 31 → y < 2 ^ 31 → P (some (.int (nI (zgcd f x y)))) E → A 7 [(2, .int (nI x)), (3, .int (nI y)), (4, .int (nI (64 - f)))] [] 0 0 E := by
    intro f
    induction f with
    | zero =>
      intro x y hf hx hy hP
      apply hA
      have cle : nI 64 ≤ nI (64 - 0) := nI_le (Nat.le_refl _) (by omega)
      simp only [B_X5_commonDivisor_0, B_X5_commonDivisor_7, B_X5_commonDivisor_34, e_cut, e_iload, e_aload, e_istore, e_astore, e_iinc, e_const, e_lconst, e_bin, e_bin0, e_un, e_ladd, e_dupi, e_dupr, e_dup2, e_pop, e_if, e_icmp, e_sw, e_sw0, e_sw1, e_get, e_put, e_ald, e_ast, e_aald, e_aast, e_copy, e_new, e_newa, e_anewa, e_min, e_abs, e_oinit, e_callI, e_callV, e_callS, e_iret, e_zret, e_lret, e_vret, e_tl1, e_tl0, e_tl2, e_tl3, z10, Bool.false_eq_true, e_argi, e_argr, e_argn, zld_c, zst_n, zst_c, zpick_n, zpick_c, List.drop_succ_cons, List.drop_zero, List.take_succ_cons, List.take_zero, List.length_cons, List.length_nil, List.reverse_cons, List.reverse_nil, List.nil_append, List.cons_append, List.append_nil, List.getElem?_cons_zero, List.getElem?_cons_succ, List.set_cons_zero, List.set_cons_succ, Nat.add_sub_cancel_left, Nat.sub_self, Nat.add_zero, Nat.zero_add, Nat.le_add_right, Nat.le_refl, true_and, and_true, va_rf, zok, Nat.add_left_cancel_iff, Nat.add_eq_left, Nat.left_eq_add, eq_self, if_true, if_false, not_false_eq_true, not_true_eq_false, false_implies, true_implies, Nat.reduceEqDiff, Nat.reduceAdd, Nat.reduceLT, Nat.reduceLeDiff, reduceIte, k64, cle]
      exact hP
    | succ f ih =>
      intro x y hf hx hy hP
      apply hA
      have cle : ¬ nI 64 ≤ nI (64 - (f + 1)) := nI_ge (by omega) (by omega)
      rw [zgcd] at hP
      by_cases q0 : y = 0
      · rw [if_pos q0] at hP
        simp only [B_X5_commonDivisor_0, B_X5_commonDivisor_7, B_X5_commonDivisor_34, e_cut, e_iload, e_aload, e_istore, e_astore, e_iinc, e_const, e_lconst, e_bin, e_bin0, e_un, e_ladd, e_dupi, e_dupr, e_dup2, e_pop, e_if, e_icmp, e_sw, e_sw0, e_sw1, e_get, e_put, e_ald, e_ast, e_aald, e_aast, e_copy, e_new, e_newa, e_anewa, e_min, e_abs, e_oinit, e_callI, e_callV, e_callS, e_iret, e_zret, e_lret, e_vret, e_tl1, e_tl0, e_tl2, e_tl3, z10, Bool.false_eq_true, e_argi, e_argr, e_argn, zld_c, zst_n, zst_c, zpick_n, zpick_c, List.drop_succ_cons, List.drop_zero, List.take_succ_cons, List.take_zero, List.length_cons, List.length_nil, List.reverse_cons, List.reverse_nil, List.nil_append, List.cons_append, List.append_nil, List.getElem?_cons_zero, List.getElem?_cons_succ, List.set_cons_zero, List.set_cons_succ, Nat.add_sub_cancel_left, Nat.sub_self, Nat.add_zero, Nat.zero_add, Nat.le_add_right, Nat.le_refl, true_and, and_true, va_rf, zok, Nat.add_left_cancel_iff, Nat.add_eq_left, Nat.left_eq_add, eq_self, if_true, if_false, not_false_eq_true, not_true_eq_false, false_implies, true_implies, Nat.reduceEqDiff, Nat.reduceAdd, Nat.reduceLT, Nat.reduceLeDiff, reduceIte, k64, cle, q0, nI_0]
        exact hP
      · rw [if_neg q0] at hP
        have q1 : ¬ nI y = 0 := nI_ne0 (by omega) hy
        have ed : 64 - (f + 1) + 1 = 64 - f := by omega
        simp only [B_X5_commonDivisor_0, B_X5_commonDivisor_7, B_X5_commonDivisor_34, e_cut, e_iload, e_aload, e_istore, e_astore, e_iinc, e_const, e_lconst, e_bin, e_bin0, e_un, e_ladd, e_dupi, e_dupr, e_dup2, e_pop, e_if, e_icmp, e_sw, e_sw0, e_sw1, e_get, e_put, e_ald, e_ast, e_aald, e_aast, e_copy, e_new, e_newa, e_anewa, e_min, e_abs, e_oinit, e_callI, e_callV, e_callS, e_iret, e_zret, e_lret, e_vret, e_tl1, e_tl0, e_tl2, e_tl3, z10, Bool.false_eq_true, e_argi, e_argr, e_argn, zld_c, zst_n, zst_c, zpick_n, zpick_c, List.drop_succ_cons, List.drop_zero, List.take_succ_cons, List.take_zero, List.length_cons, List.length_nil, List.reverse_cons, List.reverse_nil, List.nil_append, List.cons_append, List.append_nil, List.getElem?_cons_zero, List.getElem?_cons_succ, List.set_cons_zero, List.set_cons_succ, Nat.add_sub_cancel_left, Nat.sub_self, Nat.add_zero, Nat.zero_add, Nat.le_add_right, Nat.le_refl, true_and, and_true, va_rf, zok, Nat.add_left_cancel_iff, Nat.add_eq_left, Nat.left_eq_add, eq_self, if_true, if_false, not_false_eq_true, not_true_eq_false, false_implies, true_implies, Nat.reduceEqDiff, Nat.reduceAdd, Nat.reduceLT, Nat.reduceLeDiff, reduceIte, k64, cle, q1, pk_rem hx (show 0 < y by omega) hy, nI_1, ed]
        have hm := Nat.mod_lt x (show 0 < y by omega)
        exact ih y (x % y) (by omega) hy (by omega) hP
  simp only [B_X5_commonDivisor_0, B_X5_commonDivisor_7, B_X5_commonDivisor_34, e_cut, e_iload, e_aload, e_istore, e_astore, e_iinc, e_const, e_lconst, e_bin, e_bin0, e_un, e_ladd, e_dupi, e_dupr, e_dup2, e_pop, e_if, e_icmp, e_sw, e_sw0, e_sw1, e_get, e_put, e_ald, e_ast, e_aald, e_aast, e_copy, e_new, e_newa, e_anewa, e_min, e_abs, e_oinit, e_callI, e_callV, e_callS, e_iret, e_zret, e_lret, e_vret, e_tl1, e_tl0, e_tl2, e_tl3, z10, Bool.false_eq_true, e_argi, e_argr, e_argn, zld_c, zst_n, zst_c, zpick_n, zpick_c, List.drop_succ_cons, List.drop_zero, List.take_succ_cons, List.take_zero, List.length_cons, List.length_nil, List.reverse_cons, List.reverse_nil, List.nil_append, List.cons_append, List.append_nil, List.getElem?_cons_zero, List.getElem?_cons_succ, List.set_cons_zero, List.set_cons_succ, Nat.add_sub_cancel_left, Nat.sub_self, Nat.add_zero, Nat.zero_add, Nat.le_add_right, Nat.le_refl, true_and, and_true, va_rf, zok, Nat.add_left_cancel_iff, Nat.add_eq_left, Nat.left_eq_add, eq_self, if_true, if_false, not_false_eq_true, not_true_eq_false, false_implies, true_implies, Nat.reduceEqDiff, Nat.reduceAdd, Nat.reduceLT, Nat.reduceLeDiff, reduceIte]
  exact loop 64 x y (Nat.le_refl _) hx hy hP
set_option maxRecDepth 100000 in
set_option maxHeartbeats 4000000 in
theorem S_X5_commonDivisor_34 {p : Program} {e : Env} {s : State} {m : MethodId} {args : Array Value} {below : List Frame} {meth : Method} {c : Code} {D : va_G} {cy : zY} {b n0 : Nat} {P : zPo} (la : Launch) (X : zX p la e (rm_X5_commonDivisor) s m args below meth c 6 D cy b n0 cX5_commonDivisor wsX5_commonDivisor RX5) (hr : meth.sig.returnType = (some .int)) : zS p la e (rm_X5_commonDivisor) s m args below meth c (MQ below (zQ D b (n0 + 0) P) args s 0 0 (fun q => b ≤ q)) 6 D b n0 34 (B_X5_commonDivisor_34 b n0 cy P (zAt p la e (rm_X5_commonDivisor) s m args below meth c (MQ below (zQ D b (n0 + 0) P) args s 0 0 (fun q => b ≤ q)) 6 D b n0)) := by
  unfold B_X5_commonDivisor_34
  exact (s_iload_n X dX5_commonDivisor_34 rfl (s_iret X dX5_commonDivisor_35 hr))
set_option maxRecDepth 100000 in
set_option maxHeartbeats 4000000 in
theorem S_X5_commonDivisor_7 {p : Program} {e : Env} {s : State} {m : MethodId} {args : Array Value} {below : List Frame} {meth : Method} {c : Code} {D : va_G} {cy : zY} {b n0 : Nat} {P : zPo} (la : Launch) (X : zX p la e (rm_X5_commonDivisor) s m args below meth c 6 D cy b n0 cX5_commonDivisor wsX5_commonDivisor RX5) (hr : meth.sig.returnType = (some .int)) : zS p la e (rm_X5_commonDivisor) s m args below meth c (MQ below (zQ D b (n0 + 0) P) args s 0 0 (fun q => b ≤ q)) 6 D b n0 7 (B_X5_commonDivisor_7 b n0 cy P (zAt p la e (rm_X5_commonDivisor) s m args below meth c (MQ below (zQ D b (n0 + 0) P) args s 0 0 (fun q => b ≤ q)) 6 D b n0)) := by
  unfold B_X5_commonDivisor_7
  exact (s_iload X dX5_commonDivisor_7 (s_bipush X dX5_commonDivisor_9 (by decide) (s_icmp_ge X dX5_commonDivisor_11 (by decide) (S_X5_commonDivisor_34 la X hr) (s_iload_n X dX5_commonDivisor_14 rfl (s_if_eq X dX5_commonDivisor_15 (by decide) (S_X5_commonDivisor_34 la X hr) (s_iload_n X dX5_commonDivisor_18 rfl (s_iload_n X dX5_commonDivisor_19 rfl (s_irem X dX5_commonDivisor_20 (s_istore X dX5_commonDivisor_21 (by decide) (s_iload_n X dX5_commonDivisor_23 rfl (s_istore_n X dX5_commonDivisor_24 rfl (by decide) (s_iload X dX5_commonDivisor_25 (s_istore_n X dX5_commonDivisor_27 rfl (by decide) (s_iinc X dX5_commonDivisor_28 (by decide) (by decide) (s_goto X dX5_commonDivisor_31 (by decide) (s_cut (by decide) zS_at))))))))))))))))
set_option maxRecDepth 100000 in
set_option maxHeartbeats 4000000 in
theorem S_X5_commonDivisor_0 {p : Program} {e : Env} {s : State} {m : MethodId} {args : Array Value} {below : List Frame} {meth : Method} {c : Code} {D : va_G} {cy : zY} {b n0 : Nat} {P : zPo} (la : Launch) (X : zX p la e (rm_X5_commonDivisor) s m args below meth c 6 D cy b n0 cX5_commonDivisor wsX5_commonDivisor RX5) (hr : meth.sig.returnType = (some .int)) : zS p la e (rm_X5_commonDivisor) s m args below meth c (MQ below (zQ D b (n0 + 0) P) args s 0 0 (fun q => b ≤ q)) 6 D b n0 0 (B_X5_commonDivisor_0 b n0 cy P (zAt p la e (rm_X5_commonDivisor) s m args below meth c (MQ below (zQ D b (n0 + 0) P) args s 0 0 (fun q => b ≤ q)) 6 D b n0)) := by
  unfold B_X5_commonDivisor_0
  exact (s_iload_n X dX5_commonDivisor_0 rfl (s_istore_n X dX5_commonDivisor_1 rfl (by decide) (s_iload_n X dX5_commonDivisor_2 rfl (s_istore_n X dX5_commonDivisor_3 rfl (by decide) (s_iconst X dX5_commonDivisor_4 (by decide) (s_istore X dX5_commonDivisor_5 (by decide) (s_cut (by decide) zS_at)))))))
theorem w_X5_commonDivisor (la : Launch) (sp : zSp) (vc : zVC_X5_commonDivisor sp) : zMet la yX5_commonDivisor wsX5_commonDivisor (rm_X5_commonDivisor) 0 0 sp :=
  z_of (cc := cX5_commonDivisor) (maxL := 6) (ret := (some .int)) (by decide +kernel) rfl (fun p e s m args below meth c D cy b n as E P hsp X hr hin => by
    obtain ⟨h1, h2⟩ := vc b cy n as E P (zAt p la e (rm_X5_commonDivisor) s m args below meth c (MQ below (zQ D b (n + 0) P) args s 0 0 (fun q => b ≤ q)) 6 D b n) (fun _ _ _ _ _ q => S_X5_commonDivisor_7 la X hr _ _ _ _ _ q) hsp
    exact ⟨h1, S_X5_commonDivisor_0 la X hr _ _ _ _ _ h2⟩)

theorem m_X5_commonDivisor (la : Launch) : zMet la yX5_commonDivisor wsX5_commonDivisor rm_X5_commonDivisor 0 0 sp_X5_commonDivisor := w_X5_commonDivisor la _ vc_X5_commonDivisor

