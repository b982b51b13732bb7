/-- the model's cells hold a -/
def zMD (b : Nat) (cy : zY) (E : zE) : zA → Prop := fun (T, D, C, I, S, tr) =>
  (∃ (lt q st so va fa : Int32), E 159 = zM0 b tr (nI T.1) lt q st so va fa (nI S.1))
  ∧ (∃ f : Nat → Int32, E 160 = .inl (cy 0, 120, .inl f) ∧ ∀ j, j < T.1 → f j &&& 255 = nI (T.2 j))
  ∧ (∃ f : Nat → Int32, E 161 = .inl (cy 1, 2, .inl f) ∧ f 0 = nI D.1)
  ∧ (∃ f : Nat → Int32, E 162 = .inl (cy 1, 6, .inl f))
  ∧ (∃ f : Nat → Int32, E 163 = .inl (cy 1, 12, .inl f) ∧ ∀ j, j < D.1 → f j = nI (D.2.1 j))
  ∧ (∃ f : Nat → Int32, E 164 = .inl (cy 1, 12, .inl f) ∧ ∀ j, j < D.1 → f j = nI (D.2.2.1 j))
  ∧ (∃ f : Nat → Int32, E 165 = .inl (cy 1, 2, .inl f) ∧ f 0 = nI D.2.2.2)
  ∧ (∃ f : Nat → Int32, E 166 = .inl (cy 1, 1719, .inl f) ∧ zCa f 0 D.1 C ∧ (∀ C', I 0 = some C' → zCa f 573 D.1 C') ∧ (∀ C', I 1 = some C' → zCa f 1146 D.1 C'))
  ∧ (∃ f : Nat → Int32, E 167 = .inl (cy 2, 2, .inl f) ∧ f 0 = (if (I 0).isSome then 1 else 0) ∧ f 1 = (if (I 1).isSome then 1 else 0))
  ∧ (∃ f : Nat → Int32, E 168 = .inl (cy 1, 52, .inl f))
  ∧ (∃ f : Nat → Int32, E 169 = .inl (cy 1, 6, .inl f))
  ∧ (∃ f : Nat → Int32, E 170 = .inl (cy 1, 6, .inl f) ∧ ∀ j, j < S.1 → f j = nI (S.2.1 j))
  ∧ (∃ f : Nat → Int32, E 171 = .inl (cy 1, 6, .inl f) ∧ ∀ j, j < S.1 → f j = nI (S.2.2 j))
/-- a public method of the model: 'op' -/
def zPM (op : zA → zRes) (args : List Value) : zSp := fun b cy as N E P => ∃ (K : Nat) (a : zA), as = .ref (b + 159) :: args ∧ zMD b cy E a ∧ zOk K a ∧ K + 10 < 900000 ∧ 172 ≤ N ∧ (∀ E', zMD b cy E' (op a).2 → (∀ j, j < 159 → E' j = E j) → P (some (.int (op a).1)) E')
theorem zMD.mr {b : Nat} {cy : zY} {E : zE} {N K : Nat} {T : zT} {D : zD} {C : zCar} {I : zIg} {S : zSe} {tr : Int64} (h : zMD b cy E (T, D, C, I, S, tr)) (ho : zOk K (T, D, C, I, S, tr)) (hN : 172 ≤ N) : zMR b cy N E D.1 D.2.1 D.2.2.1 := by
  obtain ⟨⟨lt, q, st, so, va, fa, h0⟩, _, h1, _, h3, h4, _⟩ := h
  exact ⟨⟨_, _, _, _, _, _, _, _, _, h0⟩, h1, h3, h4, ho.1, ho.2.1, hN⟩
theorem zMD.wr {b : Nat} {cy : zY} {E : zE} {T : zT} {D : zD} {C : zCar} {I : zIg} {S : zSe} {tr : Int64} (h : zMD b cy E (T, D, C, I, S, tr)) : ∃ f, zWr cy E 166 1719 D.1 f C.1 ∧ zCa f 0 D.1 C := by
  obtain ⟨_, _, _, _, _, _, _, ⟨f, h6, hC, _⟩, _⟩ := h
  exact ⟨f, ⟨by omega, by omega, h6, hC.1⟩, hC⟩
theorem zMD.o {b : Nat} {cy : zY} {E : zE} {a : zA} (h : zMD b cy E a) : ∃ (lt q st so va fa : Int32), E 159 = zM0 b a.2.2.2.2.2 (nI a.1.1) lt q st so va fa (nI a.2.2.2.2.1.1) := h.1
/-- only the fields of the object have changed -/
theorem zMD.fld {b : Nat} {cy : zY} {E E' : zE} {T : zT} {D : zD} {C : zCar} {I : zIg} {S : zSe} {tr tr' : Int64} {k m : Nat} (h : zMD b cy E (T, D, C, I, S, tr)) (hk : k ≤ T.1) (hm : m ≤ S.1) (h0 : ∃ (lt q st so va fa : Int32), E' 159 = zM0 b tr' (nI k) lt q st so va fa (nI m)) (hE : ∀ j, j ≠ 159 → E' j = E j) : zMD b cy E' ((k, T.2), D, C, I, (m, S.2), tr') := by
  obtain ⟨_, ⟨f, h2, h2'⟩, h3, h4, h5, h6, h7, h8, h9, h10, h11, ⟨g, h12, h12'⟩, ⟨g', h13, h13'⟩⟩ := h
  refine ⟨h0, ⟨f, (hE _ (by omega)).trans h2, fun j hj => h2' j (Nat.lt_of_lt_of_le hj hk)⟩, ?_, ?_, ?_, ?_, ?_, ?_, ?_, ?_, ?_, ⟨g, (hE _ (by omega)).trans h12, fun j hj => h12' j (Nat.lt_of_lt_of_le hj hm)⟩, ⟨g', (hE _ (by omega)).trans h13, fun j hj => h13' j (Nat.lt_of_lt_of_le hj hm)⟩⟩ <;> (rw [hE _ (by omega)]; assumption)
def sp_X6_clear : zSp := fun b cy as N E P => zPM op_clear [] b cy as N E P
abbrev rm_X6_clear : Room := { frames := 1, cells := 0, slots := 0, locals := 40 }
def B_X6_clear_0 (b n0 : Nat) (cy : zY) (P : zPo) (A : Nat → zC) : zC :=
  z_aload 0 (z_get b n0 6 2 (z_istore 1 (z_aload 0 (z_const (0) (z_put b n0 6 2 0 (z_iload 1 (z_iret 0 0 P)))))))
def zVC_X6_clear (sp : zSp) : Prop := ∀ (b : Nat) (cy : zY) (n : Nat) (as : List Value) (E : zE) (P : zPo) (A : Nat → zC), sp b cy as n E P → zgood as 2 ∧ B_X6_clear_0 b n cy P A (lv_args 0 as) [] 0 0 E

set_option maxRecDepth 100000 in
set_option maxHeartbeats 4000000 in
theorem vc_X6_clear : zVC_X6_clear sp_X6_clear := by
  intro b cy N as E P A hsp
  obtain ⟨K, ⟨T, D, C, I, S, tr⟩, rfl, hmd, hok, hK, hN, hP⟩ := hsp
  refine ⟨⟨Nat.le_of_ble_eq_true rfl, zg1 rfl (zg0)⟩, ?_⟩
  have N0 : 159 < N := by omega
  obtain ⟨lt, q, st, so, va, fa, e0⟩ := hmd.o
  replace e0 : E 159 = zM0 b tr (nI T.1) lt q st so va fa (nI S.1) := e0
  simp only [op_clear] at hP
  simp -implicitDefEqProofs only [B_X6_clear_0, e_cut, e_iload, e_aload, e_istore, e_astore, e_iinc, e_const, e_lconst, e_bin, e_bin0, e_un, e_ladd, e_dupi, e_dupr, e_dup2, e_pop, e_if, e_icmp, e_sw, e_sw0, e_sw1, e_get, e_put, e_ald, e_ast, e_aald, e_aast, e_copy, e_new, e_newa, e_anewa, e_min, e_abs, e_oinit, e_callI, e_callV, e_callS, e_iret, e_zret, e_lret, e_vret, e_tl1, e_tl0, e_tl2, e_tl3, z10, Bool.false_eq_true, e_argi, e_argr, e_argn, zld_c, zst_n, zst_c, zpick_n, zpick_c, List.drop_succ_cons, List.drop_zero, List.take_succ_cons, List.take_zero, List.length_cons, List.length_nil, List.reverse_cons, List.reverse_nil, List.nil_append, List.cons_append, List.append_nil, List.getElem?_cons_zero, List.getElem?_cons_succ, List.set_cons_zero, List.set_cons_succ, Nat.add_sub_cancel_left, Nat.sub_self, Nat.add_zero, Nat.zero_add, Nat.le_add_right, Nat.le_refl, true_and, and_true, va_rf, zok, Nat.add_left_cancel_iff, Nat.add_eq_left, Nat.left_eq_add, eq_self, if_true, if_false, not_false_eq_true, not_true_eq_false, false_implies, true_implies, Nat.reduceEqDiff, Nat.reduceAdd, Nat.reduceLT, Nat.reduceLeDiff, reduceIte, zM0, e0, N0]
  refine hP _ (hmd.fld (Nat.zero_le _) (Nat.le_refl _) ⟨_, _, _, _, _, _, u_eq⟩ (fun j hj => u_ne hj)) (fun j hj => u_ne (by omega))
set_option maxRecDepth 20000 in
theorem f_X6_clear_58 : Cond.fieldLink RX6 58 (TX6 2).1 (TX6 2).2.1 (TX6 2).2.2.1 ∈ wsX6_clear := by decide +kernel
set_option maxRecDepth 20000 in
theorem k_X6_clear_6 : ∀ w ∈ u_ws RX6 TX6 21, w ∈ wsX6_clear := fun _ h => List.mem_cons_of_mem _ (List.mem_append_right _ h)
set_option maxRecDepth 100000 in
set_option maxHeartbeats 4000000 in
theorem S_X6_clear_0 {p : Program} {e : Env} {s : State} {m : MethodId} {args : Array Value} {below : List Frame} {meth : Method} {c : Code} {D : va_G} {cy : zY} {b n0 : Nat} {P : zPo} (la : Launch) (X : zX p la e (rm_X6_clear) s m args below meth c 2 D cy b n0 cX6_clear wsX6_clear RX6) (hr : meth.sig.returnType = (some .int)) : zS p la e (rm_X6_clear) s m args below meth c (MQ below (zQ D b (n0 + 0) P) args s 0 0 (fun q => b ≤ q)) 2 D b n0 0 (B_X6_clear_0 b n0 cy P (zAt p la e (rm_X6_clear) s m args below meth c (MQ below (zQ D b (n0 + 0) P) args s 0 0 (fun q => b ≤ q)) 2 D b n0)) := by
  unfold B_X6_clear_0
  exact (s_aload_n X dX6_clear_0 rfl (s_get X dX6_clear_1 rfl k_X6_clear_6 (by decide) f_X6_clear_58 (s_istore_n X dX6_clear_4 rfl (by decide) (s_aload_n X dX6_clear_5 rfl (s_iconst X dX6_clear_6 (by decide) (s_put X dX6_clear_7 rfl k_X6_clear_6 tyX6_ok nmX6 (by decide) f_X6_clear_58 rfl (tyX6_ok 2 (by decide)) zok_int (s_iload_n X dX6_clear_10 rfl (s_iret X dX6_clear_11 hr))))))))
theorem w_X6_clear (la : Launch) (sp : zSp) (vc : zVC_X6_clear sp) : zMet la yX6_clear wsX6_clear (rm_X6_clear) 0 0 sp :=
  z_of (cc := cX6_clear) (maxL := 2) (ret := (some .int)) (by decide +kernel) rfl (fun p e s m args below meth c D cy b n as E P hsp X hr hin => by
    obtain ⟨h1, h2⟩ := vc b cy n as E P (zAt p la e (rm_X6_clear) s m args below meth c (MQ below (zQ D b (n + 0) P) args s 0 0 (fun q => b ≤ q)) 2 D b n) hsp
    exact ⟨h1, S_X6_clear_0 la X hr _ _ _ _ _ h2⟩)

theorem m_X6_clear (la : Launch) : zMet la yX6_clear wsX6_clear rm_X6_clear 0 0 sp_X6_clear := w_X6_clear la _ vc_X6_clear
def sp_X6_forget : zSp := fun b cy as N E P => zPM op_forget [] b cy as N E P
abbrev rm_X6_forget : Room := { frames := 1, cells := 0, slots := 0, locals := 40 }
def B_X6_forget_0 (b n0 : Nat) (cy : zY) (P : zPo) (A : Nat → zC) : zC :=
  z_aload 0 (z_get b n0 6 20 (z_istore 1 (z_aload 0 (z_const (0) (z_put b n0 6 20 0 (z_iload 1 (z_iret 0 0 P)))))))
def zVC_X6_forget (sp : zSp) : Prop := ∀ (b : Nat) (cy : zY) (n : Nat) (as : List Value) (E : zE) (P : zPo) (A : Nat → zC), sp b cy as n E P → zgood as 2 ∧ B_X6_forget_0 b n cy P A (lv_args 0 as) [] 0 0 E

set_option maxRecDepth 100000 in
set_option maxHeartbeats 4000000 in
theorem vc_X6_forget : zVC_X6_forget sp_X6_forget := by
  intro b cy N as E P A hsp
  obtain ⟨K, ⟨T, D, C, I, S, tr⟩, rfl, hmd, hok, hK, hN, hP⟩ := hsp
  refine ⟨⟨Nat.le_of_ble_eq_true rfl, zg1 rfl (zg0)⟩, ?_⟩
  have N0 : 159 < N := by omega
  obtain ⟨lt, q, st, so, va, fa, e0⟩ := hmd.o
  replace e0 : E 159 = zM0 b tr (nI T.1) lt q st so va fa (nI S.1) := e0
  simp only [op_forget] at hP
  simp -implicitDefEqProofs only [B_X6_forget_0, e_cut, e_iload, e_aload, e_istore, e_astore, e_iinc, e_const, e_lconst, e_bin, e_bin0, e_un, e_ladd, e_dupi, e_dupr, e_dup2, e_pop, e_if, e_icmp, e_sw, e_sw0, e_sw1, e_get, e_put, e_ald, e_ast, e_aald, e_aast, e_copy, e_new, e_newa, e_anewa, e_min, e_abs, e_oinit, e_callI, e_callV, e_callS, e_iret, e_zret, e_lret, e_vret, e_tl1, e_tl0, e_tl2, e_tl3, z10, Bool.false_eq_true, e_argi, e_argr, e_argn, zld_c, zst_n, zst_c, zpick_n, zpick_c, List.drop_succ_cons, List.drop_zero, List.take_succ_cons, List.take_zero, List.length_cons, List.length_nil, List.reverse_cons, List.reverse_nil, List.nil_append, List.cons_append, List.append_nil, List.getElem?_cons_zero, List.getElem?_cons_succ, List.set_cons_zero, List.set_cons_succ, Nat.add_sub_cancel_left, Nat.sub_self, Nat.add_zero, Nat.zero_add, Nat.le_add_right, Nat.le_refl, true_and, and_true, va_rf, zok, Nat.add_left_cancel_iff, Nat.add_eq_left, Nat.left_eq_add, eq_self, if_true, if_false, not_false_eq_true, not_true_eq_false, false_implies, true_implies, Nat.reduceEqDiff, Nat.reduceAdd, Nat.reduceLT, Nat.reduceLeDiff, reduceIte, zM0, e0, N0]
  refine hP _ (hmd.fld (Nat.le_refl _) (Nat.zero_le _) ⟨_, _, _, _, _, _, u_eq⟩ (fun j hj => u_ne hj)) (fun j hj => u_ne (by omega))
set_option maxRecDepth 20000 in
theorem f_X6_forget_96 : Cond.fieldLink RX6 96 (TX6 20).1 (TX6 20).2.1 (TX6 20).2.2.1 ∈ wsX6_forget := by decide +kernel
set_option maxRecDepth 20000 in
theorem k_X6_forget_6 : ∀ w ∈ u_ws RX6 TX6 21, w ∈ wsX6_forget := fun _ h => List.mem_cons_of_mem _ (List.mem_append_right _ h)
set_option maxRecDepth 100000 in
set_option maxHeartbeats 4000000 in
theorem S_X6_forget_0 {p : Program} {e : Env} {s : State} {m : MethodId} {args : Array Value} {below : List Frame} {meth : Method} {c : Code} {D : va_G} {cy : zY} {b n0 : Nat} {P : zPo} (la : Launch) (X : zX p la e (rm_X6_forget) s m args below meth c 2 D cy b n0 cX6_forget wsX6_forget RX6) (hr : meth.sig.returnType = (some .int)) : zS p la e (rm_X6_forget) s m args below meth c (MQ below (zQ D b (n0 + 0) P) args s 0 0 (fun q => b ≤ q)) 2 D b n0 0 (B_X6_forget_0 b n0 cy P (zAt p la e (rm_X6_forget) s m args below meth c (MQ below (zQ D b (n0 + 0) P) args s 0 0 (fun q => b ≤ q)) 2 D b n0)) := by
  unfold B_X6_forget_0
  exact (s_aload_n X dX6_forget_0 rfl (s_get X dX6_forget_1 rfl k_X6_forget_6 (by decide) f_X6_forget_96 (s_istore_n X dX6_forget_4 rfl (by decide) (s_aload_n X dX6_forget_5 rfl (s_iconst X dX6_forget_6 (by decide) (s_put X dX6_forget_7 rfl k_X6_forget_6 tyX6_ok nmX6 (by decide) f_X6_forget_96 rfl (tyX6_ok 20 (by decide)) zok_int (s_iload_n X dX6_forget_10 rfl (s_iret X dX6_forget_11 hr))))))))
theorem w_X6_forget (la : Launch) (sp : zSp) (vc : zVC_X6_forget sp) : zMet la yX6_forget wsX6_forget (rm_X6_forget) 0 0 sp :=
  z_of (cc := cX6_forget) (maxL := 2) (ret := (some .int)) (by decide +kernel) rfl (fun p e s m args below meth c D cy b n as E P hsp X hr hin => by
    obtain ⟨h1, h2⟩ := vc b cy n as E P (zAt p la e (rm_X6_forget) s m args below meth c (MQ below (zQ D b (n + 0) P) args s 0 0 (fun q => b ≤ q)) 2 D b n) hsp
    exact ⟨h1, S_X6_forget_0 la X hr _ _ _ _ _ h2⟩)

theorem m_X6_forget (la : Launch) : zMet la yX6_forget wsX6_forget rm_X6_forget 0 0 sp_X6_forget := w_X6_forget la _ vc_X6_forget
def sp_X6_trace : zSp := fun b cy as N E P => ∃ (K : Nat) (a : zA), as = [.ref (b + 159)] ∧ zMD b cy E a ∧ zOk K a ∧ 172 ≤ N ∧ P (some (.long a.2.2.2.2.2)) E
abbrev rm_X6_trace : Room := { frames := 1, cells := 0, slots := 0, locals := 40 }
def B_X6_trace_0 (b n0 : Nat) (cy : zY) (P : zPo) (A : Nat → zC) : zC :=
  z_aload 0 (z_get b n0 6 0 (z_lret 0 0 P))
def zVC_X6_trace (sp : zSp) : Prop := ∀ (b : Nat) (cy : zY) (n : Nat) (as : List Value) (E : zE) (P : zPo) (A : Nat → zC), sp b cy as n E P → zgood as 1 ∧ B_X6_trace_0 b n cy P A (lv_args 0 as) [] 0 0 E

set_option maxRecDepth 100000 in
set_option maxHeartbeats 4000000 in
theorem vc_X6_trace : zVC_X6_trace sp_X6_trace := by
  intro b cy N as E P A hsp
  obtain ⟨K, a, rfl, hmd, hok, hN, hP⟩ := hsp
  refine ⟨⟨Nat.le_of_ble_eq_true rfl, zg1 rfl (zg0)⟩, ?_⟩
  have N0 : 159 < N := by omega
  obtain ⟨lt, q, st, so, va, fa, e0⟩ := hmd.o
  simp -implicitDefEqProofs only [B_X6_trace_0, e_cut, e_iload, e_aload, e_istore, e_astore, e_iinc, e_const, e_lconst, e_bin, e_bin0, e_un, e_ladd, e_dupi, e_dupr, e_dup2, e_pop, e_if, e_icmp, e_sw, e_sw0, e_sw1, e_get, e_put, e_ald, e_ast, e_aald, e_aast, e_copy, e_new, e_newa, e_anewa, e_min, e_abs, e_oinit, e_callI, e_callV, e_callS, e_iret, e_zret, e_lret, e_vret, e_tl1, e_tl0, e_tl2, e_tl3, z10, Bool.false_eq_true, e_argi, e_argr, e_argn, zld_c, zst_n, zst_c, zpick_n, zpick_c, List.drop_succ_cons, List.drop_zero, List.take_succ_cons, List.take_zero, List.length_cons, List.length_nil, List.reverse_cons, List.reverse_nil, List.nil_append, List.cons_append, List.append_nil, List.getElem?_cons_zero, List.getElem?_cons_succ, List.set_cons_zero, List.set_cons_succ, Nat.add_sub_cancel_left, Nat.sub_self, Nat.add_zero, Nat.zero_add, Nat.le_add_right, Nat.le_refl, true_and, and_true, va_rf, zok, Nat.add_left_cancel_iff, Nat.add_eq_left, Nat.left_eq_add, eq_self, if_true, if_false, not_false_eq_true, not_true_eq_false, false_implies, true_implies, Nat.reduceEqDiff, Nat.reduceAdd, Nat.reduceLT, Nat.reduceLeDiff, reduceIte, zM0, e0, N0]
  exact hP
set_option maxRecDepth 20000 in
theorem f_X6_trace_170 : Cond.fieldLink RX6 170 (TX6 0).1 (TX6 0).2.1 (TX6 0).2.2.1 ∈ wsX6_trace := by decide +kernel
set_option maxRecDepth 20000 in
theorem k_X6_trace_6 : ∀ w ∈ u_ws RX6 TX6 21, w ∈ wsX6_trace := fun _ h => List.mem_cons_of_mem _ (List.mem_append_right _ h)
set_option maxRecDepth 100000 in
set_option maxHeartbeats 4000000 in
theorem S_X6_trace_0 {p : Program} {e : Env} {s : State} {m : MethodId} {args : Array Value} {below : List Frame} {meth : Method} {c : Code} {D : va_G} {cy : zY} {b n0 : Nat} {P : zPo} (la : Launch) (X : zX p la e (rm_X6_trace) s m args below meth c 1 D cy b n0 cX6_trace wsX6_trace RX6) (hr : meth.sig.returnType = (some .long)) : zS p la e (rm_X6_trace) s m args below meth c (MQ below (zQ D b (n0 + 0) P) args s 0 0 (fun q => b ≤ q)) 1 D b n0 0 (B_X6_trace_0 b n0 cy P (zAt p la e (rm_X6_trace) s m args below meth c (MQ below (zQ D b (n0 + 0) P) args s 0 0 (fun q => b ≤ q)) 1 D b n0)) := by
  unfold B_X6_trace_0
  exact (s_aload_n X dX6_trace_0 rfl (s_get X dX6_trace_1 rfl k_X6_trace_6 (by decide) f_X6_trace_170 (s_lret X dX6_trace_4 hr)))
theorem w_X6_trace (la : Launch) (sp : zSp) (vc : zVC_X6_trace sp) : zMet la yX6_trace wsX6_trace (rm_X6_trace) 0 0 sp :=
  z_of (cc := cX6_trace) (maxL := 1) (ret := (some .long)) (by decide +kernel) rfl (fun p e s m args below meth c D cy b n as E P hsp X hr hin => by
    obtain ⟨h1, h2⟩ := vc b cy n as E P (zAt p la e (rm_X6_trace) s m args below meth c (MQ below (zQ D b (n + 0) P) args s 0 0 (fun q => b ≤ q)) 1 D b n) hsp
    exact ⟨h1, S_X6_trace_0 la X hr _ _ _ _ _ h2⟩)

theorem m_X6_trace (la : Launch) : zMet la yX6_trace wsX6_trace rm_X6_trace 0 0 sp_X6_trace := w_X6_trace la _ vc_X6_trace

