/-! BellCars$Moment: reads -/
def sp_X1_isAboard : zSp := fun b cy as N E P => ∃ (i r n : Nat) (c : Nat → Nat), as = [.ref (b + i), .int (nI r)] ∧ zMo b cy E i n c ∧ i + 3 < N ∧ r < 6 ∧ c 1 < 64 ∧ P (some (.int (if (c 1).testBit r then 1 else 0))) E
abbrev rm_X1_isAboard : Room := { frames := 1, cells := 0, slots := 0, locals := 40 }
def B_X1_isAboard_16 (b n0 : Nat) (cy : zY) (P : zPo) (A : Nat → zC) : zC :=
  z_zret 0 0 P
def B_X1_isAboard_0 (b n0 : Nat) (cy : zY) (P : zPo) (A : Nat → zC) : zC :=
  z_aload 0 (z_get b n0 1 1 (z_iload 1 (z_bin (fun x y => x >>> (y &&& 31)) (z_const (1) (z_bin (fun x y => x &&& y) (z_if (fun x => x = 0) (z_const (0) (B_X1_isAboard_16 b n0 cy P A)) (z_const (1) (B_X1_isAboard_16 b n0 cy P A))))))))
def zVC_X1_isAboard (sp : zSp) : Prop := ∀ (b : Nat) (cy : zY) (n : Nat) (as : List Value) (E : zE) (P : zPo) (A : Nat → zC), sp b cy as n E P → zgood as 2 ∧ B_X1_isAboard_0 b n cy P A (lv_args 0 as) [] 0 0 E

set_option maxRecDepth 100000 in
set_option maxHeartbeats 4000000 in
theorem vc_X1_isAboard : zVC_X1_isAboard sp_X1_isAboard := by
  intro b cy N as E P A hsp
  obtain ⟨i, r, n, c, rfl, ⟨hn, f, g, h, h0, h1, h2, h3, hf, hg, hh⟩, hi, hr, hc, hP⟩ := hsp
  refine ⟨⟨Nat.le_of_ble_eq_true rfl, zg1 rfl (zg1 rfl (zg0))⟩, ?_⟩
  have hi0 : i < N := by omega
  simp only [B_X1_isAboard_0, B_X1_isAboard_16, e_cut, e_iload, e_aload, e_istore, e_astore, e_iinc, e_const, e_lconst, e_bin, e_bin0, e_un, e_ladd, e_dupi, e_dupr, e_dup2, e_pop, e_if, e_icmp, e_sw, e_sw0, e_sw1, e_get, e_put, e_ald, e_ast, e_aald, e_aast, e_copy, e_new, e_newa, e_anewa, e_min, e_abs, e_oinit, e_callI, e_callV, e_callS, e_iret, e_zret, e_lret, e_vret, e_tl1, e_tl0, e_tl2, e_tl3, z10, Bool.false_eq_true, e_argi, e_argr, e_argn, zld_c, zst_n, zst_c, zpick_n, zpick_c, List.drop_succ_cons, List.drop_zero, List.take_succ_cons, List.take_zero, List.length_cons, List.length_nil, List.reverse_cons, List.reverse_nil, List.nil_append, List.cons_append, List.append_nil, List.getElem?_cons_zero, List.getElem?_cons_succ, List.set_cons_zero, List.set_cons_succ, Nat.add_sub_cancel_left, Nat.sub_self, Nat.add_zero, Nat.zero_add, Nat.le_add_right, Nat.le_refl, true_and, and_true, va_rf, zok, Nat.add_left_cancel_iff, Nat.add_eq_left, Nat.left_eq_add, eq_self, if_true, if_false, not_false_eq_true, not_true_eq_false, false_implies, true_implies, Nat.reduceEqDiff, Nat.reduceAdd, Nat.reduceLT, Nat.reduceLeDiff, reduceIte, h0, hi0, zbit hc hr]
  cases ht : (c 1).testBit r <;> simp [ht] at hP ⊢ <;> exact hP
set_option maxRecDepth 20000 in
theorem f_X1_isAboard_30 : Cond.fieldLink RX1 30 (TX1 1).1 (TX1 1).2.1 (TX1 1).2.2.1 ∈ wsX1_isAboard := by decide +kernel
set_option maxRecDepth 20000 in
theorem k_X1_isAboard_1 : ∀ w ∈ u_ws RX1 TX1 7, w ∈ wsX1_isAboard := fun _ h => List.mem_cons_of_mem _ (List.mem_append_right _ h)
set_option maxRecDepth 100000 in
set_option maxHeartbeats 4000000 in
theorem S_X1_isAboard_16 {p : Program} {e : Env} {s : State} {m : MethodId} {args : Array Value} {below : List Frame} {meth : Method} {c : Code} {D : va_G} {cy : zY} {b n0 : Nat} {P : zPo} (la : Launch) (X : zX p la e (rm_X1_isAboard) s m args below meth c 2 D cy b n0 cX1_isAboard wsX1_isAboard RX1) (hr : meth.sig.returnType = (some .boolean)) : zS p la e (rm_X1_isAboard) s m args below meth c (MQ below (zQ D b (n0 + 0) P) args s 0 0 (fun q => b ≤ q)) 2 D b n0 16 (B_X1_isAboard_16 b n0 cy P (zAt p la e (rm_X1_isAboard) s m args below meth c (MQ below (zQ D b (n0 + 0) P) args s 0 0 (fun q => b ≤ q)) 2 D b n0)) := by
  unfold B_X1_isAboard_16
  exact (s_zret X dX1_isAboard_16 hr)
set_option maxRecDepth 100000 in
set_option maxHeartbeats 4000000 in
theorem S_X1_isAboard_0 {p : Program} {e : Env} {s : State} {m : MethodId} {args : Array Value} {below : List Frame} {meth : Method} {c : Code} {D : va_G} {cy : zY} {b n0 : Nat} {P : zPo} (la : Launch) (X : zX p la e (rm_X1_isAboard) s m args below meth c 2 D cy b n0 cX1_isAboard wsX1_isAboard RX1) (hr : meth.sig.returnType = (some .boolean)) : zS p la e (rm_X1_isAboard) s m args below meth c (MQ below (zQ D b (n0 + 0) P) args s 0 0 (fun q => b ≤ q)) 2 D b n0 0 (B_X1_isAboard_0 b n0 cy P (zAt p la e (rm_X1_isAboard) s m args below meth c (MQ below (zQ D b (n0 + 0) P) args s 0 0 (fun q => b ≤ q)) 2 D b n0)) := by
  unfold B_X1_isAboard_0
  exact (s_aload_n X dX1_isAboard_0 rfl (s_get X dX1_isAboard_1 rfl k_X1_isAboard_1 (by decide) f_X1_isAboard_30 (s_iload_n X dX1_isAboard_4 rfl (s_ishr X dX1_isAboard_5 (s_iconst X dX1_isAboard_6 (by decide) (s_iand X dX1_isAboard_7 (s_if_eq X dX1_isAboard_8 (by decide) (s_iconst X dX1_isAboard_15 (by decide) (S_X1_isAboard_16 la X hr)) (s_iconst X dX1_isAboard_11 (by decide) (s_goto X dX1_isAboard_12 (by decide) (S_X1_isAboard_16 la X hr))))))))))
theorem w_X1_isAboard (la : Launch) (sp : zSp) (vc : zVC_X1_isAboard sp) : zMet la yX1_isAboard wsX1_isAboard (rm_X1_isAboard) 0 0 sp :=
  z_of (cc := cX1_isAboard) (maxL := 2) (ret := (some .boolean)) (by decide +kernel) rfl (fun p e s m args below meth c D cy b n as E P hsp X hr hin => by
    obtain ⟨h1, h2⟩ := vc b cy n as E P (zAt p la e (rm_X1_isAboard) s m args below meth c (MQ below (zQ D b (n + 0) P) args s 0 0 (fun q => b ≤ q)) 2 D b n) hsp
    exact ⟨h1, S_X1_isAboard_0 la X hr _ _ _ _ _ h2⟩)

theorem m_X1_isAboard (la : Launch) : zMet la yX1_isAboard wsX1_isAboard rm_X1_isAboard 0 0 sp_X1_isAboard := w_X1_isAboard la _ vc_X1_isAboard
def sp_X1_thoughtOf : zSp := fun b cy as N E P => ∃ (i r q n : Nat) (c : Nat → Nat), as = [.ref (b + i), .int (nI r), .int (nI q)] ∧ zMo b cy E i n c ∧ i + 3 < N ∧ r < 6 ∧ q < 6 ∧ P (some (.int (nI (c (16 + 6 * r + q))))) E
abbrev rm_X1_thoughtOf : Room := { frames := 1, cells := 0, slots := 0, locals := 40 }
def B_X1_thoughtOf_0 (b n0 : Nat) (cy : zY) (P : zPo) (A : Nat → zC) : zC :=
  z_aload 0 (z_get b n0 1 6 (z_iload 1 (z_const (6) (z_bin (fun x y => x * y) (z_iload 2 (z_bin (fun x y => x + y) (z_ald b n0 (cy 1) (z_iret 0 0 P))))))))
def zVC_X1_thoughtOf (sp : zSp) : Prop := ∀ (b : Nat) (cy : zY) (n : Nat) (as : List Value) (E : zE) (P : zPo) (A : Nat → zC), sp b cy as n E P → zgood as 3 ∧ B_X1_thoughtOf_0 b n cy P A (lv_args 0 as) [] 0 0 E

set_option maxRecDepth 100000 in
set_option maxHeartbeats 4000000 in
theorem vc_X1_thoughtOf : zVC_X1_thoughtOf sp_X1_thoughtOf := by
  intro b cy N as E P A hsp
  obtain ⟨i, r, q, n, c, rfl, ⟨hn, f, g, h, h0, h1, h2, h3, hf, hg, hh⟩, hi, hr, hq, hP⟩ := hsp
  refine ⟨⟨Nat.le_of_ble_eq_true rfl, zg1 rfl (zg1 rfl (zg1 rfl (zg0)))⟩, ?_⟩
  have hi0 : i < N := by omega
  have hin : vp_in (nI (6 * r + q)) 36 := vp_in_nI (by omega) (by omega)
  have hcl : (nI (6 * r + q)).toNatClampNeg = 6 * r + q := nI_clamp (by omega)
  have hv : h (6 * r + q) = nI (c (16 + 6 * r + q)) := by rw [hh _ (by omega), Nat.add_assoc]
  simp only [B_X1_thoughtOf_0, e_cut, e_iload, e_aload, e_istore, e_astore, e_iinc, e_const, e_lconst, e_bin, e_bin0, e_un, e_ladd, e_dupi, e_dupr, e_dup2, e_pop, e_if, e_icmp, e_sw, e_sw0, e_sw1, e_get, e_put, e_ald, e_ast, e_aald, e_aast, e_copy, e_new, e_newa, e_anewa, e_min, e_abs, e_oinit, e_callI, e_callV, e_callS, e_iret, e_zret, e_lret, e_vret, e_tl1, e_tl0, e_tl2, e_tl3, z10, Bool.false_eq_true, e_argi, e_argr, e_argn, zld_c, zst_n, zst_c, zpick_n, zpick_c, List.drop_succ_cons, List.drop_zero, List.take_succ_cons, List.take_zero, List.length_cons, List.length_nil, List.reverse_cons, List.reverse_nil, List.nil_append, List.cons_append, List.append_nil, List.getElem?_cons_zero, List.getElem?_cons_succ, List.set_cons_zero, List.set_cons_succ, Nat.add_sub_cancel_left, Nat.sub_self, Nat.add_zero, Nat.zero_add, Nat.le_add_right, Nat.le_refl, true_and, and_true, va_rf, zok, Nat.add_left_cancel_iff, Nat.add_eq_left, Nat.left_eq_add, eq_self, if_true, if_false, not_false_eq_true, not_true_eq_false, false_implies, true_implies, Nat.reduceEqDiff, Nat.reduceAdd, Nat.reduceLT, Nat.reduceLeDiff, reduceIte, h0, hi0, h3, hi, zix, hin, hcl, hv]
  exact hP
set_option maxRecDepth 20000 in
theorem f_X1_thoughtOf_18 : Cond.fieldLink RX1 18 (TX1 6).1 (TX1 6).2.1 (TX1 6).2.2.1 ∈ wsX1_thoughtOf := by decide +kernel
set_option maxRecDepth 20000 in
theorem k_X1_thoughtOf_1 : ∀ w ∈ u_ws RX1 TX1 7, w ∈ wsX1_thoughtOf := fun _ h => List.mem_cons_of_mem _ (List.mem_append_right _ h)
set_option maxRecDepth 100000 in
set_option maxHeartbeats 4000000 in
theorem S_X1_thoughtOf_0 {p : Program} {e : Env} {s : State} {m : MethodId} {args : Array Value} {below : List Frame} {meth : Method} {c : Code} {D : va_G} {cy : zY} {b n0 : Nat} {P : zPo} (la : Launch) (X : zX p la e (rm_X1_thoughtOf) s m args below meth c 3 D cy b n0 cX1_thoughtOf wsX1_thoughtOf RX1) (hr : meth.sig.returnType = (some .int)) : zS p la e (rm_X1_thoughtOf) s m args below meth c (MQ below (zQ D b (n0 + 0) P) args s 0 0 (fun q => b ≤ q)) 3 D b n0 0 (B_X1_thoughtOf_0 b n0 cy P (zAt p la e (rm_X1_thoughtOf) s m args below meth c (MQ below (zQ D b (n0 + 0) P) args s 0 0 (fun q => b ≤ q)) 3 D b n0)) := by
  unfold B_X1_thoughtOf_0
  exact (s_aload_n X dX1_thoughtOf_0 rfl (s_get X dX1_thoughtOf_1 rfl k_X1_thoughtOf_1 (by decide) f_X1_thoughtOf_18 (s_iload_n X dX1_thoughtOf_4 rfl (s_bipush X dX1_thoughtOf_5 (by decide) (s_imul X dX1_thoughtOf_7 (s_iload_n X dX1_thoughtOf_8 rfl (s_iadd X dX1_thoughtOf_9 (s_iald X dX1_thoughtOf_10 (s_iret X dX1_thoughtOf_11 hr)))))))))
theorem w_X1_thoughtOf (la : Launch) (sp : zSp) (vc : zVC_X1_thoughtOf sp) : zMet la yX1_thoughtOf wsX1_thoughtOf (rm_X1_thoughtOf) 0 0 sp :=
  z_of (cc := cX1_thoughtOf) (maxL := 3) (ret := (some .int)) (by decide +kernel) rfl (fun p e s m args below meth c D cy b n as E P hsp X hr hin => by
    obtain ⟨h1, h2⟩ := vc b cy n as E P (zAt p la e (rm_X1_thoughtOf) s m args below meth c (MQ below (zQ D b (n + 0) P) args s 0 0 (fun q => b ≤ q)) 3 D b n) hsp
    exact ⟨h1, S_X1_thoughtOf_0 la X hr _ _ _ _ _ h2⟩)

theorem m_X1_thoughtOf (la : Launch) : zMet la yX1_thoughtOf wsX1_thoughtOf rm_X1_thoughtOf 0 0 sp_X1_thoughtOf := w_X1_thoughtOf la _ vc_X1_thoughtOf
/-! writes -/
def sp_X1_think : zSp := fun b cy as N E P => ∃ (i r q n : Nat) (c : Nat → Nat), as = [.ref (b + i), .int (nI r), .int (nI q)] ∧ zMo b cy E i n c ∧ i + 3 < N ∧ r < 6 ∧ q < 6 ∧ (∀ E', zMo b cy E' i n (zthink c r q) → (∀ j, j < i ∨ i + 3 < j → E' j = E j) → P none E')
abbrev rm_X1_think : Room := { frames := 1, cells := 0, slots := 0, locals := 40 }
def B_X1_think_0 (b n0 : Nat) (cy : zY) (P : zPo) (A : Nat → zC) : zC :=
  z_aload 0 (z_dup (z_get b n0 1 2 (z_const (1) (z_bin (fun x y => x + y) (z_put b n0 1 2 0 (z_aload 0 (z_get b n0 1 6 (z_iload 1 (z_const (6) (z_bin (fun x y => x * y) (z_iload 2 (z_bin (fun x y => x + y) (z_aload 0 (z_get b n0 1 2 (z_ast b n0 (cy 1) (fun x => x) (z_vret 0 0 P))))))))))))))))
def zVC_X1_think (sp : zSp) : Prop := ∀ (b : Nat) (cy : zY) (n : Nat) (as : List Value) (E : zE) (P : zPo) (A : Nat → zC), sp b cy as n E P → zgood as 3 ∧ B_X1_think_0 b n cy P A (lv_args 0 as) [] 0 0 E

set_option maxRecDepth 100000 in
set_option maxHeartbeats 4000000 in
theorem vc_X1_think : zVC_X1_think sp_X1_think := by
  intro b cy N as E P A hsp
  obtain ⟨i, r, q, n, c, rfl, ⟨hn, f, g, h, h0, h1, h2, h3, hf, hg, hh⟩, hi, hr, hq, hP⟩ := hsp
  refine ⟨⟨Nat.le_of_ble_eq_true rfl, zg1 rfl (zg1 rfl (zg1 rfl (zg0)))⟩, ?_⟩
  have hi0 : i < N := by omega
  have hin : vp_in (nI (6 * r + q)) 36 := vp_in_nI (by omega) (by omega)
  have hcl : (nI (6 * r + q)).toNatClampNeg = 6 * r + q := nI_clamp (by omega)
  have e1 : (i + 3 = i) = False := by simp
  simp only [B_X1_think_0, e_cut, e_iload, e_aload, e_istore, e_astore, e_iinc, e_const, e_lconst, e_bin, e_bin0, e_un, e_ladd, e_dupi, e_dupr, e_dup2, e_pop, e_if, e_icmp, e_sw, e_sw0, e_sw1, e_get, e_put, e_ald, e_ast, e_aald, e_aast, e_copy, e_new, e_newa, e_anewa, e_min, e_abs, e_oinit, e_callI, e_callV, e_callS, e_iret, e_zret, e_lret, e_vret, e_tl1, e_tl0, e_tl2, e_tl3, z10, Bool.false_eq_true, e_argi, e_argr, e_argn, zld_c, zst_n, zst_c, zpick_n, zpick_c, List.drop_succ_cons, List.drop_zero, List.take_succ_cons, List.take_zero, List.length_cons, List.length_nil, List.reverse_cons, List.reverse_nil, List.nil_append, List.cons_append, List.append_nil, List.getElem?_cons_zero, List.getElem?_cons_succ, List.set_cons_zero, List.set_cons_succ, Nat.add_sub_cancel_left, Nat.sub_self, Nat.add_zero, Nat.zero_add, Nat.le_add_right, Nat.le_refl, true_and, and_true, va_rf, zok, Nat.add_left_cancel_iff, Nat.add_eq_left, Nat.left_eq_add, eq_self, if_true, if_false, not_false_eq_true, not_true_eq_false, false_implies, true_implies, Nat.reduceEqDiff, Nat.reduceAdd, Nat.reduceLT, Nat.reduceLeDiff, reduceIte, h0, hi0, h3, hi, zix, hin, hcl, e_up, e1, if_true, if_false, nI_1]
  refine hP _ ⟨hn, f, g, upd h (6 * r + q) (nI (c 2 + 1)), ?_, ?_, ?_, ?_, ?_, ?_, ?_⟩ ?_
  · simp [e_up, zthink_lo, zthink_2]
  · simp [e_up, h1]
  · simp [e_up, h2]
  · simp [e_up]
  · intro j hj
    rw [zthink_lo (by omega) (by omega)]; exact hf j hj
  · intro j hj
    rw [zthink_lo (by omega) (by omega)]; exact hg j hj
  · intro j hj
    rw [zthink_hi]
    simp only [upd]
    by_cases h9 : j = 6 * r + q
    · rw [if_pos h9, if_pos h9]
    · rw [if_neg h9, if_neg h9]; exact hh j hj
  · intro j hj
    have a1 : ¬ j = i := by omega
    have a2 : ¬ j = i + 3 := by omega
    simp [e_up, a1, a2]
set_option maxRecDepth 20000 in
theorem f_X1_think_33 : Cond.fieldLink RX1 33 (TX1 2).1 (TX1 2).2.1 (TX1 2).2.2.1 ∈ wsX1_think := by decide +kernel
set_option maxRecDepth 20000 in
theorem k_X1_think_1 : ∀ w ∈ u_ws RX1 TX1 7, w ∈ wsX1_think := fun _ h => List.mem_cons_of_mem _ (List.mem_append_right _ h)
set_option maxRecDepth 20000 in
theorem f_X1_think_18 : Cond.fieldLink RX1 18 (TX1 6).1 (TX1 6).2.1 (TX1 6).2.2.1 ∈ wsX1_think := by decide +kernel
set_option maxRecDepth 100000 in
set_option maxHeartbeats 4000000 in
theorem S_X1_think_0 {p : Program} {e : Env} {s : State} {m : MethodId} {args : Array Value} {below : List Frame} {meth : Method} {c : Code} {D : va_G} {cy : zY} {b n0 : Nat} {P : zPo} (la : Launch) (X : zX p la e (rm_X1_think) s m args below meth c 3 D cy b n0 cX1_think wsX1_think RX1) (hr : meth.sig.returnType = none) : zS p la e (rm_X1_think) s m args below meth c (MQ below (zQ D b (n0 + 0) P) args s 0 0 (fun q => b ≤ q)) 3 D b n0 0 (B_X1_think_0 b n0 cy P (zAt p la e (rm_X1_think) s m args below meth c (MQ below (zQ D b (n0 + 0) P) args s 0 0 (fun q => b ≤ q)) 3 D b n0)) := by
  unfold B_X1_think_0
  exact (s_aload_n X dX1_think_0 rfl (s_dup X dX1_think_1 (s_get X dX1_think_2 rfl k_X1_think_1 (by decide) f_X1_think_33 (s_iconst X dX1_think_5 (by decide) (s_iadd X dX1_think_6 (s_put X dX1_think_7 rfl k_X1_think_1 tyX1_ok nmX1 (by decide) f_X1_think_33 rfl (tyX1_ok 2 (by decide)) zok_int (s_aload_n X dX1_think_10 rfl (s_get X dX1_think_11 rfl k_X1_think_1 (by decide) f_X1_think_18 (s_iload_n X dX1_think_14 rfl (s_bipush X dX1_think_15 (by decide) (s_imul X dX1_think_17 (s_iload_n X dX1_think_18 rfl (s_iadd X dX1_think_19 (s_aload_n X dX1_think_20 rfl (s_get X dX1_think_21 rfl k_X1_think_1 (by decide) f_X1_think_33 (s_iast X dX1_think_24 (s_vret X dX1_think_25 hr)))))))))))))))))
theorem w_X1_think (la : Launch) (sp : zSp) (vc : zVC_X1_think sp) : zMet la yX1_think wsX1_think (rm_X1_think) 0 0 sp :=
  z_of (cc := cX1_think) (maxL := 3) (ret := none) (by decide +kernel) rfl (fun p e s m args below meth c D cy b n as E P hsp X hr hin => by
    obtain ⟨h1, h2⟩ := vc b cy n as E P (zAt p la e (rm_X1_think) s m args below meth c (MQ below (zQ D b (n + 0) P) args s 0 0 (fun q => b ≤ q)) 3 D b n) hsp
    exact ⟨h1, S_X1_think_0 la X hr _ _ _ _ _ h2⟩)

theorem m_X1_think (la : Launch) : zMet la yX1_think wsX1_think rm_X1_think 0 0 sp_X1_think := w_X1_think la _ vc_X1_think

