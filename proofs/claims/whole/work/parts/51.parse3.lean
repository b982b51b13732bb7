def sp_X6_due : zSp := fun b cy as N E P => ∃ (tr : Int64) (len : Nat) (tx : Nat → Nat) (lt se fa va : Int32) (k : zTk) (is : Bool), as = [.ref (b + 159), .int (if is = true then 1 else 0)] ∧ E 159 = zM0 b tr (nI len) lt (nI k.1) (nI k.2.2.1) (zms k) va fa se ∧ (k.2.1 = 2 → va = nI k.2.2.2) ∧ zMt cy E len tx ∧ 161 ≤ N ∧ ((fa = -9 ∧ is = true ∧ k.1 ≤ len ∧ ∀ E', zPq b E' len tr lt se (ztk len tx k.1) (-9) → (∀ j, j ≠ 159 → E' j = E j) → P (some (.int va)) E') ∨ (fa = -9 ∧ is = false ∧ ∀ E', zPq b E' len tr lt se k (nI k.2.2.1) → (∀ j, j ≠ 159 → E' j = E j) → P (some (.int va)) E') ∨ (¬ fa = -9 ∧ P (some (.int va)) E))
abbrev rm_X6_due : Room := { frames := 3, cells := 0, slots := 0, locals := 83 }
def B_X6_due_33 (b n0 : Nat) (cy : zY) (P : zPo) (A : Nat → zC) : zC :=
  z_iload 2 (z_iret 0 0 P)
def B_X6_due_0 (b n0 : Nat) (cy : zY) (P : zPo) (A : Nat → zC) : zC :=
  z_aload 0 (z_get b n0 6 12 (z_istore 2 (z_aload 0 (z_get b n0 6 13 (z_const (-9) (z_icmp (fun x y => x = y) (z_iload 1 (z_if (fun x => x = 0) (z_aload 0 (z_aload 0 (z_get b n0 6 10 (z_put b n0 6 13 0 (B_X6_due_33 b n0 cy P A))))) (z_aload 0 (z_callV b n0 0 0 cy 6 0 0 0 sp_X6_step (B_X6_due_33 b n0 cy P A))))) (B_X6_due_33 b n0 cy P A)))))))
def zVC_X6_due (sp : zSp) : Prop := ∀ (b : Nat) (cy : zY) (n : Nat) (as : List Value) (E : zE) (P : zPo) (A : Nat → zC), sp b cy as n E P → zgood as 3 ∧ B_X6_due_0 b n cy P A (lv_args 0 as) [] 0 0 E

set_option maxRecDepth 100000 in
set_option maxHeartbeats 4000000 in
theorem vc_X6_due : zVC_X6_due sp_X6_due := by
  intro b cy N as E P A hsp
  obtain ⟨tr, len, tx, lt, se, fa, va, k, is, rfl, e0, hva, hMt, hN, hP⟩ := hsp
  refine ⟨⟨Nat.le_of_ble_eq_true rfl, zg1 rfl (zg1 rfl (zg0))⟩, ?_⟩
  have N0 : 159 < N := by omega
  rcases hP with ⟨h1, h2, hk1, hP⟩ | ⟨h1, h2, hP⟩ | ⟨h1, hP⟩
  · subst h1
    rw [h2, if_pos rfl]
    simp -implicitDefEqProofs only [B_X6_due_0, e_cut, e_iload, e_aload, e_istore, e_astore, e_iinc, e_const, e_lconst, e_bin, e_bin0, e_un, e_ladd, e_dupi, e_dupr, e_dup2, e_pop, e_sw, e_sw0, e_sw1, e_get, e_put, e_ald, e_ast, e_aald, e_aast, e_copy, e_new, e_newa, e_anewa, e_min, e_abs, e_oinit, e_callI, e_callV, e_callS, e_iret, e_zret, e_lret, e_vret, e_tl1, e_tl0, e_tl2, e_tl3, z10, Bool.false_eq_true, e_argi, e_argr, e_argn, zld_c, zst_n, zst_c, zpick_n, zpick_c, List.drop_succ_cons, List.drop_zero, List.take_succ_cons, List.take_zero, List.length_cons, List.length_nil, List.reverse_cons, List.reverse_nil, List.nil_append, List.cons_append, List.append_nil, List.getElem?_cons_zero, List.getElem?_cons_succ, List.set_cons_zero, List.set_cons_succ, Nat.add_sub_cancel_left, Nat.sub_self, Nat.add_zero, Nat.zero_add, Nat.le_add_right, Nat.le_refl, true_and, and_true, va_rf, zok, Nat.add_left_cancel_iff, Nat.add_eq_left, Nat.left_eq_add, eq_self, if_true, if_false, not_false_eq_true, not_true_eq_false, false_implies, true_implies, Nat.reduceEqDiff, Nat.reduceAdd, Nat.reduceLT, Nat.reduceLeDiff, reduceIte, zM0, e0, N0, e_icmpt (c2 := fun x y => x = y) (show (-9 : Int32) = -9 from rfl), e_iff (c1 := fun x => x = 0) (x := 1) (by decide)]
    refine ⟨tr, len, k.1, tx, lt, _, _, _, -9, se, rfl, e0, hMt, hk1, by omega, fun E1 hq hk => ?_⟩
    simp -implicitDefEqProofs only [B_X6_due_33, e_cut, e_iload, e_aload, e_istore, e_astore, e_iinc, e_const, e_lconst, e_bin, e_bin0, e_un, e_ladd, e_dupi, e_dupr, e_dup2, e_pop, e_sw, e_sw0, e_sw1, e_get, e_put, e_ald, e_ast, e_aald, e_aast, e_copy, e_new, e_newa, e_anewa, e_min, e_abs, e_oinit, e_callI, e_callV, e_callS, e_iret, e_zret, e_lret, e_vret, e_tl1, e_tl0, e_tl2, e_tl3, z10, Bool.false_eq_true, e_argi, e_argr, e_argn, zld_c, zst_n, zst_c, zpick_n, zpick_c, List.drop_succ_cons, List.drop_zero, List.take_succ_cons, List.take_zero, List.length_cons, List.length_nil, List.reverse_cons, List.reverse_nil, List.nil_append, List.cons_append, List.append_nil, List.getElem?_cons_zero, List.getElem?_cons_succ, List.set_cons_zero, List.set_cons_succ, Nat.add_sub_cancel_left, Nat.sub_self, Nat.add_zero, Nat.zero_add, Nat.le_add_right, Nat.le_refl, true_and, and_true, va_rf, zok, Nat.add_left_cancel_iff, Nat.add_eq_left, Nat.left_eq_add, eq_self, if_true, if_false, not_false_eq_true, not_true_eq_false, false_implies, true_implies, Nat.reduceEqDiff, Nat.reduceAdd, Nat.reduceLT, Nat.reduceLeDiff, reduceIte]
    exact hP E1 hq hk
  · subst h1
    rw [h2, if_neg (by simp)]
    simp -implicitDefEqProofs only [B_X6_due_0, e_cut, e_iload, e_aload, e_istore, e_astore, e_iinc, e_const, e_lconst, e_bin, e_bin0, e_un, e_ladd, e_dupi, e_dupr, e_dup2, e_pop, e_sw, e_sw0, e_sw1, e_get, e_put, e_ald, e_ast, e_aald, e_aast, e_copy, e_new, e_newa, e_anewa, e_min, e_abs, e_oinit, e_callI, e_callV, e_callS, e_iret, e_zret, e_lret, e_vret, e_tl1, e_tl0, e_tl2, e_tl3, z10, Bool.false_eq_true, e_argi, e_argr, e_argn, zld_c, zst_n, zst_c, zpick_n, zpick_c, List.drop_succ_cons, List.drop_zero, List.take_succ_cons, List.take_zero, List.length_cons, List.length_nil, List.reverse_cons, List.reverse_nil, List.nil_append, List.cons_append, List.append_nil, List.getElem?_cons_zero, List.getElem?_cons_succ, List.set_cons_zero, List.set_cons_succ, Nat.add_sub_cancel_left, Nat.sub_self, Nat.add_zero, Nat.zero_add, Nat.le_add_right, Nat.le_refl, true_and, and_true, va_rf, zok, Nat.add_left_cancel_iff, Nat.add_eq_left, Nat.left_eq_add, eq_self, if_true, if_false, not_false_eq_true, not_true_eq_false, false_implies, true_implies, Nat.reduceEqDiff, Nat.reduceAdd, Nat.reduceLT, Nat.reduceLeDiff, reduceIte, zM0, e0, N0, e_icmpt (c2 := fun x y => x = y) (show (-9 : Int32) = -9 from rfl), e_ift (c1 := fun x => x = 0) (x := 0) rfl, B_X6_due_33]
    exact hP _ ⟨va, u_eq, hva⟩ (fun j hj => u_ne hj)
  · simp -implicitDefEqProofs only [B_X6_due_0, e_cut, e_iload, e_aload, e_istore, e_astore, e_iinc, e_const, e_lconst, e_bin, e_bin0, e_un, e_ladd, e_dupi, e_dupr, e_dup2, e_pop, e_sw, e_sw0, e_sw1, e_get, e_put, e_ald, e_ast, e_aald, e_aast, e_copy, e_new, e_newa, e_anewa, e_min, e_abs, e_oinit, e_callI, e_callV, e_callS, e_iret, e_zret, e_lret, e_vret, e_tl1, e_tl0, e_tl2, e_tl3, z10, Bool.false_eq_true, e_argi, e_argr, e_argn, zld_c, zst_n, zst_c, zpick_n, zpick_c, List.drop_succ_cons, List.drop_zero, List.take_succ_cons, List.take_zero, List.length_cons, List.length_nil, List.reverse_cons, List.reverse_nil, List.nil_append, List.cons_append, List.append_nil, List.getElem?_cons_zero, List.getElem?_cons_succ, List.set_cons_zero, List.set_cons_succ, Nat.add_sub_cancel_left, Nat.sub_self, Nat.add_zero, Nat.zero_add, Nat.le_add_right, Nat.le_refl, true_and, and_true, va_rf, zok, Nat.add_left_cancel_iff, Nat.add_eq_left, Nat.left_eq_add, eq_self, if_true, if_false, not_false_eq_true, not_true_eq_false, false_implies, true_implies, Nat.reduceEqDiff, Nat.reduceAdd, Nat.reduceLT, Nat.reduceLeDiff, reduceIte, zM0, e0, N0, e_icmpf (c2 := fun x y => x = y) h1, B_X6_due_33]
    exact hP
set_option maxRecDepth 20000 in
theorem f_X6_due_72 : Cond.fieldLink RX6 72 (TX6 12).1 (TX6 12).2.1 (TX6 12).2.2.1 ∈ wsX6_due := by decide +kernel
set_option maxRecDepth 20000 in
theorem k_X6_due_6 : ∀ w ∈ u_ws RX6 TX6 21, w ∈ wsX6_due := fun _ h => List.mem_cons_of_mem _ (List.mem_append_right _ h)
set_option maxRecDepth 20000 in
theorem f_X6_due_78 : Cond.fieldLink RX6 78 (TX6 13).1 (TX6 13).2.1 (TX6 13).2.2.1 ∈ wsX6_due := by decide +kernel
set_option maxRecDepth 20000 in
theorem f_X6_due_69 : Cond.fieldLink RX6 69 (TX6 10).1 (TX6 10).2.1 (TX6 10).2.2.1 ∈ wsX6_due := by decide +kernel
set_option maxRecDepth 100000 in
set_option maxHeartbeats 4000000 in
theorem S_X6_due_33 {p : Program} {e : Env} {s : State} {m : MethodId} {args : Array Value} {below : List Frame} {meth : Method} {c : Code} {D : va_G} {cy : zY} {b n0 : Nat} {P : zPo} (la : Launch) (X : zX p la e (rm_X6_due) s m args below meth c 3 D cy b n0 cX6_due wsX6_due RX6) (hr : meth.sig.returnType = (some .int)) (h_X6_step : zMet la yX6_step wsX6_step rm_X6_step 0 0 sp_X6_step) : zS p la e (rm_X6_due) s m args below meth c (MQ below (zQ D b (n0 + 0) P) args s 0 0 (fun q => b ≤ q)) 3 D b n0 33 (B_X6_due_33 b n0 cy P (zAt p la e (rm_X6_due) s m args below meth c (MQ below (zQ D b (n0 + 0) P) args s 0 0 (fun q => b ≤ q)) 3 D b n0)) := by
  unfold B_X6_due_33
  exact (s_iload_n X dX6_due_33 rfl (s_iret X dX6_due_34 hr))
set_option maxRecDepth 100000 in
set_option maxHeartbeats 4000000 in
theorem S_X6_due_0 {p : Program} {e : Env} {s : State} {m : MethodId} {args : Array Value} {below : List Frame} {meth : Method} {c : Code} {D : va_G} {cy : zY} {b n0 : Nat} {P : zPo} (la : Launch) (X : zX p la e (rm_X6_due) s m args below meth c 3 D cy b n0 cX6_due wsX6_due RX6) (hr : meth.sig.returnType = (some .int)) (h_X6_step : zMet la yX6_step wsX6_step rm_X6_step 0 0 sp_X6_step) : zS p la e (rm_X6_due) s m args below meth c (MQ below (zQ D b (n0 + 0) P) args s 0 0 (fun q => b ≤ q)) 3 D b n0 0 (B_X6_due_0 b n0 cy P (zAt p la e (rm_X6_due) s m args below meth c (MQ below (zQ D b (n0 + 0) P) args s 0 0 (fun q => b ≤ q)) 3 D b n0)) := by
  unfold B_X6_due_0
  exact (s_aload_n X dX6_due_0 rfl (s_get X dX6_due_1 rfl k_X6_due_6 (by decide) f_X6_due_72 (s_istore_n X dX6_due_4 rfl (by decide) (s_aload_n X dX6_due_5 rfl (s_get X dX6_due_6 rfl k_X6_due_6 (by decide) f_X6_due_78 (s_bipush X dX6_due_9 (by decide) (s_icmp_ne X dX6_due_11 (by decide) (S_X6_due_33 la X hr h_X6_step) (s_iload_n X dX6_due_14 rfl (s_if_eq X dX6_due_15 (by decide) (s_aload_n X dX6_due_25 rfl (s_aload_n X dX6_due_26 rfl (s_get X dX6_due_27 rfl k_X6_due_6 (by decide) f_X6_due_69 (s_put X dX6_due_30 rfl k_X6_due_6 tyX6_ok nmX6 (by decide) f_X6_due_78 rfl (tyX6_ok 13 (by decide)) zok_int (S_X6_due_33 la X hr h_X6_step))))) (s_aload_n X dX6_due_18 rfl (s_callV X h_X6_step dX6_due_19 rfl gX6_due_X6_step rfl rfl rfl (by decide +kernel) ⟨by decide, by decide⟩ (s_goto X dX6_due_22 (by decide) (S_X6_due_33 la X hr h_X6_step)))))))))))))
theorem w_X6_due (la : Launch) (h_X6_step : zMet la yX6_step wsX6_step rm_X6_step 0 0 sp_X6_step) (sp : zSp) (vc : zVC_X6_due sp) : zMet la yX6_due wsX6_due (rm_X6_due) 0 0 sp :=
  z_of (cc := cX6_due) (maxL := 3) (ret := (some .int)) (by decide +kernel) rfl (fun p e s m args below meth c D cy b n as E P hsp X hr hin => by
    obtain ⟨h1, h2⟩ := vc b cy n as E P (zAt p la e (rm_X6_due) s m args below meth c (MQ below (zQ D b (n + 0) P) args s 0 0 (fun q => b ≤ q)) 3 D b n) hsp
    exact ⟨h1, S_X6_due_0 la X hr h_X6_step _ _ _ _ _ h2⟩)

theorem m_X6_due (la : Launch) : zMet la yX6_due wsX6_due rm_X6_due 0 0 sp_X6_due := w_X6_due la (m_X6_step la) _ vc_X6_due
theorem zms_1 {k : zTk} (hs : k.2.1 ≤ 4) (hv : k.2.2.2 < 256) (hl : k.2.1 = 1 → k.2.2.2 = 0 ∨ 97 ≤ k.2.2.2) : (zms k = 1) = (k.2.1 = 2) := by
  unfold zms
  rcases (show k.2.1 = 0 ∨ k.2.1 = 1 ∨ k.2.1 = 2 ∨ k.2.1 = 3 ∨ k.2.1 = 4 by omega) with h | h | h | h | h
  · rw [h]; simp
  · rw [h]
    by_cases e : k.2.2.2 = 0
    · rw [if_neg (by omega), if_pos rfl, if_pos e]; simp
    · have h97 := (hl h).resolve_left e
      rw [if_neg (by omega), if_pos rfl, if_neg e, nI_lit (n := 1) (x := 1) rfl (by omega) (by omega)]
      simp; omega
  · rw [h]; simp
  · rw [h]; simp
  · rw [h]; simp
theorem ztk_w {len q : Nat} {tx : Nat → Nat} : (ztk len tx q).2.1 = 1 → (ztk len tx q).2.2.2 = 0 ∨ 97 ≤ (ztk len tx q).2.2.2 := by
  unfold ztk
  generalize zs (zokr 32 32) tx len q = s
  simp only
  by_cases c1 : s < len
  · rw [if_pos c1]
    by_cases c2 : zokr 97 122 (tx s) = true
    · rw [if_pos c2]
      intro _
      have : 97 ≤ tx s ∧ tx s ≤ 122 := by simpa [zokr] using c2
      simp only
      split
      · exact Or.inr this.1
      · exact Or.inl rfl
    · rw [if_neg c2]
      by_cases c3 : zokr 48 57 (tx s) = true
      · rw [if_pos c3]; intro h; exfalso; revert h; simp only; split <;> omega
      · rw [if_neg c3]; intro h; exfalso; revert h; simp only; split <;> omega
  · rw [if_neg c1]; intro h; simp at h
/-- a token that can be -/
def zKo (len : Nat) (k : zTk) : Prop := k.1 ≤ len ∧ k.2.1 ≤ 4 ∧ k.2.2.1 ≤ len ∧ k.2.2.2 < 256 ∧ (k.2.1 = 1 → k.2.2.2 = 0 ∨ 97 ≤ k.2.2.2)
theorem zKo_tk {len q : Nat} {tx : Nat → Nat} (hq : q ≤ len) (ht : ∀ j, j < len → tx j < 256) : zKo len (ztk len tx q) := by
  obtain ⟨a1, a2, a3, a4, a5, a6⟩ := ztk_b hq ht
  exact ⟨a2, a3, a4, a5, ztk_w⟩
def sp_X6_number : zSp := fun b cy as N E P => ∃ (tr : Int64) (len lo hi : Nat) (tx : Nat → Nat) (lt se fa : Int32) (k : zTk), as = [.ref (b + 159), .int (nI lo), .int (nI hi)] ∧ zPq b E len tr lt se k fa ∧ zMt cy E len tx ∧ zKo len k ∧ lo < 256 ∧ hi < 256 ∧ 161 ≤ N ∧ ((fa = -9 ∧ znum lo hi k = true ∧ ∀ E', zPq b E' len tr lt se (ztk len tx k.1) (-9) → (∀ j, j ≠ 159 → E' j = E j) → P (some (.int (nI k.2.2.2))) E') ∨ (fa = -9 ∧ znum lo hi k = false ∧ ∀ E' v, zPq b E' len tr lt se k (nI k.2.2.1) → (∀ j, j ≠ 159 → E' j = E j) → P (some (.int v)) E') ∨ (¬ fa = -9 ∧ ∀ v, P (some (.int v)) E))
abbrev rm_X6_number : Room := { frames := 4, cells := 0, slots := 0, locals := 105 }
def B_X6_number_26 (b n0 : Nat) (cy : zY) (P : zPo) (A : Nat → zC) : zC :=
  z_callV b n0 0 0 cy 6 1 0 0 sp_X6_due (z_iret 0 0 P)
def B_X6_number_25 (b n0 : Nat) (cy : zY) (P : zPo) (A : Nat → zC) : zC :=
  z_const (0) (B_X6_number_26 b n0 cy P A)
def B_X6_number_0 (b n0 : Nat) (cy : zY) (P : zPo) (A : Nat → zC) : zC :=
  z_aload 0 (z_aload 0 (z_get b n0 6 11 (z_const (1) (z_icmp (fun x y => x = y) (z_aload 0 (z_get b n0 6 12 (z_iload 1 (z_iload 2 (z_callS b n0 0 0 cy 3 0 0 sp_X6_in (z_if (fun x => x = 0) (B_X6_number_25 b n0 cy P A) (z_const (1) (B_X6_number_26 b n0 cy P A)))))))) (B_X6_number_25 b n0 cy P A)))))
def zVC_X6_number (sp : zSp) : Prop := ∀ (b : Nat) (cy : zY) (n : Nat) (as : List Value) (E : zE) (P : zPo) (A : Nat → zC), sp b cy as n E P → zgood as 3 ∧ B_X6_number_0 b n cy P A (lv_args 0 as) [] 0 0 E

set_option maxRecDepth 100000 in
set_option maxHeartbeats 4000000 in
theorem vc_X6_number : zVC_X6_number sp_X6_number := by
  intro b cy N as E P A hsp
  obtain ⟨tr, len, lo, hi, tx, lt, se, fa, k, rfl, ⟨va, e0, hva⟩, hMt, hko, hlo, hhi, hN, hP⟩ := hsp
  refine ⟨⟨Nat.le_of_ble_eq_true rfl, zg1 rfl (zg1 rfl (zg1 rfl (zg0)))⟩, ?_⟩
  have N0 : 159 < N := by omega
  obtain ⟨o1, o2, o3, o4, o5⟩ := hko
  have kz := zms_1 o2 o4 o5
  have b26 : ∀ l, B_X6_number_26 b N cy P A l [.int (if znum lo hi k = true then 1 else 0), .ref (b + 159)] 0 0 E := by
    intro l
    simp -implicitDefEqProofs only [B_X6_number_26, e_cut, e_iload, e_aload, e_istore, e_astore, e_iinc, e_const, e_lconst, e_bin, e_bin0, e_un, e_ladd, e_dupi, e_dupr, e_dup2, e_pop, e_sw, e_sw0, e_sw1, e_get, e_put, e_ald, e_ast, e_aald, e_aast, e_copy, e_new, e_newa, e_anewa, e_min, e_abs, e_oinit, e_callI, e_callV, e_callS, e_iret, e_zret, e_lret, e_vret, e_tl1, e_tl0, e_tl2, e_tl3, z10, Bool.false_eq_true, e_argi, e_argr, e_argn, zld_c, zst_n, zst_c, zpick_n, zpick_c, List.drop_succ_cons, List.drop_zero, List.take_succ_cons, List.take_zero, List.length_cons, List.length_nil, List.reverse_cons, List.reverse_nil, List.nil_append, List.cons_append, List.append_nil, List.getElem?_cons_zero, List.getElem?_cons_succ, List.set_cons_zero, List.set_cons_succ, Nat.add_sub_cancel_left, Nat.sub_self, Nat.add_zero, Nat.zero_add, Nat.le_add_right, Nat.le_refl, true_and, and_true, va_rf, zok, Nat.add_left_cancel_iff, Nat.add_eq_left, Nat.left_eq_add, eq_self, if_true, if_false, not_false_eq_true, not_true_eq_false, false_implies, true_implies, Nat.reduceEqDiff, Nat.reduceAdd, Nat.reduceLT, Nat.reduceLeDiff, reduceIte, zM0, e0, N0]
    refine ⟨tr, len, tx, lt, se, fa, va, k, znum lo hi k, rfl, e0, hva, hMt, hN, ?_⟩
    rcases hP with ⟨h1, h2, h3⟩ | ⟨h1, h2, h3⟩ | ⟨h1, h3⟩
    · refine Or.inl ⟨h1, h2, o1, fun E' hq hk => ?_⟩
      have := h3 E' hq hk
      rw [← hva (znum_b h2).1] at this
      simp -implicitDefEqProofs only [e_cut, e_iload, e_aload, e_istore, e_astore, e_iinc, e_const, e_lconst, e_bin, e_bin0, e_un, e_ladd, e_dupi, e_dupr, e_dup2, e_pop, e_sw, e_sw0, e_sw1, e_get, e_put, e_ald, e_ast, e_aald, e_aast, e_copy, e_new, e_newa, e_anewa, e_min, e_abs, e_oinit, e_callI, e_callV, e_callS, e_iret, e_zret, e_lret, e_vret, e_tl1, e_tl0, e_tl2, e_tl3, z10, Bool.false_eq_true, e_argi, e_argr, e_argn, zld_c, zst_n, zst_c, zpick_n, zpick_c, List.drop_succ_cons, List.drop_zero, List.take_succ_cons, List.take_zero, List.length_cons, List.length_nil, List.reverse_cons, List.reverse_nil, List.nil_append, List.cons_append, List.append_nil, List.getElem?_cons_zero, List.getElem?_cons_succ, List.set_cons_zero, List.set_cons_succ, Nat.add_sub_cancel_left, Nat.sub_self, Nat.add_zero, Nat.zero_add, Nat.le_add_right, Nat.le_refl, true_and, and_true, va_rf, zok, Nat.add_left_cancel_iff, Nat.add_eq_left, Nat.left_eq_add, eq_self, if_true, if_false, not_false_eq_true, not_true_eq_false, false_implies, true_implies, Nat.reduceEqDiff, Nat.reduceAdd, Nat.reduceLT, Nat.reduceLeDiff, reduceIte]
      exact this
    · refine Or.inr (Or.inl ⟨h1, h2, fun E' hq hk => ?_⟩)
      simp -implicitDefEqProofs only [e_cut, e_iload, e_aload, e_istore, e_astore, e_iinc, e_const, e_lconst, e_bin, e_bin0, e_un, e_ladd, e_dupi, e_dupr, e_dup2, e_pop, e_sw, e_sw0, e_sw1, e_get, e_put, e_ald, e_ast, e_aald, e_aast, e_copy, e_new, e_newa, e_anewa, e_min, e_abs, e_oinit, e_callI, e_callV, e_callS, e_iret, e_zret, e_lret, e_vret, e_tl1, e_tl0, e_tl2, e_tl3, z10, Bool.false_eq_true, e_argi, e_argr, e_argn, zld_c, zst_n, zst_c, zpick_n, zpick_c, List.drop_succ_cons, List.drop_zero, List.take_succ_cons, List.take_zero, List.length_cons, List.length_nil, List.reverse_cons, List.reverse_nil, List.nil_append, List.cons_append, List.append_nil, List.getElem?_cons_zero, List.getElem?_cons_succ, List.set_cons_zero, List.set_cons_succ, Nat.add_sub_cancel_left, Nat.sub_self, Nat.add_zero, Nat.zero_add, Nat.le_add_right, Nat.le_refl, true_and, and_true, va_rf, zok, Nat.add_left_cancel_iff, Nat.add_eq_left, Nat.left_eq_add, eq_self, if_true, if_false, not_false_eq_true, not_true_eq_false, false_implies, true_implies, Nat.reduceEqDiff, Nat.reduceAdd, Nat.reduceLT, Nat.reduceLeDiff, reduceIte]
      exact h3 E' va hq hk
    · refine Or.inr (Or.inr ⟨h1, ?_⟩)
      simp -implicitDefEqProofs only [e_cut, e_iload, e_aload, e_istore, e_astore, e_iinc, e_const, e_lconst, e_bin, e_bin0, e_un, e_ladd, e_dupi, e_dupr, e_dup2, e_pop, e_sw, e_sw0, e_sw1, e_get, e_put, e_ald, e_ast, e_aald, e_aast, e_copy, e_new, e_newa, e_anewa, e_min, e_abs, e_oinit, e_callI, e_callV, e_callS, e_iret, e_zret, e_lret, e_vret, e_tl1, e_tl0, e_tl2, e_tl3, z10, Bool.false_eq_true, e_argi, e_argr, e_argn, zld_c, zst_n, zst_c, zpick_n, zpick_c, List.drop_succ_cons, List.drop_zero, List.take_succ_cons, List.take_zero, List.length_cons, List.length_nil, List.reverse_cons, List.reverse_nil, List.nil_append, List.cons_append, List.append_nil, List.getElem?_cons_zero, List.getElem?_cons_succ, List.set_cons_zero, List.set_cons_succ, Nat.add_sub_cancel_left, Nat.sub_self, Nat.add_zero, Nat.zero_add, Nat.le_add_right, Nat.le_refl, true_and, and_true, va_rf, zok, Nat.add_left_cancel_iff, Nat.add_eq_left, Nat.left_eq_add, eq_self, if_true, if_false, not_false_eq_true, not_true_eq_false, false_implies, true_implies, Nat.reduceEqDiff, Nat.reduceAdd, Nat.reduceLT, Nat.reduceLeDiff, reduceIte]
      exact h3 va
  by_cases c1 : k.2.1 = 2
  · have hv := hva c1
    subst hv
    have hn : znum lo hi k = zokr lo hi k.2.2.2 := by unfold znum; rw [decide_eq_true c1, Bool.true_and]
    rw [hn] at b26
    simp -implicitDefEqProofs only [B_X6_number_0, B_X6_number_25, e_cut, e_iload, e_aload, e_istore, e_astore, e_iinc, e_const, e_lconst, e_bin, e_bin0, e_un, e_ladd, e_dupi, e_dupr, e_dup2, e_pop, e_sw, e_sw0, e_sw1, e_get, e_put, e_ald, e_ast, e_aald, e_aast, e_copy, e_new, e_newa, e_anewa, e_min, e_abs, e_oinit, e_callI, e_callV, e_callS, e_iret, e_zret, e_lret, e_vret, e_tl1, e_tl0, e_tl2, e_tl3, z10, Bool.false_eq_true, e_argi, e_argr, e_argn, zld_c, zst_n, zst_c, zpick_n, zpick_c, List.drop_succ_cons, List.drop_zero, List.take_succ_cons, List.take_zero, List.length_cons, List.length_nil, List.reverse_cons, List.reverse_nil, List.nil_append, List.cons_append, List.append_nil, List.getElem?_cons_zero, List.getElem?_cons_succ, List.set_cons_zero, List.set_cons_succ, Nat.add_sub_cancel_left, Nat.sub_self, Nat.add_zero, Nat.zero_add, Nat.le_add_right, Nat.le_refl, true_and, and_true, va_rf, zok, Nat.add_left_cancel_iff, Nat.add_eq_left, Nat.left_eq_add, eq_self, if_true, if_false, not_false_eq_true, not_true_eq_false, false_implies, true_implies, Nat.reduceEqDiff, Nat.reduceAdd, Nat.reduceLT, Nat.reduceLeDiff, reduceIte, zM0, e0, N0, e_icmpt (c2 := fun x y => x = y) (kz.mpr c1)]
    refine ⟨_, _, _, rfl, ?_⟩
    rw [zin_ok hlo hhi o4]
    by_cases c2 : zokr lo hi k.2.2.2 = true
    · rw [c2, if_pos rfl] at b26
      rw [if_pos c2]
      simp -implicitDefEqProofs only [e_cut, e_iload, e_aload, e_istore, e_astore, e_iinc, e_const, e_lconst, e_bin, e_bin0, e_un, e_ladd, e_dupi, e_dupr, e_dup2, e_pop, e_sw, e_sw0, e_sw1, e_get, e_put, e_ald, e_ast, e_aald, e_aast, e_copy, e_new, e_newa, e_anewa, e_min, e_abs, e_oinit, e_callI, e_callV, e_callS, e_iret, e_zret, e_lret, e_vret, e_tl1, e_tl0, e_tl2, e_tl3, z10, Bool.false_eq_true, e_argi, e_argr, e_argn, zld_c, zst_n, zst_c, zpick_n, zpick_c, List.drop_succ_cons, List.drop_zero, List.take_succ_cons, List.take_zero, List.length_cons, List.length_nil, List.reverse_cons, List.reverse_nil, List.nil_append, List.cons_append, List.append_nil, List.getElem?_cons_zero, List.getElem?_cons_succ, List.set_cons_zero, List.set_cons_succ, Nat.add_sub_cancel_left, Nat.sub_self, Nat.add_zero, Nat.zero_add, Nat.le_add_right, Nat.le_refl, true_and, and_true, va_rf, zok, Nat.add_left_cancel_iff, Nat.add_eq_left, Nat.left_eq_add, eq_self, if_true, if_false, not_false_eq_true, not_true_eq_false, false_implies, true_implies, Nat.reduceEqDiff, Nat.reduceAdd, Nat.reduceLT, Nat.reduceLeDiff, reduceIte, e_iff (c1 := fun x => x = 0) (x := 1) (by decide)]
      exact b26 _
    · rw [if_neg c2] at b26
      rw [if_neg c2]
      simp -implicitDefEqProofs only [e_cut, e_iload, e_aload, e_istore, e_astore, e_iinc, e_const, e_lconst, e_bin, e_bin0, e_un, e_ladd, e_dupi, e_dupr, e_dup2, e_pop, e_sw, e_sw0, e_sw1, e_get, e_put, e_ald, e_ast, e_aald, e_aast, e_copy, e_new, e_newa, e_anewa, e_min, e_abs, e_oinit, e_callI, e_callV, e_callS, e_iret, e_zret, e_lret, e_vret, e_tl1, e_tl0, e_tl2, e_tl3, z10, Bool.false_eq_true, e_argi, e_argr, e_argn, zld_c, zst_n, zst_c, zpick_n, zpick_c, List.drop_succ_cons, List.drop_zero, List.take_succ_cons, List.take_zero, List.length_cons, List.length_nil, List.reverse_cons, List.reverse_nil, List.nil_append, List.cons_append, List.append_nil, List.getElem?_cons_zero, List.getElem?_cons_succ, List.set_cons_zero, List.set_cons_succ, Nat.add_sub_cancel_left, Nat.sub_self, Nat.add_zero, Nat.zero_add, Nat.le_add_right, Nat.le_refl, true_and, and_true, va_rf, zok, Nat.add_left_cancel_iff, Nat.add_eq_left, Nat.left_eq_add, eq_self, if_true, if_false, not_false_eq_true, not_true_eq_false, false_implies, true_implies, Nat.reduceEqDiff, Nat.reduceAdd, Nat.reduceLT, Nat.reduceLeDiff, reduceIte, e_ift (c1 := fun x => x = 0) (x := 0) rfl]
      exact b26 _
  · have hn : znum lo hi k = false := by unfold znum; rw [decide_eq_false c1, Bool.false_and]
    rw [hn, if_neg (by simp)] at b26
    simp -implicitDefEqProofs only [B_X6_number_0, B_X6_number_25, e_cut, e_iload, e_aload, e_istore, e_astore, e_iinc, e_const, e_lconst, e_bin, e_bin0, e_un, e_ladd, e_dupi, e_dupr, e_dup2, e_pop, e_sw, e_sw0, e_sw1, e_get, e_put, e_ald, e_ast, e_aald, e_aast, e_copy, e_new, e_newa, e_anewa, e_min, e_abs, e_oinit, e_callI, e_callV, e_callS, e_iret, e_zret, e_lret, e_vret, e_tl1, e_tl0, e_tl2, e_tl3, z10, Bool.false_eq_true, e_argi, e_argr, e_argn, zld_c, zst_n, zst_c, zpick_n, zpick_c, List.drop_succ_cons, List.drop_zero, List.take_succ_cons, List.take_zero, List.length_cons, List.length_nil, List.reverse_cons, List.reverse_nil, List.nil_append, List.cons_append, List.append_nil, List.getElem?_cons_zero, List.getElem?_cons_succ, List.set_cons_zero, List.set_cons_succ, Nat.add_sub_cancel_left, Nat.sub_self, Nat.add_zero, Nat.zero_add, Nat.le_add_right, Nat.le_refl, true_and, and_true, va_rf, zok, Nat.add_left_cancel_iff, Nat.add_eq_left, Nat.left_eq_add, eq_self, if_true, if_false, not_false_eq_true, not_true_eq_false, false_implies, true_implies, Nat.reduceEqDiff, Nat.reduceAdd, Nat.reduceLT, Nat.reduceLeDiff, reduceIte, zM0, e0, N0, e_icmpf (c2 := fun x y => x = y) (fun h => c1 (kz.mp h))]
    exact b26 _
set_option maxRecDepth 20000 in
theorem f_X6_number_75 : Cond.fieldLink RX6 75 (TX6 11).1 (TX6 11).2.1 (TX6 11).2.2.1 ∈ wsX6_number := by decide +kernel
set_option maxRecDepth 20000 in
theorem k_X6_number_6 : ∀ w ∈ u_ws RX6 TX6 21, w ∈ wsX6_number := fun _ h => List.mem_cons_of_mem _ (List.mem_append_right _ h)
set_option maxRecDepth 20000 in
theorem f_X6_number_72 : Cond.fieldLink RX6 72 (TX6 12).1 (TX6 12).2.1 (TX6 12).2.2.1 ∈ wsX6_number := by decide +kernel
set_option maxRecDepth 100000 in
set_option maxHeartbeats 4000000 in
theorem S_X6_number_26 {p : Program} {e : Env} {s : State} {m : MethodId} {args : Array Value} {below : List Frame} {meth : Method} {c : Code} {D : va_G} {cy : zY} {b n0 : Nat} {P : zPo} (la : Launch) (X : zX p la e (rm_X6_number) s m args below meth c 3 D cy b n0 cX6_number wsX6_number RX6) (hr : meth.sig.returnType = (some .int)) (h_X6_due : zMet la yX6_due wsX6_due rm_X6_due 0 0 sp_X6_due) (h_X6_in : zMet la yX6_in wsX6_in rm_X6_in 0 0 sp_X6_in) : zS p la e (rm_X6_number) s m args below meth c (MQ below (zQ D b (n0 + 0) P) args s 0 0 (fun q => b ≤ q)) 3 D b n0 26 (B_X6_number_26 b n0 cy P (zAt p la e (rm_X6_number) s m args below meth c (MQ below (zQ D b (n0 + 0) P) args s 0 0 (fun q => b ≤ q)) 3 D b n0)) := by
  unfold B_X6_number_26
  exact (s_callV X h_X6_due dX6_number_26 rfl gX6_number_X6_due rfl rfl rfl (by decide +kernel) ⟨by decide, by decide⟩ (s_iret X dX6_number_29 hr))
set_option maxRecDepth 100000 in
set_option maxHeartbeats 4000000 in
theorem S_X6_number_25 {p : Program} {e : Env} {s : State} {m : MethodId} {args : Array Value} {below : List Frame} {meth : Method} {c : Code} {D : va_G} {cy : zY} {b n0 : Nat} {P : zPo} (la : Launch) (X : zX p la e (rm_X6_number) s m args below meth c 3 D cy b n0 cX6_number wsX6_number RX6) (hr : meth.sig.returnType = (some .int)) (h_X6_due : zMet la yX6_due wsX6_due rm_X6_due 0 0 sp_X6_due) (h_X6_in : zMet la yX6_in wsX6_in rm_X6_in 0 0 sp_X6_in) : zS p la e (rm_X6_number) s m args below meth c (MQ below (zQ D b (n0 + 0) P) args s 0 0 (fun q => b ≤ q)) 3 D b n0 25 (B_X6_number_25 b n0 cy P (zAt p la e (rm_X6_number) s m args below meth c (MQ below (zQ D b (n0 + 0) P) args s 0 0 (fun q => b ≤ q)) 3 D b n0)) := by
  unfold B_X6_number_25
  exact (s_iconst X dX6_number_25 (by decide) (S_X6_number_26 la X hr h_X6_due h_X6_in))
set_option maxRecDepth 100000 in
set_option maxHeartbeats 4000000 in
theorem S_X6_number_0 {p : Program} {e : Env} {s : State} {m : MethodId} {args : Array Value} {below : List Frame} {meth : Method} {c : Code} {D : va_G} {cy : zY} {b n0 : Nat} {P : zPo} (la : Launch) (X : zX p la e (rm_X6_number) s m args below meth c 3 D cy b n0 cX6_number wsX6_number RX6) (hr : meth.sig.returnType = (some .int)) (h_X6_due : zMet la yX6_due wsX6_due rm_X6_due 0 0 sp_X6_due) (h_X6_in : zMet la yX6_in wsX6_in rm_X6_in 0 0 sp_X6_in) : zS p la e (rm_X6_number) s m args below meth c (MQ below (zQ D b (n0 + 0) P) args s 0 0 (fun q => b ≤ q)) 3 D b n0 0 (B_X6_number_0 b n0 cy P (zAt p la e (rm_X6_number) s m args below meth c (MQ below (zQ D b (n0 + 0) P) args s 0 0 (fun q => b ≤ q)) 3 D b n0)) := by
  unfold B_X6_number_0
  exact (s_aload_n X dX6_number_0 rfl (s_aload_n X dX6_number_1 rfl (s_get X dX6_number_2 rfl k_X6_number_6 (by decide) f_X6_number_75 (s_iconst X dX6_number_5 (by decide) (s_icmp_ne X dX6_number_6 (by decide) (S_X6_number_25 la X hr h_X6_due h_X6_in) (s_aload_n X dX6_number_9 rfl (s_get X dX6_number_10 rfl k_X6_number_6 (by decide) f_X6_number_72 (s_iload_n X dX6_number_13 rfl (s_iload_n X dX6_number_14 rfl (s_callS X h_X6_in dX6_number_15 gX6_number_X6_in rfl rfl rfl (by decide +kernel) ⟨by decide, by decide⟩ (s_if_eq X dX6_number_18 (by decide) (S_X6_number_25 la X hr h_X6_due h_X6_in) (s_iconst X dX6_number_21 (by decide) (s_goto X dX6_number_22 (by decide) (S_X6_number_26 la X hr h_X6_due h_X6_in))))))))))))))
theorem w_X6_number (la : Launch) (h_X6_due : zMet la yX6_due wsX6_due rm_X6_due 0 0 sp_X6_due) (h_X6_in : zMet la yX6_in wsX6_in rm_X6_in 0 0 sp_X6_in) (sp : zSp) (vc : zVC_X6_number sp) : zMet la yX6_number wsX6_number (rm_X6_number) 0 0 sp :=
  z_of (cc := cX6_number) (maxL := 3) (ret := (some .int)) (by decide +kernel) rfl (fun p e s m args below meth c D cy b n as E P hsp X hr hin => by
    obtain ⟨h1, h2⟩ := vc b cy n as E P (zAt p la e (rm_X6_number) s m args below meth c (MQ below (zQ D b (n + 0) P) args s 0 0 (fun q => b ≤ q)) 3 D b n) hsp
    exact ⟨h1, S_X6_number_0 la X hr h_X6_due h_X6_in _ _ _ _ _ h2⟩)

theorem m_X6_number (la : Launch) : zMet la yX6_number wsX6_number rm_X6_number 0 0 sp_X6_number := w_X6_number la (m_X6_due la) (m_X6_in la) _ vc_X6_number
def sp_X6_mayBe : zSp := fun b cy as N E P => ∃ (tr : Int64) (ty q st so va fa se w : Int32) (n : Nat) (t : Bool) (f : Nat → Int32), as = [.ref (b + 159), .int w] ∧ E 159 = zM0 b tr ty (zlt t) q st so va fa se ∧ E 161 = .inl (cy 1, 2, .inl f) ∧ f 1 = nI n ∧ n ≤ 6 ∧ 162 ≤ N ∧ P (some (.int (if (w = 114 ∧ n < 6) ∨ (w = 108 ∧ t = false) then 1 else 0))) E
abbrev rm_X6_mayBe : Room := { frames := 1, cells := 0, slots := 0, locals := 40 }
def B_X6_mayBe_35 (b n0 : Nat) (cy : zY) (P : zPo) (A : Nat → zC) : zC :=
  z_zret 0 0 P
def B_X6_mayBe_34 (b n0 : Nat) (cy : zY) (P : zPo) (A : Nat → zC) : zC :=
  z_const (0) (B_X6_mayBe_35 b n0 cy P A)
def B_X6_mayBe_30 (b n0 : Nat) (cy : zY) (P : zPo) (A : Nat → zC) : zC :=
  z_const (1) (B_X6_mayBe_35 b n0 cy P A)
def B_X6_mayBe_17 (b n0 : Nat) (cy : zY) (P : zPo) (A : Nat → zC) : zC :=
  z_iload 1 (z_const (108) (z_icmp (fun x y => x = y) (z_aload 0 (z_get b n0 6 8 (z_if (fun x => x = 0) (B_X6_mayBe_30 b n0 cy P A) (B_X6_mayBe_34 b n0 cy P A)))) (B_X6_mayBe_34 b n0 cy P A)))
def B_X6_mayBe_0 (b n0 : Nat) (cy : zY) (P : zPo) (A : Nat → zC) : zC :=
  z_iload 1 (z_const (114) (z_icmp (fun x y => x = y) (z_aload 0 (z_get b n0 6 3 (z_const (1) (z_ald b n0 (cy 1) (z_const (6) (z_icmp (fun x y => x < y) (B_X6_mayBe_30 b n0 cy P A) (B_X6_mayBe_17 b n0 cy P A))))))) (B_X6_mayBe_17 b n0 cy P A)))
def zVC_X6_mayBe (sp : zSp) : Prop := ∀ (b : Nat) (cy : zY) (n : Nat) (as : List Value) (E : zE) (P : zPo) (A : Nat → zC), sp b cy as n E P → zgood as 2 ∧ B_X6_mayBe_0 b n cy P A (lv_args 0 as) [] 0 0 E

set_option maxRecDepth 100000 in
set_option maxHeartbeats 4000000 in
theorem vc_X6_mayBe : zVC_X6_mayBe sp_X6_mayBe := by
  intro b cy N as E P A hsp
  obtain ⟨tr, ty, q, st, so, va, fa, se, w, n, t, f, rfl, e0, e1, hf, hn, hN, hP⟩ := hsp
  refine ⟨⟨Nat.le_of_ble_eq_true rfl, zg1 rfl (zg1 rfl (zg0))⟩, ?_⟩
  have N0 : 159 < N := by omega
  have N1 : 161 < N := by omega
  have in1 : vp_in 1 2 := (vp_in_nI (show 1 < 2 by omega) (by omega) : vp_in (nI 1) 2)
  have cl1 : (1 : Int32).toNatClampNeg = 1 := by decide
  have k6 : (nI n < 6) = (n < 6) := propext (nI_ltI (b := 6) (by omega) (by omega))
  have kt : (zlt t = 0) = (t = false) := by cases t <;> decide
  have yes : ((w = 114 ∧ n < 6) ∨ (w = 108 ∧ t = false)) → ∀ l, B_X6_mayBe_30 b N cy P A l [] 0 0 E := fun h l => by
    rw [if_pos h] at hP
    simp -implicitDefEqProofs only [B_X6_mayBe_30, B_X6_mayBe_35, e_cut, e_iload, e_aload, e_istore, e_astore, e_iinc, e_const, e_lconst, e_bin, e_bin0, e_un, e_ladd, e_dupi, e_dupr, e_dup2, e_pop, e_sw, e_sw0, e_sw1, e_get, e_put, e_ald, e_ast, e_aald, e_aast, e_copy, e_new, e_newa, e_anewa, e_min, e_abs, e_oinit, e_callI, e_callV, e_callS, e_iret, e_zret, e_lret, e_vret, e_tl1, e_tl0, e_tl2, e_tl3, z10, Bool.false_eq_true, e_argi, e_argr, e_argn, zld_c, zst_n, zst_c, zpick_n, zpick_c, List.drop_succ_cons, List.drop_zero, List.take_succ_cons, List.take_zero, List.length_cons, List.length_nil, List.reverse_cons, List.reverse_nil, List.nil_append, List.cons_append, List.append_nil, List.getElem?_cons_zero, List.getElem?_cons_succ, List.set_cons_zero, List.set_cons_succ, Nat.add_sub_cancel_left, Nat.sub_self, Nat.add_zero, Nat.zero_add, Nat.le_add_right, Nat.le_refl, true_and, and_true, va_rf, zok, Nat.add_left_cancel_iff, Nat.add_eq_left, Nat.left_eq_add, eq_self, if_true, if_false, not_false_eq_true, not_true_eq_false, false_implies, true_implies, Nat.reduceEqDiff, Nat.reduceAdd, Nat.reduceLT, Nat.reduceLeDiff, reduceIte]
    exact ⟨Or.inr trivial, hP⟩
  have no : ¬ ((w = 114 ∧ n < 6) ∨ (w = 108 ∧ t = false)) → ∀ l, B_X6_mayBe_34 b N cy P A l [] 0 0 E := fun h l => by
    rw [if_neg h] at hP
    simp -implicitDefEqProofs only [B_X6_mayBe_34, B_X6_mayBe_35, e_cut, e_iload, e_aload, e_istore, e_astore, e_iinc, e_const, e_lconst, e_bin, e_bin0, e_un, e_ladd, e_dupi, e_dupr, e_dup2, e_pop, e_sw, e_sw0, e_sw1, e_get, e_put, e_ald, e_ast, e_aald, e_aast, e_copy, e_new, e_newa, e_anewa, e_min, e_abs, e_oinit, e_callI, e_callV, e_callS, e_iret, e_zret, e_lret, e_vret, e_tl1, e_tl0, e_tl2, e_tl3, z10, Bool.false_eq_true, e_argi, e_argr, e_argn, zld_c, zst_n, zst_c, zpick_n, zpick_c, List.drop_succ_cons, List.drop_zero, List.take_succ_cons, List.take_zero, List.length_cons, List.length_nil, List.reverse_cons, List.reverse_nil, List.nil_append, List.cons_append, List.append_nil, List.getElem?_cons_zero, List.getElem?_cons_succ, List.set_cons_zero, List.set_cons_succ, Nat.add_sub_cancel_left, Nat.sub_self, Nat.add_zero, Nat.zero_add, Nat.le_add_right, Nat.le_refl, true_and, and_true, va_rf, zok, Nat.add_left_cancel_iff, Nat.add_eq_left, Nat.left_eq_add, eq_self, if_true, if_false, not_false_eq_true, not_true_eq_false, false_implies, true_implies, Nat.reduceEqDiff, Nat.reduceAdd, Nat.reduceLT, Nat.reduceLeDiff, reduceIte]
    exact ⟨Or.inl trivial, hP⟩
  have b17 : ¬ (w = 114 ∧ n < 6) → B_X6_mayBe_17 b N cy P A [(0, .ref (b + 159)), (1, .int w)] [] 0 0 E := fun h => by
    simp -implicitDefEqProofs only [B_X6_mayBe_17, e_cut, e_iload, e_aload, e_istore, e_astore, e_iinc, e_const, e_lconst, e_bin, e_bin0, e_un, e_ladd, e_dupi, e_dupr, e_dup2, e_pop, e_sw, e_sw0, e_sw1, e_get, e_put, e_ald, e_ast, e_aald, e_aast, e_copy, e_new, e_newa, e_anewa, e_min, e_abs, e_oinit, e_callI, e_callV, e_callS, e_iret, e_zret, e_lret, e_vret, e_tl1, e_tl0, e_tl2, e_tl3, z10, Bool.false_eq_true, e_argi, e_argr, e_argn, zld_c, zst_n, zst_c, zpick_n, zpick_c, List.drop_succ_cons, List.drop_zero, List.take_succ_cons, List.take_zero, List.length_cons, List.length_nil, List.reverse_cons, List.reverse_nil, List.nil_append, List.cons_append, List.append_nil, List.getElem?_cons_zero, List.getElem?_cons_succ, List.set_cons_zero, List.set_cons_succ, Nat.add_sub_cancel_left, Nat.sub_self, Nat.add_zero, Nat.zero_add, Nat.le_add_right, Nat.le_refl, true_and, and_true, va_rf, zok, Nat.add_left_cancel_iff, Nat.add_eq_left, Nat.left_eq_add, eq_self, if_true, if_false, not_false_eq_true, not_true_eq_false, false_implies, true_implies, Nat.reduceEqDiff, Nat.reduceAdd, Nat.reduceLT, Nat.reduceLeDiff, reduceIte, e_icmp, e_if, zM0, e0, N0, kt]
    exact ⟨fun c1 => ⟨fun c2 => yes (Or.inr ⟨c1, c2⟩) _, fun c2 => no (fun h2 => h2.elim h (fun h3 => c2 h3.2)) _⟩, fun c1 => no (fun h2 => h2.elim h (fun h3 => c1 h3.1)) _⟩
  simp -implicitDefEqProofs only [B_X6_mayBe_0, e_cut, e_iload, e_aload, e_istore, e_astore, e_iinc, e_const, e_lconst, e_bin, e_bin0, e_un, e_ladd, e_dupi, e_dupr, e_dup2, e_pop, e_sw, e_sw0, e_sw1, e_get, e_put, e_ald, e_ast, e_aald, e_aast, e_copy, e_new, e_newa, e_anewa, e_min, e_abs, e_oinit, e_callI, e_callV, e_callS, e_iret, e_zret, e_lret, e_vret, e_tl1, e_tl0, e_tl2, e_tl3, z10, Bool.false_eq_true, e_argi, e_argr, e_argn, zld_c, zst_n, zst_c, zpick_n, zpick_c, List.drop_succ_cons, List.drop_zero, List.take_succ_cons, List.take_zero, List.length_cons, List.length_nil, List.reverse_cons, List.reverse_nil, List.nil_append, List.cons_append, List.append_nil, List.getElem?_cons_zero, List.getElem?_cons_succ, List.set_cons_zero, List.set_cons_succ, Nat.add_sub_cancel_left, Nat.sub_self, Nat.add_zero, Nat.zero_add, Nat.le_add_right, Nat.le_refl, true_and, and_true, va_rf, zok, Nat.add_left_cancel_iff, Nat.add_eq_left, Nat.left_eq_add, eq_self, if_true, if_false, not_false_eq_true, not_true_eq_false, false_implies, true_implies, Nat.reduceEqDiff, Nat.reduceAdd, Nat.reduceLT, Nat.reduceLeDiff, reduceIte, e_icmp, zM0, e0, e1, hf, N0, N1, in1, cl1, k6]
  exact ⟨fun c1 => ⟨fun c2 => yes (Or.inl ⟨c1, c2⟩) _, fun c2 => b17 (fun h => c2 h.2)⟩, fun c1 => b17 (fun h => c1 h.1)⟩
set_option maxRecDepth 20000 in
theorem f_X6_mayBe_88 : Cond.fieldLink RX6 88 (TX6 8).1 (TX6 8).2.1 (TX6 8).2.2.1 ∈ wsX6_mayBe := by decide +kernel
set_option maxRecDepth 20000 in
theorem k_X6_mayBe_6 : ∀ w ∈ u_ws RX6 TX6 21, w ∈ wsX6_mayBe := fun _ h => List.mem_cons_of_mem _ (List.mem_append_right _ h)
set_option maxRecDepth 20000 in
theorem f_X6_mayBe_13 : Cond.fieldLink RX6 13 (TX6 3).1 (TX6 3).2.1 (TX6 3).2.2.1 ∈ wsX6_mayBe := by decide +kernel
set_option maxRecDepth 100000 in
set_option maxHeartbeats 4000000 in
theorem S_X6_mayBe_35 {p : Program} {e : Env} {s : State} {m : MethodId} {args : Array Value} {below : List Frame} {meth : Method} {c : Code} {D : va_G} {cy : zY} {b n0 : Nat} {P : zPo} (la : Launch) (X : zX p la e (rm_X6_mayBe) s m args below meth c 2 D cy b n0 cX6_mayBe wsX6_mayBe RX6) (hr : meth.sig.returnType = (some .boolean)) : zS p la e (rm_X6_mayBe) s m args below meth c (MQ below (zQ D b (n0 + 0) P) args s 0 0 (fun q => b ≤ q)) 2 D b n0 35 (B_X6_mayBe_35 b n0 cy P (zAt p la e (rm_X6_mayBe) s m args below meth c (MQ below (zQ D b (n0 + 0) P) args s 0 0 (fun q => b ≤ q)) 2 D b n0)) := by
  unfold B_X6_mayBe_35
  exact (s_zret X dX6_mayBe_35 hr)
set_option maxRecDepth 100000 in
set_option maxHeartbeats 4000000 in
theorem S_X6_mayBe_34 {p : Program} {e : Env} {s : State} {m : MethodId} {args : Array Value} {below : List Frame} {meth : Method} {c : Code} {D : va_G} {cy : zY} {b n0 : Nat} {P : zPo} (la : Launch) (X : zX p la e (rm_X6_mayBe) s m args below meth c 2 D cy b n0 cX6_mayBe wsX6_mayBe RX6) (hr : meth.sig.returnType = (some .boolean)) : zS p la e (rm_X6_mayBe) s m args below meth c (MQ below (zQ D b (n0 + 0) P) args s 0 0 (fun q => b ≤ q)) 2 D b n0 34 (B_X6_mayBe_34 b n0 cy P (zAt p la e (rm_X6_mayBe) s m args below meth c (MQ below (zQ D b (n0 + 0) P) args s 0 0 (fun q => b ≤ q)) 2 D b n0)) := by
  unfold B_X6_mayBe_34
  exact (s_iconst X dX6_mayBe_34 (by decide) (S_X6_mayBe_35 la X hr))
set_option maxRecDepth 100000 in
set_option maxHeartbeats 4000000 in
theorem S_X6_mayBe_30 {p : Program} {e : Env} {s : State} {m : MethodId} {args : Array Value} {below : List Frame} {meth : Method} {c : Code} {D : va_G} {cy : zY} {b n0 : Nat} {P : zPo} (la : Launch) (X : zX p la e (rm_X6_mayBe) s m args below meth c 2 D cy b n0 cX6_mayBe wsX6_mayBe RX6) (hr : meth.sig.returnType = (some .boolean)) : zS p la e (rm_X6_mayBe) s m args below meth c (MQ below (zQ D b (n0 + 0) P) args s 0 0 (fun q => b ≤ q)) 2 D b n0 30 (B_X6_mayBe_30 b n0 cy P (zAt p la e (rm_X6_mayBe) s m args below meth c (MQ below (zQ D b (n0 + 0) P) args s 0 0 (fun q => b ≤ q)) 2 D b n0)) := by
  unfold B_X6_mayBe_30
  exact (s_iconst X dX6_mayBe_30 (by decide) (s_goto X dX6_mayBe_31 (by decide) (S_X6_mayBe_35 la X hr)))
set_option maxRecDepth 100000 in
set_option maxHeartbeats 4000000 in
theorem S_X6_mayBe_17 {p : Program} {e : Env} {s : State} {m : MethodId} {args : Array Value} {below : List Frame} {meth : Method} {c : Code} {D : va_G} {cy : zY} {b n0 : Nat} {P : zPo} (la : Launch) (X : zX p la e (rm_X6_mayBe) s m args below meth c 2 D cy b n0 cX6_mayBe wsX6_mayBe RX6) (hr : meth.sig.returnType = (some .boolean)) : zS p la e (rm_X6_mayBe) s m args below meth c (MQ below (zQ D b (n0 + 0) P) args s 0 0 (fun q => b ≤ q)) 2 D b n0 17 (B_X6_mayBe_17 b n0 cy P (zAt p la e (rm_X6_mayBe) s m args below meth c (MQ below (zQ D b (n0 + 0) P) args s 0 0 (fun q => b ≤ q)) 2 D b n0)) := by
  unfold B_X6_mayBe_17
  exact (s_iload_n X dX6_mayBe_17 rfl (s_bipush X dX6_mayBe_18 (by decide) (s_icmp_ne X dX6_mayBe_20 (by decide) (S_X6_mayBe_34 la X hr) (s_aload_n X dX6_mayBe_23 rfl (s_get X dX6_mayBe_24 rfl k_X6_mayBe_6 (by decide) f_X6_mayBe_88 (s_if_ne X dX6_mayBe_27 (by decide) (S_X6_mayBe_34 la X hr) (S_X6_mayBe_30 la X hr)))))))
set_option maxRecDepth 100000 in
set_option maxHeartbeats 4000000 in
theorem S_X6_mayBe_0 {p : Program} {e : Env} {s : State} {m : MethodId} {args : Array Value} {below : List Frame} {meth : Method} {c : Code} {D : va_G} {cy : zY} {b n0 : Nat} {P : zPo} (la : Launch) (X : zX p la e (rm_X6_mayBe) s m args below meth c 2 D cy b n0 cX6_mayBe wsX6_mayBe RX6) (hr : meth.sig.returnType = (some .boolean)) : zS p la e (rm_X6_mayBe) s m args below meth c (MQ below (zQ D b (n0 + 0) P) args s 0 0 (fun q => b ≤ q)) 2 D b n0 0 (B_X6_mayBe_0 b n0 cy P (zAt p la e (rm_X6_mayBe) s m args below meth c (MQ below (zQ D b (n0 + 0) P) args s 0 0 (fun q => b ≤ q)) 2 D b n0)) := by
  unfold B_X6_mayBe_0
  exact (s_iload_n X dX6_mayBe_0 rfl (s_bipush X dX6_mayBe_1 (by decide) (s_icmp_ne X dX6_mayBe_3 (by decide) (S_X6_mayBe_17 la X hr) (s_aload_n X dX6_mayBe_6 rfl (s_get X dX6_mayBe_7 rfl k_X6_mayBe_6 (by decide) f_X6_mayBe_13 (s_iconst X dX6_mayBe_10 (by decide) (s_iald X dX6_mayBe_11 (s_bipush X dX6_mayBe_12 (by decide) (s_icmp_lt X dX6_mayBe_14 (by decide) (S_X6_mayBe_30 la X hr) (S_X6_mayBe_17 la X hr))))))))))
theorem w_X6_mayBe (la : Launch) (sp : zSp) (vc : zVC_X6_mayBe sp) : zMet la yX6_mayBe wsX6_mayBe (rm_X6_mayBe) 0 0 sp :=
  z_of (cc := cX6_mayBe) (maxL := 2) (ret := (some .boolean)) (by decide +kernel) rfl (fun p e s m args below meth c D cy b n as E P hsp X hr hin => by
    obtain ⟨h1, h2⟩ := vc b cy n as E P (zAt p la e (rm_X6_mayBe) s m args below meth c (MQ below (zQ D b (n + 0) P) args s 0 0 (fun q => b ≤ q)) 2 D b n) hsp
    exact ⟨h1, S_X6_mayBe_0 la X hr _ _ _ _ _ h2⟩)

theorem m_X6_mayBe (la : Launch) : zMet la yX6_mayBe wsX6_mayBe rm_X6_mayBe 0 0 sp_X6_mayBe := w_X6_mayBe la _ vc_X6_mayBe

