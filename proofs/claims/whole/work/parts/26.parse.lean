theorem u_ne {f : zE} {j q : Nat} {w : va_E} (h : ¬ q = j) : va_up f j w q = f q := by rw [e_up, if_neg h]
theorem u_eq {f : zE} {j : Nat} {w : va_E} : va_up f j w j = w := by rw [e_up, if_pos rfl]
def sp_X3_readRider : zSp := fun b cy as N E P => ∃ (len n : Nat) (tx : Nat → Nat) (k : zTk) (s6 : Int32) (seat lo la : Nat → Nat) (line : Nat) (items : Int32), as = [.ref (b + 1), .ref (b + 7), .int (nI n)] ∧ E 1 = zTk1 b len k s6 ∧ zTb cy E len tx ∧ k.1 ≤ len ∧ zTo b cy E 7 n lo la seat line items ∧ n < 6 ∧ 11 ≤ N ∧ (match zrid len tx k with
  | .inl s => ∀ E' (k' : zTk), k'.2.2.1 = s → E' 1 = zTk1 b len k' s6 → zToS b cy E' 7 → (∀ j, j ≠ 1 → (j < 7 ∨ 10 < j) → E' j = E j) → P (some (.int 0)) E'
  | .inr (k3, a1, a2, a3) => ∀ E', E' 1 = zTk1 b len k3 s6 → k3.1 ≤ len → zTo b cy E' 7 (n + 1) (zup lo n a2) (zup la n a3) (zup seat n a1) line items → (∀ j, j ≠ 1 → (j < 7 ∨ 10 < j) → E' j = E j) → P (some (.int 1)) E')
abbrev rm_X3_readRider : Room := { frames := 4, cells := 0, slots := 0, locals := 106 }
def B_X3_readRider_0 (b n0 : Nat) (cy : zY) (P : zPo) (A : Nat → zC) : zC :=
  z_aload 0 (z_const (0) (z_const (9) (z_callV b n0 0 0 cy 3 2 0 0 sp_X3_comesNumber (z_if (fun x => x = 0) (z_const (0) (z_zret 0 0 P)) (z_aload 1 (z_get b n0 4 3 (z_iload 2 (z_aload 0 (z_get b n0 3 5 (z_ast b n0 (cy 1) (fun x => x) (z_aload 0 (z_const (0) (z_const (9) (z_callV b n0 0 0 cy 3 2 0 0 sp_X3_comesNumber (z_if (fun x => x = 0) (z_const (0) (z_zret 0 0 P)) (z_aload 1 (z_get b n0 4 4 (z_iload 2 (z_aload 0 (z_get b n0 3 5 (z_ast b n0 (cy 1) (fun x => x) (z_aload 0 (z_const (0) (z_const (2) (z_callV b n0 0 0 cy 3 2 0 0 sp_X3_comesNumber (z_if (fun x => x = 0) (z_const (0) (z_zret 0 0 P)) (z_aload 1 (z_get b n0 4 5 (z_iload 2 (z_aload 0 (z_get b n0 3 5 (z_ast b n0 (cy 1) (fun x => x) (z_aload 1 (z_dup (z_get b n0 4 0 (z_const (1) (z_bin (fun x y => x + y) (z_put b n0 4 0 0 (z_const (1) (z_zret 0 0 P))))))))))))))))))))))))))))))))))))))))
def zVC_X3_readRider (sp : zSp) : Prop := ∀ (b : Nat) (cy : zY) (n : Nat) (as : List Value) (E : zE) (P : zPo) (A : Nat → zC), sp b cy as n E P → zgood as 3 ∧ B_X3_readRider_0 b n cy P A (lv_args 0 as) [] 0 0 E

set_option maxRecDepth 100000 in
set_option maxHeartbeats 4000000 in
theorem vc_X3_readRider : zVC_X3_readRider sp_X3_readRider := by
  intro b cy N as E P A hsp
  obtain ⟨len, n, tx, k, s6, seat, lo, la, line, items, rfl, h1, hTb, hk, ⟨_, f, g, h, d0, d1, d2, d3, hf, hg, hh⟩, hn, hN, hP⟩ := hsp
  refine ⟨⟨Nat.le_of_ble_eq_true rfl, zg1 rfl (zg1 rfl (zg1 rfl (zg0)))⟩, ?_⟩
  replace d1 : E 8 = _ := d1
  replace d2 : E 9 = _ := d2
  replace d3 : E 10 = _ := d3
  have ht := fun j hj => (hTb.2.choose_spec.2 j hj).1
  have N1 : 1 < N := by omega
  have N7 : 7 < N := by omega
  have N8 : 8 < N := by omega
  have N9 : 9 < N := by omega
  have N10 : 10 < N := by omega
  have hin : vp_in (nI n) 6 := vp_in_nI (by omega) (by omega)
  have hcl : (nI n).toNatClampNeg = n := nI_clamp (by omega)
  have h1' := h1
  have e18 : ((1 : Nat) = 8) = False := by simp
  have e19 : ((1 : Nat) = 9) = False := by simp
  have e110 : ((1 : Nat) = 10) = False := by simp
  have e1_7 : ((1 : Nat) = 7) = False := by simp
  simp only [zTk1, zTc] at h1
  simp only [B_X3_readRider_0, e_cut, e_iload, e_aload, e_istore, e_astore, e_iinc, e_const, e_lconst, e_bin, e_bin0, e_un, e_ladd, e_dupi, e_dupr, e_dup2, e_pop, e_if, e_icmp, e_sw, e_sw0, e_sw1, e_get, e_put, e_ald, e_ast, e_aald, e_aast, e_copy, e_new, e_newa, e_anewa, e_min, e_abs, e_oinit, e_callI, e_callV, e_callS, e_iret, e_zret, e_lret, e_vret, e_tl1, e_tl0, e_tl2, e_tl3, z10, Bool.false_eq_true, e_argi, e_argr, e_argn, zld_c, zst_n, zst_c, zpick_n, zpick_c, List.drop_succ_cons, List.drop_zero, List.take_succ_cons, List.take_zero, List.length_cons, List.length_nil, List.reverse_cons, List.reverse_nil, List.nil_append, List.cons_append, List.append_nil, List.getElem?_cons_zero, List.getElem?_cons_succ, List.set_cons_zero, List.set_cons_succ, Nat.add_sub_cancel_left, Nat.sub_self, Nat.add_zero, Nat.zero_add, Nat.le_add_right, Nat.le_refl, true_and, and_true, va_rf, zok, Nat.add_left_cancel_iff, Nat.add_eq_left, Nat.left_eq_add, eq_self, if_true, if_false, not_false_eq_true, not_true_eq_false, false_implies, true_implies, Nat.reduceEqDiff, Nat.reduceAdd, Nat.reduceLT, Nat.reduceLeDiff, reduceIte, h1, N1]
  refine ⟨len, 0, 9, tx, k, s6, rfl, h1', hTb, hk, by omega, by omega, by omega, fun E1 g1 gk1 => ?_⟩
  obtain ⟨_, w1, _⟩ := ztk_b hk ht
  simp only [zrid] at hP
  generalize ztk len tx k.1 = k1 at *
  have p7 : E1 7 = _ := (gk1 7 (by omega)).trans d0
  have p8 : E1 8 = _ := (gk1 8 (by omega)).trans d1
  by_cases q1 : znum 0 9 k1 = true
  · simp only [q1, if_true] at hP
    have g1' := g1
    simp only [zTk1, zTc] at g1
    simp only [e_cut, e_iload, e_aload, e_istore, e_astore, e_iinc, e_const, e_lconst, e_bin, e_bin0, e_un, e_ladd, e_dupi, e_dupr, e_dup2, e_pop, e_if, e_icmp, e_sw, e_sw0, e_sw1, e_get, e_put, e_ald, e_ast, e_aald, e_aast, e_copy, e_new, e_newa, e_anewa, e_min, e_abs, e_oinit, e_callI, e_callV, e_callS, e_iret, e_zret, e_lret, e_vret, e_tl1, e_tl0, e_tl2, e_tl3, z10, Bool.false_eq_true, e_argi, e_argr, e_argn, zld_c, zst_n, zst_c, zpick_n, zpick_c, List.drop_succ_cons, List.drop_zero, List.take_succ_cons, List.take_zero, List.length_cons, List.length_nil, List.reverse_cons, List.reverse_nil, List.nil_append, List.cons_append, List.append_nil, List.getElem?_cons_zero, List.getElem?_cons_succ, List.set_cons_zero, List.set_cons_succ, Nat.add_sub_cancel_left, Nat.sub_self, Nat.add_zero, Nat.zero_add, Nat.le_add_right, Nat.le_refl, true_and, and_true, va_rf, zok, Nat.add_left_cancel_iff, Nat.add_eq_left, Nat.left_eq_add, eq_self, if_true, if_false, not_false_eq_true, not_true_eq_false, false_implies, true_implies, Nat.reduceEqDiff, Nat.reduceAdd, Nat.reduceLT, Nat.reduceLeDiff, reduceIte, q1, g1, p7, p8, N1, N7, N8, hin, hcl, e_up, e18]
    refine ⟨len, 0, 9, tx, k1, s6, rfl, by simp only [e_up, e18, if_false]; exact g1', hTb.congr (by simp only [e_up]; rw [if_neg (by omega)]; exact gk1 2 (by omega)), w1, by omega, by omega, by omega, fun E2 g2 gk2 => ?_⟩
    obtain ⟨_, w2, _⟩ := ztk_b w1 ht
    generalize ztk len tx k1.1 = k2 at *
    have r7 : E2 7 = _ := (gk2 7 (by omega)).trans ((u_ne (by omega)).trans (p7))
    have r8 : E2 8 = _ := (gk2 8 (by omega)).trans u_eq
    have r9 : E2 9 = _ := (gk2 9 (by omega)).trans ((u_ne (by omega)).trans ((gk1 9 (by omega)).trans d2))
    have r10 : E2 10 = _ := (gk2 10 (by omega)).trans ((u_ne (by omega)).trans ((gk1 10 (by omega)).trans d3))
    have rk : ∀ j, j ≠ 1 → (j < 7 ∨ 10 < j) → E2 j = E j := fun j a c => (gk2 j a).trans (by simp only [e_up]; rw [if_neg (by omega)]; exact gk1 j a)
    by_cases q2 : znum 0 9 k2 = true
    · simp only [q2, if_true] at hP
      have g2' := g2
      simp only [zTk1, zTc] at g2
      simp only [e_cut, e_iload, e_aload, e_istore, e_astore, e_iinc, e_const, e_lconst, e_bin, e_bin0, e_un, e_ladd, e_dupi, e_dupr, e_dup2, e_pop, e_if, e_icmp, e_sw, e_sw0, e_sw1, e_get, e_put, e_ald, e_ast, e_aald, e_aast, e_copy, e_new, e_newa, e_anewa, e_min, e_abs, e_oinit, e_callI, e_callV, e_callS, e_iret, e_zret, e_lret, e_vret, e_tl1, e_tl0, e_tl2, e_tl3, z10, Bool.false_eq_true, e_argi, e_argr, e_argn, zld_c, zst_n, zst_c, zpick_n, zpick_c, List.drop_succ_cons, List.drop_zero, List.take_succ_cons, List.take_zero, List.length_cons, List.length_nil, List.reverse_cons, List.reverse_nil, List.nil_append, List.cons_append, List.append_nil, List.getElem?_cons_zero, List.getElem?_cons_succ, List.set_cons_zero, List.set_cons_succ, Nat.add_sub_cancel_left, Nat.sub_self, Nat.add_zero, Nat.zero_add, Nat.le_add_right, Nat.le_refl, true_and, and_true, va_rf, zok, Nat.add_left_cancel_iff, Nat.add_eq_left, Nat.left_eq_add, eq_self, if_true, if_false, not_false_eq_true, not_true_eq_false, false_implies, true_implies, Nat.reduceEqDiff, Nat.reduceAdd, Nat.reduceLT, Nat.reduceLeDiff, reduceIte, q2, g2, r7, r9, N1, N7, N9, hin, hcl, e_up, e19]
      refine ⟨len, 0, 2, tx, k2, s6, rfl, by simp only [e_up, e19, if_false]; exact g2', hTb.congr (by simp only [e_up]; rw [if_neg (by omega)]; exact rk 2 (by omega) (by omega)), w2, by omega, by omega, by omega, fun E3 g3 gk3 => ?_⟩
      obtain ⟨_, w3, _⟩ := ztk_b w2 ht
      generalize ztk len tx k2.1 = k3 at *
      have t7 : E3 7 = _ := (gk3 7 (by omega)).trans ((u_ne (by omega)).trans (r7))
      have t8 : E3 8 = _ := (gk3 8 (by omega)).trans ((u_ne (by omega)).trans (r8))
      have t9 : E3 9 = _ := (gk3 9 (by omega)).trans u_eq
      have t10 : E3 10 = _ := (gk3 10 (by omega)).trans ((u_ne (by omega)).trans (r10))
      have tk : ∀ j, j ≠ 1 → (j < 7 ∨ 10 < j) → E3 j = E j := fun j a c => (gk3 j a).trans (by simp only [e_up]; rw [if_neg (by omega)]; exact rk j a c)
      by_cases q3 : znum 0 2 k3 = true
      · simp only [q3, if_true] at hP
        have g3' := g3
        simp only [zTk1, zTc] at g3
        have e710 : ((7 : Nat) = 10) = False := by simp
        simp only [e_cut, e_iload, e_aload, e_istore, e_astore, e_iinc, e_const, e_lconst, e_bin, e_bin0, e_un, e_ladd, e_dupi, e_dupr, e_dup2, e_pop, e_if, e_icmp, e_sw, e_sw0, e_sw1, e_get, e_put, e_ald, e_ast, e_aald, e_aast, e_copy, e_new, e_newa, e_anewa, e_min, e_abs, e_oinit, e_callI, e_callV, e_callS, e_iret, e_zret, e_lret, e_vret, e_tl1, e_tl0, e_tl2, e_tl3, z10, Bool.false_eq_true, e_argi, e_argr, e_argn, zld_c, zst_n, zst_c, zpick_n, zpick_c, List.drop_succ_cons, List.drop_zero, List.take_succ_cons, List.take_zero, List.length_cons, List.length_nil, List.reverse_cons, List.reverse_nil, List.nil_append, List.cons_append, List.append_nil, List.getElem?_cons_zero, List.getElem?_cons_succ, List.set_cons_zero, List.set_cons_succ, Nat.add_sub_cancel_left, Nat.sub_self, Nat.add_zero, Nat.zero_add, Nat.le_add_right, Nat.le_refl, true_and, and_true, va_rf, zok, Nat.add_left_cancel_iff, Nat.add_eq_left, Nat.left_eq_add, eq_self, if_true, if_false, not_false_eq_true, not_true_eq_false, false_implies, true_implies, Nat.reduceEqDiff, Nat.reduceAdd, Nat.reduceLT, Nat.reduceLeDiff, reduceIte, q3, g3, t7, t10, N1, N7, N10, hin, hcl, e_up, e110, e710, nI_1]
        refine ⟨Or.inr trivial, hP _ (by simp only [e_up, e110, e1_7, if_false]; exact g3') w3 ⟨by omega, _, _, _, by simp only [e_up, if_true], by simp only [e_up]; rw [if_neg (by omega), if_neg (by omega)]; exact t8, by simp only [e_up]; rw [if_neg (by omega), if_neg (by omega)]; exact t9, by simp only [e_up]; rw [if_neg (by omega), if_pos trivial], ?_, ?_, ?_⟩ (fun j a c => by simp only [e_up]; rw [if_neg (by omega), if_neg (by omega)]; exact tk j a c)⟩
        · intro j hj; simp only [upd, zup]
          by_cases e : j = n
          · rw [if_pos e, if_pos e]
          · rw [if_neg e, if_neg e]; exact hf j (by omega)
        · intro j hj; simp only [upd, zup]
          by_cases e : j = n
          · rw [if_pos e, if_pos e]
          · rw [if_neg e, if_neg e]; exact hg j (by omega)
        · intro j hj; simp only [upd, zup]
          by_cases e : j = n
          · rw [if_pos e, if_pos e]
          · rw [if_neg e, if_neg e]; exact hh j (by omega)
      · simp only [q3] at hP
        simp only [e_cut, e_iload, e_aload, e_istore, e_astore, e_iinc, e_const, e_lconst, e_bin, e_bin0, e_un, e_ladd, e_dupi, e_dupr, e_dup2, e_pop, e_if, e_icmp, e_sw, e_sw0, e_sw1, e_get, e_put, e_ald, e_ast, e_aald, e_aast, e_copy, e_new, e_newa, e_anewa, e_min, e_abs, e_oinit, e_callI, e_callV, e_callS, e_iret, e_zret, e_lret, e_vret, e_tl1, e_tl0, e_tl2, e_tl3, z10, Bool.false_eq_true, e_argi, e_argr, e_argn, zld_c, zst_n, zst_c, zpick_n, zpick_c, List.drop_succ_cons, List.drop_zero, List.take_succ_cons, List.take_zero, List.length_cons, List.length_nil, List.reverse_cons, List.reverse_nil, List.nil_append, List.cons_append, List.append_nil, List.getElem?_cons_zero, List.getElem?_cons_succ, List.set_cons_zero, List.set_cons_succ, Nat.add_sub_cancel_left, Nat.sub_self, Nat.add_zero, Nat.zero_add, Nat.le_add_right, Nat.le_refl, true_and, and_true, va_rf, zok, Nat.add_left_cancel_iff, Nat.add_eq_left, Nat.left_eq_add, eq_self, if_true, if_false, not_false_eq_true, not_true_eq_false, false_implies, true_implies, Nat.reduceEqDiff, Nat.reduceAdd, Nat.reduceLT, Nat.reduceLeDiff, reduceIte, q3]
        exact ⟨Or.inl trivial, hP E3 k3 rfl g3 ⟨_, _, _, _, _, _, t7, t8, t9, t10⟩ tk⟩
    · simp only [q2] at hP
      simp only [e_cut, e_iload, e_aload, e_istore, e_astore, e_iinc, e_const, e_lconst, e_bin, e_bin0, e_un, e_ladd, e_dupi, e_dupr, e_dup2, e_pop, e_if, e_icmp, e_sw, e_sw0, e_sw1, e_get, e_put, e_ald, e_ast, e_aald, e_aast, e_copy, e_new, e_newa, e_anewa, e_min, e_abs, e_oinit, e_callI, e_callV, e_callS, e_iret, e_zret, e_lret, e_vret, e_tl1, e_tl0, e_tl2, e_tl3, z10, Bool.false_eq_true, e_argi, e_argr, e_argn, zld_c, zst_n, zst_c, zpick_n, zpick_c, List.drop_succ_cons, List.drop_zero, List.take_succ_cons, List.take_zero, List.length_cons, List.length_nil, List.reverse_cons, List.reverse_nil, List.nil_append, List.cons_append, List.append_nil, List.getElem?_cons_zero, List.getElem?_cons_succ, List.set_cons_zero, List.set_cons_succ, Nat.add_sub_cancel_left, Nat.sub_self, Nat.add_zero, Nat.zero_add, Nat.le_add_right, Nat.le_refl, true_and, and_true, va_rf, zok, Nat.add_left_cancel_iff, Nat.add_eq_left, Nat.left_eq_add, eq_self, if_true, if_false, not_false_eq_true, not_true_eq_false, false_implies, true_implies, Nat.reduceEqDiff, Nat.reduceAdd, Nat.reduceLT, Nat.reduceLeDiff, reduceIte, q2]
      exact ⟨Or.inl trivial, hP E2 k2 rfl g2 ⟨_, _, _, _, _, _, r7, r8, r9, r10⟩ rk⟩
  · simp only [q1] at hP
    simp only [e_cut, e_iload, e_aload, e_istore, e_astore, e_iinc, e_const, e_lconst, e_bin, e_bin0, e_un, e_ladd, e_dupi, e_dupr, e_dup2, e_pop, e_if, e_icmp, e_sw, e_sw0, e_sw1, e_get, e_put, e_ald, e_ast, e_aald, e_aast, e_copy, e_new, e_newa, e_anewa, e_min, e_abs, e_oinit, e_callI, e_callV, e_callS, e_iret, e_zret, e_lret, e_vret, e_tl1, e_tl0, e_tl2, e_tl3, z10, Bool.false_eq_true, e_argi, e_argr, e_argn, zld_c, zst_n, zst_c, zpick_n, zpick_c, List.drop_succ_cons, List.drop_zero, List.take_succ_cons, List.take_zero, List.length_cons, List.length_nil, List.reverse_cons, List.reverse_nil, List.nil_append, List.cons_append, List.append_nil, List.getElem?_cons_zero, List.getElem?_cons_succ, List.set_cons_zero, List.set_cons_succ, Nat.add_sub_cancel_left, Nat.sub_self, Nat.add_zero, Nat.zero_add, Nat.le_add_right, Nat.le_refl, true_and, and_true, va_rf, zok, Nat.add_left_cancel_iff, Nat.add_eq_left, Nat.left_eq_add, eq_self, if_true, if_false, not_false_eq_true, not_true_eq_false, false_implies, true_implies, Nat.reduceEqDiff, Nat.reduceAdd, Nat.reduceLT, Nat.reduceLeDiff, reduceIte, q1]
    exact ⟨Or.inl trivial, hP E1 k1 rfl g1 ⟨_, _, _, _, _, _, p7, p8, (gk1 9 (by omega)).trans d2, (gk1 10 (by omega)).trans d3⟩ (fun j a _ => gk1 j a)⟩
set_option maxRecDepth 20000 in
theorem f_X3_readRider_64 : Cond.fieldLink RX3 64 (TX4 3).1 (TX4 3).2.1 (TX4 3).2.2.1 ∈ wsX3_readRider := by decide +kernel
set_option maxRecDepth 20000 in
theorem k_X3_readRider_4 : ∀ w ∈ u_ws RX4 TX4 6, w ∈ wsX3_readRider := fun _ h => List.mem_cons_of_mem _ (List.mem_append_left _ (List.mem_append_right _ h))
set_option maxRecDepth 20000 in
theorem f_X3_readRider_44 : Cond.fieldLink RX3 44 (TX3 5).1 (TX3 5).2.1 (TX3 5).2.2.1 ∈ wsX3_readRider := by decide +kernel
set_option maxRecDepth 20000 in
theorem k_X3_readRider_3 : ∀ w ∈ u_ws RX3 TX3 7, w ∈ wsX3_readRider := fun _ h => List.mem_cons_of_mem _ (List.mem_append_right _ h)
set_option maxRecDepth 20000 in
theorem f_X3_readRider_67 : Cond.fieldLink RX3 67 (TX4 4).1 (TX4 4).2.1 (TX4 4).2.2.1 ∈ wsX3_readRider := by decide +kernel
set_option maxRecDepth 20000 in
theorem f_X3_readRider_70 : Cond.fieldLink RX3 70 (TX4 5).1 (TX4 5).2.1 (TX4 5).2.2.1 ∈ wsX3_readRider := by decide +kernel
set_option maxRecDepth 20000 in
theorem f_X3_readRider_47 : Cond.fieldLink RX3 47 (TX4 0).1 (TX4 0).2.1 (TX4 0).2.2.1 ∈ wsX3_readRider := by decide +kernel
set_option maxRecDepth 100000 in
set_option maxHeartbeats 4000000 in
theorem S_X3_readRider_0 {p : Program} {e : Env} {s : State} {m : MethodId} {args : Array Value} {below : List Frame} {meth : Method} {c : Code} {D : va_G} {cy : zY} {b n0 : Nat} {P : zPo} (la : Launch) (X : zX p la e (rm_X3_readRider) s m args below meth c 3 D cy b n0 cX3_readRider wsX3_readRider RX3) (hr : meth.sig.returnType = (some .boolean)) (h_X3_comesNumber : zMet la yX3_comesNumber wsX3_comesNumber rm_X3_comesNumber 0 0 sp_X3_comesNumber) : zS p la e (rm_X3_readRider) s m args below meth c (MQ below (zQ D b (n0 + 0) P) args s 0 0 (fun q => b ≤ q)) 3 D b n0 0 (B_X3_readRider_0 b n0 cy P (zAt p la e (rm_X3_readRider) s m args below meth c (MQ below (zQ D b (n0 + 0) P) args s 0 0 (fun q => b ≤ q)) 3 D b n0)) := by
  unfold B_X3_readRider_0
  exact (s_aload_n X dX3_readRider_0 rfl (s_iconst X dX3_readRider_1 (by decide) (s_bipush X dX3_readRider_2 (by decide) (s_callV X h_X3_comesNumber dX3_readRider_4 rfl gX3_readRider_X3_comesNumber rfl rfl rfl (by decide +kernel) ⟨by decide, by decide⟩ (s_if_ne X dX3_readRider_7 (by decide) (s_aload_n X dX3_readRider_12 rfl (s_get X dX3_readRider_13 rfl k_X3_readRider_4 (by decide) f_X3_readRider_64 (s_iload_n X dX3_readRider_16 rfl (s_aload_n X dX3_readRider_17 rfl (s_get X dX3_readRider_18 rfl k_X3_readRider_3 (by decide) f_X3_readRider_44 (s_iast X dX3_readRider_21 (s_aload_n X dX3_readRider_22 rfl (s_iconst X dX3_readRider_23 (by decide) (s_bipush X dX3_readRider_24 (by decide) (s_callV X h_X3_comesNumber dX3_readRider_26 rfl gX3_readRider_X3_comesNumber rfl rfl rfl (by decide +kernel) ⟨by decide, by decide⟩ (s_if_ne X dX3_readRider_29 (by decide) (s_aload_n X dX3_readRider_34 rfl (s_get X dX3_readRider_35 rfl k_X3_readRider_4 (by decide) f_X3_readRider_67 (s_iload_n X dX3_readRider_38 rfl (s_aload_n X dX3_readRider_39 rfl (s_get X dX3_readRider_40 rfl k_X3_readRider_3 (by decide) f_X3_readRider_44 (s_iast X dX3_readRider_43 (s_aload_n X dX3_readRider_44 rfl (s_iconst X dX3_readRider_45 (by decide) (s_iconst X dX3_readRider_46 (by decide) (s_callV X h_X3_comesNumber dX3_readRider_47 rfl gX3_readRider_X3_comesNumber rfl rfl rfl (by decide +kernel) ⟨by decide, by decide⟩ (s_if_ne X dX3_readRider_50 (by decide) (s_aload_n X dX3_readRider_55 rfl (s_get X dX3_readRider_56 rfl k_X3_readRider_4 (by decide) f_X3_readRider_70 (s_iload_n X dX3_readRider_59 rfl (s_aload_n X dX3_readRider_60 rfl (s_get X dX3_readRider_61 rfl k_X3_readRider_3 (by decide) f_X3_readRider_44 (s_iast X dX3_readRider_64 (s_aload_n X dX3_readRider_65 rfl (s_dup X dX3_readRider_66 (s_get X dX3_readRider_67 rfl k_X3_readRider_4 (by decide) f_X3_readRider_47 (s_iconst X dX3_readRider_70 (by decide) (s_iadd X dX3_readRider_71 (s_put X dX3_readRider_72 rfl k_X3_readRider_4 tyX4_ok nmX4 (by decide) f_X3_readRider_47 rfl (tyX4_ok 0 (by decide)) zok_int (s_iconst X dX3_readRider_75 (by decide) (s_zret X dX3_readRider_76 hr)))))))))))))) (s_iconst X dX3_readRider_53 (by decide) (s_zret X dX3_readRider_54 hr))))))))))))) (s_iconst X dX3_readRider_32 (by decide) (s_zret X dX3_readRider_33 hr))))))))))))) (s_iconst X dX3_readRider_10 (by decide) (s_zret X dX3_readRider_11 hr)))))))
theorem w_X3_readRider (la : Launch) (h_X3_comesNumber : zMet la yX3_comesNumber wsX3_comesNumber rm_X3_comesNumber 0 0 sp_X3_comesNumber) (sp : zSp) (vc : zVC_X3_readRider sp) : zMet la yX3_readRider wsX3_readRider (rm_X3_readRider) 0 0 sp :=
  z_of (cc := cX3_readRider) (maxL := 3) (ret := (some .boolean)) (by decide +kernel) rfl (fun p e s m args below meth c D cy b n as E P hsp X hr hin => by
    obtain ⟨h1, h2⟩ := vc b cy n as E P (zAt p la e (rm_X3_readRider) s m args below meth c (MQ below (zQ D b (n + 0) P) args s 0 0 (fun q => b ≤ q)) 3 D b n) hsp
    exact ⟨h1, S_X3_readRider_0 la X hr h_X3_comesNumber _ _ _ _ _ h2⟩)

theorem m_X3_readRider (la : Launch) : zMet la yX3_readRider wsX3_readRider rm_X3_readRider 0 0 sp_X3_readRider := w_X3_readRider la (m_X3_comesNumber la) _ vc_X3_readRider
def sp_X3_readLine : zSp := fun b cy as N E P => ∃ (len n : Nat) (tx : Nat → Nat) (k : zTk) (seat lo la : Nat → Nat) (line : Nat) (items : Int32), as = [.ref (b + 1), .ref (b + 7)] ∧ E 1 = zTk1 b len k 0 ∧ zTb cy E len tx ∧ k.1 ≤ len ∧ zTo b cy E 7 n lo la seat line items ∧ 11 ≤ N ∧ (if znum 1 20 (ztk len tx k.1) = true then (∀ E', E' 1 = zTk1 b len (ztk len tx k.1) 1 → (ztk len tx k.1).1 ≤ len → zTo b cy E' 7 n lo la seat (ztk len tx k.1).2.2.2 items → (∀ j, j ≠ 1 → (j < 7 ∨ 10 < j) → E' j = E j) → P (some (.int 1)) E') else (∀ E', E' 1 = zTk1 b len (ztk len tx k.1) 0 → zToS b cy E' 7 → (∀ j, j ≠ 1 → (j < 7 ∨ 10 < j) → E' j = E j) → P (some (.int 0)) E'))
abbrev rm_X3_readLine : Room := { frames := 4, cells := 0, slots := 0, locals := 106 }
def B_X3_readLine_0 (b n0 : Nat) (cy : zY) (P : zPo) (A : Nat → zC) : zC :=
  z_aload 0 (z_const (1) (z_const (20) (z_callV b n0 0 0 cy 3 2 0 0 sp_X3_comesNumber (z_if (fun x => x = 0) (z_const (0) (z_zret 0 0 P)) (z_aload 1 (z_aload 0 (z_get b n0 3 5 (z_put b n0 4 2 0 (z_aload 0 (z_const (1) (z_put b n0 3 6 3 (z_const (1) (z_zret 0 0 P)))))))))))))
def zVC_X3_readLine (sp : zSp) : Prop := ∀ (b : Nat) (cy : zY) (n : Nat) (as : List Value) (E : zE) (P : zPo) (A : Nat → zC), sp b cy as n E P → zgood as 2 ∧ B_X3_readLine_0 b n cy P A (lv_args 0 as) [] 0 0 E

set_option maxRecDepth 100000 in
set_option maxHeartbeats 4000000 in
theorem vc_X3_readLine : zVC_X3_readLine sp_X3_readLine := by
  intro b cy N as E P A hsp
  obtain ⟨len, n, tx, k, seat, lo, la, line, items, rfl, h1, hTb, hk, ⟨hn, f, g, h, d0, d1, d2, d3, hf, hg, hh⟩, hN, hP⟩ := hsp
  refine ⟨⟨Nat.le_of_ble_eq_true rfl, zg1 rfl (zg1 rfl (zg0))⟩, ?_⟩
  replace d1 : E 8 = _ := d1
  replace d2 : E 9 = _ := d2
  replace d3 : E 10 = _ := d3
  have ht := fun j hj => (hTb.2.choose_spec.2 j hj).1
  have N1 : 1 < N := by omega
  have N7 : 7 < N := by omega
  have h1' := h1
  have e17 : ((1 : Nat) = 7) = False := by simp
  have e71 : ((7 : Nat) = 1) = False := by simp
  simp only [zTk1, zTc] at h1
  simp only [B_X3_readLine_0, e_cut, e_iload, e_aload, e_istore, e_astore, e_iinc, e_const, e_lconst, e_bin, e_bin0, e_un, e_ladd, e_dupi, e_dupr, e_dup2, e_pop, e_if, e_icmp, e_sw, e_sw0, e_sw1, e_get, e_put, e_ald, e_ast, e_aald, e_aast, e_copy, e_new, e_newa, e_anewa, e_min, e_abs, e_oinit, e_callI, e_callV, e_callS, e_iret, e_zret, e_lret, e_vret, e_tl1, e_tl0, e_tl2, e_tl3, z10, Bool.false_eq_true, e_argi, e_argr, e_argn, zld_c, zst_n, zst_c, zpick_n, zpick_c, List.drop_succ_cons, List.drop_zero, List.take_succ_cons, List.take_zero, List.length_cons, List.length_nil, List.reverse_cons, List.reverse_nil, List.nil_append, List.cons_append, List.append_nil, List.getElem?_cons_zero, List.getElem?_cons_succ, List.set_cons_zero, List.set_cons_succ, Nat.add_sub_cancel_left, Nat.sub_self, Nat.add_zero, Nat.zero_add, Nat.le_add_right, Nat.le_refl, true_and, and_true, va_rf, zok, Nat.add_left_cancel_iff, Nat.add_eq_left, Nat.left_eq_add, eq_self, if_true, if_false, not_false_eq_true, not_true_eq_false, false_implies, true_implies, Nat.reduceEqDiff, Nat.reduceAdd, Nat.reduceLT, Nat.reduceLeDiff, reduceIte, h1, N1]
  refine ⟨len, 1, 20, tx, k, 0, rfl, h1', hTb, hk, by omega, by omega, by omega, fun E1 g1 gk1 => ?_⟩
  obtain ⟨_, w1, _⟩ := ztk_b hk ht
  generalize ztk len tx k.1 = k1 at *
  have p7 : E1 7 = _ := (gk1 7 (by omega)).trans d0
  by_cases q1 : znum 1 20 k1 = true
  · simp only [q1, if_true] at hP
    have g1' := g1
    simp only [zTk1, zTc] at g1
    simp only [e_cut, e_iload, e_aload, e_istore, e_astore, e_iinc, e_const, e_lconst, e_bin, e_bin0, e_un, e_ladd, e_dupi, e_dupr, e_dup2, e_pop, e_if, e_icmp, e_sw, e_sw0, e_sw1, e_get, e_put, e_ald, e_ast, e_aald, e_aast, e_copy, e_new, e_newa, e_anewa, e_min, e_abs, e_oinit, e_callI, e_callV, e_callS, e_iret, e_zret, e_lret, e_vret, e_tl1, e_tl0, e_tl2, e_tl3, z10, Bool.false_eq_true, e_argi, e_argr, e_argn, zld_c, zst_n, zst_c, zpick_n, zpick_c, List.drop_succ_cons, List.drop_zero, List.take_succ_cons, List.take_zero, List.length_cons, List.length_nil, List.reverse_cons, List.reverse_nil, List.nil_append, List.cons_append, List.append_nil, List.getElem?_cons_zero, List.getElem?_cons_succ, List.set_cons_zero, List.set_cons_succ, Nat.add_sub_cancel_left, Nat.sub_self, Nat.add_zero, Nat.zero_add, Nat.le_add_right, Nat.le_refl, true_and, and_true, va_rf, zok, Nat.add_left_cancel_iff, Nat.add_eq_left, Nat.left_eq_add, eq_self, if_true, if_false, not_false_eq_true, not_true_eq_false, false_implies, true_implies, Nat.reduceEqDiff, Nat.reduceAdd, Nat.reduceLT, Nat.reduceLeDiff, reduceIte, q1, g1, p7, N1, N7, e_up, e17, e71]
    refine ⟨Or.inr trivial, Or.inr trivial, hP _ (by simp only [e_up, e17, if_false, if_true]; rfl) w1 ⟨hn, f, g, h, by simp only [e_up, e71, if_false, if_true], by simp only [e_up]; rw [if_neg (by omega), if_neg (by omega)]; exact (gk1 8 (by omega)).trans d1, by simp only [e_up]; rw [if_neg (by omega), if_neg (by omega)]; exact (gk1 9 (by omega)).trans d2, by simp only [e_up]; rw [if_neg (by omega), if_neg (by omega)]; exact (gk1 10 (by omega)).trans d3, hf, hg, hh⟩ (fun j a c => by simp only [e_up]; rw [if_neg (by omega), if_neg (by omega)]; exact gk1 j a)⟩
  · simp only [q1] at hP
    simp only [e_cut, e_iload, e_aload, e_istore, e_astore, e_iinc, e_const, e_lconst, e_bin, e_bin0, e_un, e_ladd, e_dupi, e_dupr, e_dup2, e_pop, e_if, e_icmp, e_sw, e_sw0, e_sw1, e_get, e_put, e_ald, e_ast, e_aald, e_aast, e_copy, e_new, e_newa, e_anewa, e_min, e_abs, e_oinit, e_callI, e_callV, e_callS, e_iret, e_zret, e_lret, e_vret, e_tl1, e_tl0, e_tl2, e_tl3, z10, Bool.false_eq_true, e_argi, e_argr, e_argn, zld_c, zst_n, zst_c, zpick_n, zpick_c, List.drop_succ_cons, List.drop_zero, List.take_succ_cons, List.take_zero, List.length_cons, List.length_nil, List.reverse_cons, List.reverse_nil, List.nil_append, List.cons_append, List.append_nil, List.getElem?_cons_zero, List.getElem?_cons_succ, List.set_cons_zero, List.set_cons_succ, Nat.add_sub_cancel_left, Nat.sub_self, Nat.add_zero, Nat.zero_add, Nat.le_add_right, Nat.le_refl, true_and, and_true, va_rf, zok, Nat.add_left_cancel_iff, Nat.add_eq_left, Nat.left_eq_add, eq_self, if_true, if_false, not_false_eq_true, not_true_eq_false, false_implies, true_implies, Nat.reduceEqDiff, Nat.reduceAdd, Nat.reduceLT, Nat.reduceLeDiff, reduceIte, q1]
    exact ⟨Or.inl trivial, hP E1 g1 ⟨_, _, _, _, _, _, p7, (gk1 8 (by omega)).trans d1, (gk1 9 (by omega)).trans d2, (gk1 10 (by omega)).trans d3⟩ (fun j a _ => gk1 j a)⟩
set_option maxRecDepth 20000 in
theorem f_X3_readLine_44 : Cond.fieldLink RX3 44 (TX3 5).1 (TX3 5).2.1 (TX3 5).2.2.1 ∈ wsX3_readLine := by decide +kernel
set_option maxRecDepth 20000 in
theorem k_X3_readLine_3 : ∀ w ∈ u_ws RX3 TX3 7, w ∈ wsX3_readLine := fun _ h => List.mem_cons_of_mem _ (List.mem_append_left _ (List.mem_append_right _ h))
set_option maxRecDepth 20000 in
theorem f_X3_readLine_73 : Cond.fieldLink RX3 73 (TX4 2).1 (TX4 2).2.1 (TX4 2).2.2.1 ∈ wsX3_readLine := by decide +kernel
set_option maxRecDepth 20000 in
theorem k_X3_readLine_4 : ∀ w ∈ u_ws RX4 TX4 6, w ∈ wsX3_readLine := fun _ h => List.mem_cons_of_mem _ (List.mem_append_right _ h)
set_option maxRecDepth 20000 in
theorem f_X3_readLine_22 : Cond.fieldLink RX3 22 (TX3 6).1 (TX3 6).2.1 (TX3 6).2.2.1 ∈ wsX3_readLine := by decide +kernel
set_option maxRecDepth 100000 in
set_option maxHeartbeats 4000000 in
theorem S_X3_readLine_0 {p : Program} {e : Env} {s : State} {m : MethodId} {args : Array Value} {below : List Frame} {meth : Method} {c : Code} {D : va_G} {cy : zY} {b n0 : Nat} {P : zPo} (la : Launch) (X : zX p la e (rm_X3_readLine) s m args below meth c 2 D cy b n0 cX3_readLine wsX3_readLine RX3) (hr : meth.sig.returnType = (some .boolean)) (h_X3_comesNumber : zMet la yX3_comesNumber wsX3_comesNumber rm_X3_comesNumber 0 0 sp_X3_comesNumber) : zS p la e (rm_X3_readLine) s m args below meth c (MQ below (zQ D b (n0 + 0) P) args s 0 0 (fun q => b ≤ q)) 2 D b n0 0 (B_X3_readLine_0 b n0 cy P (zAt p la e (rm_X3_readLine) s m args below meth c (MQ below (zQ D b (n0 + 0) P) args s 0 0 (fun q => b ≤ q)) 2 D b n0)) := by
  unfold B_X3_readLine_0
  exact (s_aload_n X dX3_readLine_0 rfl (s_iconst X dX3_readLine_1 (by decide) (s_bipush X dX3_readLine_2 (by decide) (s_callV X h_X3_comesNumber dX3_readLine_4 rfl gX3_readLine_X3_comesNumber rfl rfl rfl (by decide +kernel) ⟨by decide, by decide⟩ (s_if_ne X dX3_readLine_7 (by decide) (s_aload_n X dX3_readLine_12 rfl (s_aload_n X dX3_readLine_13 rfl (s_get X dX3_readLine_14 rfl k_X3_readLine_3 (by decide) f_X3_readLine_44 (s_put X dX3_readLine_17 rfl k_X3_readLine_4 tyX4_ok nmX4 (by decide) f_X3_readLine_73 rfl (tyX4_ok 2 (by decide)) zok_int (s_aload_n X dX3_readLine_20 rfl (s_iconst X dX3_readLine_21 (by decide) (s_put X dX3_readLine_22 rfl k_X3_readLine_3 tyX3_ok nmX3 (by decide) f_X3_readLine_22 rfl (tyX3_ok 6 (by decide)) zok_bool (s_iconst X dX3_readLine_25 (by decide) (s_zret X dX3_readLine_26 hr))))))))) (s_iconst X dX3_readLine_10 (by decide) (s_zret X dX3_readLine_11 hr)))))))
theorem w_X3_readLine (la : Launch) (h_X3_comesNumber : zMet la yX3_comesNumber wsX3_comesNumber rm_X3_comesNumber 0 0 sp_X3_comesNumber) (sp : zSp) (vc : zVC_X3_readLine sp) : zMet la yX3_readLine wsX3_readLine (rm_X3_readLine) 0 0 sp :=
  z_of (cc := cX3_readLine) (maxL := 2) (ret := (some .boolean)) (by decide +kernel) rfl (fun p e s m args below meth c D cy b n as E P hsp X hr hin => by
    obtain ⟨h1, h2⟩ := vc b cy n as E P (zAt p la e (rm_X3_readLine) s m args below meth c (MQ below (zQ D b (n + 0) P) args s 0 0 (fun q => b ≤ q)) 2 D b n) hsp
    exact ⟨h1, S_X3_readLine_0 la X hr h_X3_comesNumber _ _ _ _ _ h2⟩)

theorem m_X3_readLine (la : Launch) : zMet la yX3_readLine wsX3_readLine rm_X3_readLine 0 0 sp_X3_readLine := w_X3_readLine la (m_X3_comesNumber la) _ vc_X3_readLine
theorem nI_lit {a n : Nat} {x : Int32} (hx : x = nI n) (ha : a < 2 ^ 31) (hn : n < 2 ^ 31) : (nI a = x) = (a = n) := by rw [hx]; exact propext (nI_eq ha hn)
theorem nI_lil {a n : Nat} {x : Int32} (hx : x = nI n) (ha : a < 2 ^ 31) (hn : n < 2 ^ 31) : (x ≤ nI a) = (n ≤ a) := by rw [hx]; exact propext (nI_leI hn ha)
def zlt (t : Bool) : Int32 := if t = true then 1 else 0
/-- the reader between two items, or behind a fault -/
def zRs (b : Nat) (cy : zY) (E : zE) (len : Nat) (k : zTk) : zTd → Prop := fun (n, seat, lo, la, line, t, items) => E 1 = zTk1 b len k (zlt t) ∧ zTo b cy E 7 n lo la seat line (nI items)
def sp_X3_readItem : zSp := fun b cy as N E P => ∃ (len : Nat) (tx : Nat → Nat) (k : zTk) (d : zTd), as = [.ref (b + 1), .ref (b + 7)] ∧ zRs b cy E len k d ∧ zTb cy E len tx ∧ k.1 ≤ len ∧ k.2.1 ≤ 4 ∧ k.2.2.2 < 256 ∧ 11 ≤ N ∧ (match zitem len tx k d with
  | .inl s => ∀ E' (k' : zTk) (s6 : Int32), k'.2.2.1 = s → E' 1 = zTk1 b len k' s6 → zToS b cy E' 7 → (∀ j, j ≠ 1 → (j < 7 ∨ 10 < j) → E' j = E j) → P (some (.int 0)) E'
  | .inr (k', d') => ∀ E', zRs b cy E' len k' d' → k'.1 ≤ len → k'.2.1 ≤ 4 → k'.2.2.2 < 256 → (∀ j, j ≠ 1 → (j < 7 ∨ 10 < j) → E' j = E j) → P (some (.int 1)) E')
abbrev rm_X3_readItem : Room := { frames := 5, cells := 0, slots := 0, locals := 128 }
def B_X3_readItem_98 (b n0 : Nat) (cy : zY) (P : zPo) (A : Nat → zC) : zC :=
  z_const (0) (z_zret 0 0 P)
def B_X3_readItem_97 (b n0 : Nat) (cy : zY) (P : zPo) (A : Nat → zC) : zC :=
  z_zret 0 0 P
def B_X3_readItem_96 (b n0 : Nat) (cy : zY) (P : zPo) (A : Nat → zC) : zC :=
  z_const (0) (B_X3_readItem_97 b n0 cy P A)
def B_X3_readItem_52 (b n0 : Nat) (cy : zY) (P : zPo) (A : Nat → zC) : zC :=
  z_aload 0 (z_get b n0 3 3 (z_const (1) (z_icmp (fun x y => x = y) (z_aload 0 (z_get b n0 3 5 (z_const (108) (z_icmp (fun x y => x = y) (z_aload 0 (z_get b n0 3 6 (z_if (fun x => x = 0) (z_aload 0 (z_aload 1 (z_callV b n0 0 0 cy 3 1 0 0 sp_X3_readLine (z_if (fun x => x = 0) (B_X3_readItem_96 b n0 cy P A) (z_aload 0 (z_aload 1 (z_callV b n0 0 0 cy 3 1 0 0 sp_X3_comesEnd (z_if (fun x => x = 0) (B_X3_readItem_96 b n0 cy P A) (z_const (1) (B_X3_readItem_97 b n0 cy P A)))))))))) (B_X3_readItem_98 b n0 cy P A)))) (B_X3_readItem_98 b n0 cy P A))))) (B_X3_readItem_98 b n0 cy P A))))
def B_X3_readItem_51 (b n0 : Nat) (cy : zY) (P : zPo) (A : Nat → zC) : zC :=
  z_zret 0 0 P
def B_X3_readItem_50 (b n0 : Nat) (cy : zY) (P : zPo) (A : Nat → zC) : zC :=
  z_const (0) (B_X3_readItem_51 b n0 cy P A)
def B_X3_readItem_0 (b n0 : Nat) (cy : zY) (P : zPo) (A : Nat → zC) : zC :=
  z_aload 0 (z_get b n0 3 3 (z_const (1) (z_icmp (fun x y => x = y) (z_aload 0 (z_get b n0 3 5 (z_const (114) (z_icmp (fun x y => x = y) (z_aload 1 (z_get b n0 4 0 (z_const (6) (z_icmp (fun x y => y ≤ x) (B_X3_readItem_52 b n0 cy P A) (z_aload 0 (z_aload 1 (z_aload 1 (z_get b n0 4 0 (z_callV b n0 0 0 cy 3 2 0 0 sp_X3_readRider (z_if (fun x => x = 0) (B_X3_readItem_50 b n0 cy P A) (z_aload 0 (z_aload 1 (z_callV b n0 0 0 cy 3 1 0 0 sp_X3_comesEnd (z_if (fun x => x = 0) (B_X3_readItem_50 b n0 cy P A) (z_const (1) (B_X3_readItem_51 b n0 cy P A)))))))))))))))) (B_X3_readItem_52 b n0 cy P A))))) (B_X3_readItem_52 b n0 cy P A))))
def zVC_X3_readItem (sp : zSp) : Prop := ∀ (b : Nat) (cy : zY) (n : Nat) (as : List Value) (E : zE) (P : zPo) (A : Nat → zC), sp b cy as n E P → zgood as 2 ∧ B_X3_readItem_0 b n cy P A (lv_args 0 as) [] 0 0 E

set_option maxRecDepth 100000 in
set_option maxHeartbeats 4000000 in
theorem vc_X3_readItem : zVC_X3_readItem sp_X3_readItem := by
  intro b cy N as E P A hsp
  obtain ⟨len, tx, k, ⟨n, seat, lo, la, line, t, items⟩, rfl, ⟨h1, hTo⟩, hTb, hk, hs, hv, hN, hP⟩ := hsp
  refine ⟨⟨Nat.le_of_ble_eq_true rfl, zg1 rfl (zg1 rfl (zg0))⟩, ?_⟩
  obtain ⟨hn, f, g, h, d0, d1, d2, d3, hf, hg, hh⟩ := id hTo
  have ht := fun j hj => (hTb.2.choose_spec.2 j hj).1
  have N1 : 1 < N := by omega
  have N7 : 7 < N := by omega
  have h1' := h1
  simp only [zTk1, zTc] at h1
  simp only [zitem] at hP
  have f1 : ((k.2.1 : Nat) < 2 ^ 31) := by omega
  have f2 : ((k.2.2.2 : Nat) < 2 ^ 31) := by omega
  have f3 : n < 2 ^ 31 := by omega
  have k1 : (nI k.2.1 = 1) = (k.2.1 = 1) := nI_lit (n := 1) (x := 1) rfl f1 (by omega)
  have k6 : (6 ≤ nI n) = (6 ≤ n) := nI_lil (n := 6) (x := 6) rfl f3 (by omega)
  have k114 : (nI k.2.2.2 = 114) = (k.2.2.2 = 114) := nI_lit (n := 114) (x := 114) rfl f2 (by omega)
  have k108 : (nI k.2.2.2 = 108) = (k.2.2.2 = 108) := nI_lit (n := 108) (x := 108) rfl f2 (by omega)
  have klt : (zlt t = 0) = (t = false) := by cases t <;> simp [zlt]
  have b52 : ¬ (k.2.1 = 1 ∧ k.2.2.2 = 114 ∧ n < 6) → B_X3_readItem_52 b N cy P A [(0, .ref (b + 1)), (1, .ref (b + 7))] [] 0 0 E := by
    intro c0
    rw [if_neg c0] at hP
    have no : ¬ (k.2.1 = 1 ∧ k.2.2.2 = 108 ∧ t = false) → P (some (.int 0)) E := by
      intro c1
      rw [if_neg c1] at hP
      exact hP E k (zlt t) rfl h1' hTo.sh (fun _ _ _ => rfl)
    simp only [B_X3_readItem_0, B_X3_readItem_50, B_X3_readItem_51, B_X3_readItem_52, B_X3_readItem_96, B_X3_readItem_97, B_X3_readItem_98, e_cut, e_iload, e_aload, e_istore, e_astore, e_iinc, e_const, e_lconst, e_bin, e_bin0, e_un, e_ladd, e_dupi, e_dupr, e_dup2, e_pop, e_if, e_icmp, e_sw, e_sw0, e_sw1, e_get, e_put, e_ald, e_ast, e_aald, e_aast, e_copy, e_new, e_newa, e_anewa, e_min, e_abs, e_oinit, e_callI, e_callV, e_callS, e_iret, e_zret, e_lret, e_vret, e_tl1, e_tl0, e_tl2, e_tl3, z10, Bool.false_eq_true, e_argi, e_argr, e_argn, zld_c, zst_n, zst_c, zpick_n, zpick_c, List.drop_succ_cons, List.drop_zero, List.take_succ_cons, List.take_zero, List.length_cons, List.length_nil, List.reverse_cons, List.reverse_nil, List.nil_append, List.cons_append, List.append_nil, List.getElem?_cons_zero, List.getElem?_cons_succ, List.set_cons_zero, List.set_cons_succ, Nat.add_sub_cancel_left, Nat.sub_self, Nat.add_zero, Nat.zero_add, Nat.le_add_right, Nat.le_refl, true_and, and_true, va_rf, zok, Nat.add_left_cancel_iff, Nat.add_eq_left, Nat.left_eq_add, eq_self, if_true, if_false, not_false_eq_true, not_true_eq_false, false_implies, true_implies, Nat.reduceEqDiff, Nat.reduceAdd, Nat.reduceLT, Nat.reduceLeDiff, reduceIte, h1, d0, N1, N7, k1, k108, klt]
    refine ⟨fun c1 => ⟨fun c2 => ⟨fun c3 => ?_, fun c3 => ?_⟩, fun c2 => ?_⟩, fun c1 => ?_⟩
    · subst c3
      refine ⟨len, n, tx, k, seat, lo, la, line, nI items, rfl, h1', hTb, hk, hTo, hN, ?_⟩
      rw [if_pos ⟨c1, c2, rfl⟩] at hP
      by_cases q1 : znum 1 20 (ztk len tx k.1) = true
      · simp only [q1, if_true] at hP ⊢
        intro E1 g1 w1 gTo gk
        generalize ztk len tx k.1 = k1 at *
        simp only [e_cut, e_iload, e_aload, e_istore, e_astore, e_iinc, e_const, e_lconst, e_bin, e_bin0, e_un, e_ladd, e_dupi, e_dupr, e_dup2, e_pop, e_if, e_icmp, e_sw, e_sw0, e_sw1, e_get, e_put, e_ald, e_ast, e_aald, e_aast, e_copy, e_new, e_newa, e_anewa, e_min, e_abs, e_oinit, e_callI, e_callV, e_callS, e_iret, e_zret, e_lret, e_vret, e_tl1, e_tl0, e_tl2, e_tl3, z10, Bool.false_eq_true, e_argi, e_argr, e_argn, zld_c, zst_n, zst_c, zpick_n, zpick_c, List.drop_succ_cons, List.drop_zero, List.take_succ_cons, List.take_zero, List.length_cons, List.length_nil, List.reverse_cons, List.reverse_nil, List.nil_append, List.cons_append, List.append_nil, List.getElem?_cons_zero, List.getElem?_cons_succ, List.set_cons_zero, List.set_cons_succ, Nat.add_sub_cancel_left, Nat.sub_self, Nat.add_zero, Nat.zero_add, Nat.le_add_right, Nat.le_refl, true_and, and_true, va_rf, zok, Nat.add_left_cancel_iff, Nat.add_eq_left, Nat.left_eq_add, eq_self, if_true, if_false, not_false_eq_true, not_true_eq_false, false_implies, true_implies, Nat.reduceEqDiff, Nat.reduceAdd, Nat.reduceLT, Nat.reduceLeDiff, reduceIte, g1, N1]
        obtain ⟨_, f', g', h', p0, p1, p2, p3, hf', hg', hh'⟩ := id gTo
        refine ⟨by simp only [zTk1, zTc], len, tx, k1, 1, _, _, _, rfl, g1, hTb.congr (gk 2 (by omega) (by omega)), w1, p0, hN, ?_⟩
        simp only [zend] at hP
        obtain ⟨_, w2, _⟩ := ztk_b w1 ht
        by_cases q2 : (ztk len tx k1.1).2.1 = 3
        · simp only [q2, if_true] at hP ⊢
          obtain ⟨_, w3, w4, _, w5, _⟩ := ztk_b w2 ht
          intro E2 g2 p7 gk2
          simp only [e_cut, e_iload, e_aload, e_istore, e_astore, e_iinc, e_const, e_lconst, e_bin, e_bin0, e_un, e_ladd, e_dupi, e_dupr, e_dup2, e_pop, e_if, e_icmp, e_sw, e_sw0, e_sw1, e_get, e_put, e_ald, e_ast, e_aald, e_aast, e_copy, e_new, e_newa, e_anewa, e_min, e_abs, e_oinit, e_callI, e_callV, e_callS, e_iret, e_zret, e_lret, e_vret, e_tl1, e_tl0, e_tl2, e_tl3, z10, Bool.false_eq_true, e_argi, e_argr, e_argn, zld_c, zst_n, zst_c, zpick_n, zpick_c, List.drop_succ_cons, List.drop_zero, List.take_succ_cons, List.take_zero, List.length_cons, List.length_nil, List.reverse_cons, List.reverse_nil, List.nil_append, List.cons_append, List.append_nil, List.getElem?_cons_zero, List.getElem?_cons_succ, List.set_cons_zero, List.set_cons_succ, Nat.add_sub_cancel_left, Nat.sub_self, Nat.add_zero, Nat.zero_add, Nat.le_add_right, Nat.le_refl, true_and, and_true, va_rf, zok, Nat.add_left_cancel_iff, Nat.add_eq_left, Nat.left_eq_add, eq_self, if_true, if_false, not_false_eq_true, not_true_eq_false, false_implies, true_implies, Nat.reduceEqDiff, Nat.reduceAdd, Nat.reduceLT, Nat.reduceLeDiff, reduceIte]
          exact ⟨Or.inr trivial, hP E2 ⟨g2, ⟨hn, f', g', h', by rw [p7, nI_1], (gk2 8 (by omega) (by omega)).trans p1, (gk2 9 (by omega) (by omega)).trans p2, (gk2 10 (by omega) (by omega)).trans p3, hf', hg', hh'⟩⟩ w3 w4 w5 (fun j a c => (gk2 j a (by omega)).trans (gk j a c))⟩
        · simp only [q2, if_false] at hP ⊢
          intro E2 g2 gk2
          simp only [e_cut, e_iload, e_aload, e_istore, e_astore, e_iinc, e_const, e_lconst, e_bin, e_bin0, e_un, e_ladd, e_dupi, e_dupr, e_dup2, e_pop, e_if, e_icmp, e_sw, e_sw0, e_sw1, e_get, e_put, e_ald, e_ast, e_aald, e_aast, e_copy, e_new, e_newa, e_anewa, e_min, e_abs, e_oinit, e_callI, e_callV, e_callS, e_iret, e_zret, e_lret, e_vret, e_tl1, e_tl0, e_tl2, e_tl3, z10, Bool.false_eq_true, e_argi, e_argr, e_argn, zld_c, zst_n, zst_c, zpick_n, zpick_c, List.drop_succ_cons, List.drop_zero, List.take_succ_cons, List.take_zero, List.length_cons, List.length_nil, List.reverse_cons, List.reverse_nil, List.nil_append, List.cons_append, List.append_nil, List.getElem?_cons_zero, List.getElem?_cons_succ, List.set_cons_zero, List.set_cons_succ, Nat.add_sub_cancel_left, Nat.sub_self, Nat.add_zero, Nat.zero_add, Nat.le_add_right, Nat.le_refl, true_and, and_true, va_rf, zok, Nat.add_left_cancel_iff, Nat.add_eq_left, Nat.left_eq_add, eq_self, if_true, if_false, not_false_eq_true, not_true_eq_false, false_implies, true_implies, Nat.reduceEqDiff, Nat.reduceAdd, Nat.reduceLT, Nat.reduceLeDiff, reduceIte]
          exact ⟨Or.inl trivial, hP E2 _ _ rfl g2 (gTo.sh.congr (fun j a c => gk2 j (by omega))) (fun j a c => (gk2 j a).trans (gk j a c))⟩
      · simp only [q1] at hP ⊢
        intro E1 g1 gS gk
        simp only [e_cut, e_iload, e_aload, e_istore, e_astore, e_iinc, e_const, e_lconst, e_bin, e_bin0, e_un, e_ladd, e_dupi, e_dupr, e_dup2, e_pop, e_if, e_icmp, e_sw, e_sw0, e_sw1, e_get, e_put, e_ald, e_ast, e_aald, e_aast, e_copy, e_new, e_newa, e_anewa, e_min, e_abs, e_oinit, e_callI, e_callV, e_callS, e_iret, e_zret, e_lret, e_vret, e_tl1, e_tl0, e_tl2, e_tl3, z10, Bool.false_eq_true, e_argi, e_argr, e_argn, zld_c, zst_n, zst_c, zpick_n, zpick_c, List.drop_succ_cons, List.drop_zero, List.take_succ_cons, List.take_zero, List.length_cons, List.length_nil, List.reverse_cons, List.reverse_nil, List.nil_append, List.cons_append, List.append_nil, List.getElem?_cons_zero, List.getElem?_cons_succ, List.set_cons_zero, List.set_cons_succ, Nat.add_sub_cancel_left, Nat.sub_self, Nat.add_zero, Nat.zero_add, Nat.le_add_right, Nat.le_refl, true_and, and_true, va_rf, zok, Nat.add_left_cancel_iff, Nat.add_eq_left, Nat.left_eq_add, eq_self, if_true, if_false, not_false_eq_true, not_true_eq_false, false_implies, true_implies, Nat.reduceEqDiff, Nat.reduceAdd, Nat.reduceLT, Nat.reduceLeDiff, reduceIte]
        exact ⟨Or.inl trivial, hP E1 _ _ rfl g1 gS gk⟩
    · exact ⟨Or.inl trivial, no (fun x => c3 x.2.2)⟩
    · exact ⟨Or.inl trivial, no (fun x => c2 x.2.1)⟩
    · exact ⟨Or.inl trivial, no (fun x => c1 x.1)⟩
  simp only [B_X3_readItem_0, B_X3_readItem_50, B_X3_readItem_51, e_cut, e_iload, e_aload, e_istore, e_astore, e_iinc, e_const, e_lconst, e_bin, e_bin0, e_un, e_ladd, e_dupi, e_dupr, e_dup2, e_pop, e_if, e_icmp, e_sw, e_sw0, e_sw1, e_get, e_put, e_ald, e_ast, e_aald, e_aast, e_copy, e_new, e_newa, e_anewa, e_min, e_abs, e_oinit, e_callI, e_callV, e_callS, e_iret, e_zret, e_lret, e_vret, e_tl1, e_tl0, e_tl2, e_tl3, z10, Bool.false_eq_true, e_argi, e_argr, e_argn, zld_c, zst_n, zst_c, zpick_n, zpick_c, List.drop_succ_cons, List.drop_zero, List.take_succ_cons, List.take_zero, List.length_cons, List.length_nil, List.reverse_cons, List.reverse_nil, List.nil_append, List.cons_append, List.append_nil, List.getElem?_cons_zero, List.getElem?_cons_succ, List.set_cons_zero, List.set_cons_succ, Nat.add_sub_cancel_left, Nat.sub_self, Nat.add_zero, Nat.zero_add, Nat.le_add_right, Nat.le_refl, true_and, and_true, va_rf, zok, Nat.add_left_cancel_iff, Nat.add_eq_left, Nat.left_eq_add, eq_self, if_true, if_false, not_false_eq_true, not_true_eq_false, false_implies, true_implies, Nat.reduceEqDiff, Nat.reduceAdd, Nat.reduceLT, Nat.reduceLeDiff, reduceIte, h1, d0, N1, N7, k1, k6, k114]
  refine ⟨fun c1 => ⟨fun c2 => ⟨fun c3 => b52 (by omega), fun c3 => ?_⟩, fun c2 => b52 (by omega)⟩, fun c1 => b52 (by omega)⟩
  have n6 : n < 6 := by omega
  rw [if_pos ⟨c1, c2, n6⟩] at hP
  refine ⟨len, n, tx, k, zlt t, seat, lo, la, line, nI items, rfl, h1', hTb, hk, hTo, n6, hN, ?_⟩
  cases hz : zrid len tx k with
  | inl s =>
    rw [hz] at hP
    intro E1 k' hk' g1 gS gk
    simp only [e_cut, e_iload, e_aload, e_istore, e_astore, e_iinc, e_const, e_lconst, e_bin, e_bin0, e_un, e_ladd, e_dupi, e_dupr, e_dup2, e_pop, e_if, e_icmp, e_sw, e_sw0, e_sw1, e_get, e_put, e_ald, e_ast, e_aald, e_aast, e_copy, e_new, e_newa, e_anewa, e_min, e_abs, e_oinit, e_callI, e_callV, e_callS, e_iret, e_zret, e_lret, e_vret, e_tl1, e_tl0, e_tl2, e_tl3, z10, Bool.false_eq_true, e_argi, e_argr, e_argn, zld_c, zst_n, zst_c, zpick_n, zpick_c, List.drop_succ_cons, List.drop_zero, List.take_succ_cons, List.take_zero, List.length_cons, List.length_nil, List.reverse_cons, List.reverse_nil, List.nil_append, List.cons_append, List.append_nil, List.getElem?_cons_zero, List.getElem?_cons_succ, List.set_cons_zero, List.set_cons_succ, Nat.add_sub_cancel_left, Nat.sub_self, Nat.add_zero, Nat.zero_add, Nat.le_add_right, Nat.le_refl, true_and, and_true, va_rf, zok, Nat.add_left_cancel_iff, Nat.add_eq_left, Nat.left_eq_add, eq_self, if_true, if_false, not_false_eq_true, not_true_eq_false, false_implies, true_implies, Nat.reduceEqDiff, Nat.reduceAdd, Nat.reduceLT, Nat.reduceLeDiff, reduceIte]
    exact ⟨Or.inl trivial, hP E1 k' _ hk' g1 gS gk⟩
  | inr z =>
    obtain ⟨k3, a1, a2, a3⟩ := z
    rw [hz] at hP
    intro E1 g1 w1 gTo gk
    simp only [e_cut, e_iload, e_aload, e_istore, e_astore, e_iinc, e_const, e_lconst, e_bin, e_bin0, e_un, e_ladd, e_dupi, e_dupr, e_dup2, e_pop, e_if, e_icmp, e_sw, e_sw0, e_sw1, e_get, e_put, e_ald, e_ast, e_aald, e_aast, e_copy, e_new, e_newa, e_anewa, e_min, e_abs, e_oinit, e_callI, e_callV, e_callS, e_iret, e_zret, e_lret, e_vret, e_tl1, e_tl0, e_tl2, e_tl3, z10, Bool.false_eq_true, e_argi, e_argr, e_argn, zld_c, zst_n, zst_c, zpick_n, zpick_c, List.drop_succ_cons, List.drop_zero, List.take_succ_cons, List.take_zero, List.length_cons, List.length_nil, List.reverse_cons, List.reverse_nil, List.nil_append, List.cons_append, List.append_nil, List.getElem?_cons_zero, List.getElem?_cons_succ, List.set_cons_zero, List.set_cons_succ, Nat.add_sub_cancel_left, Nat.sub_self, Nat.add_zero, Nat.zero_add, Nat.le_add_right, Nat.le_refl, true_and, and_true, va_rf, zok, Nat.add_left_cancel_iff, Nat.add_eq_left, Nat.left_eq_add, eq_self, if_true, if_false, not_false_eq_true, not_true_eq_false, false_implies, true_implies, Nat.reduceEqDiff, Nat.reduceAdd, Nat.reduceLT, Nat.reduceLeDiff, reduceIte]
    obtain ⟨hn7, f', g', h', p0, p1, p2, p3, hf', hg', hh'⟩ := id gTo
    have g1' := g1
    simp only [zTk1, zTc] at g1
    simp only [e_cut, e_iload, e_aload, e_istore, e_astore, e_iinc, e_const, e_lconst, e_bin, e_bin0, e_un, e_ladd, e_dupi, e_dupr, e_dup2, e_pop, e_if, e_icmp, e_sw, e_sw0, e_sw1, e_get, e_put, e_ald, e_ast, e_aald, e_aast, e_copy, e_new, e_newa, e_anewa, e_min, e_abs, e_oinit, e_callI, e_callV, e_callS, e_iret, e_zret, e_lret, e_vret, e_tl1, e_tl0, e_tl2, e_tl3, z10, Bool.false_eq_true, e_argi, e_argr, e_argn, zld_c, zst_n, zst_c, zpick_n, zpick_c, List.drop_succ_cons, List.drop_zero, List.take_succ_cons, List.take_zero, List.length_cons, List.length_nil, List.reverse_cons, List.reverse_nil, List.nil_append, List.cons_append, List.append_nil, List.getElem?_cons_zero, List.getElem?_cons_succ, List.set_cons_zero, List.set_cons_succ, Nat.add_sub_cancel_left, Nat.sub_self, Nat.add_zero, Nat.zero_add, Nat.le_add_right, Nat.le_refl, true_and, and_true, va_rf, zok, Nat.add_left_cancel_iff, Nat.add_eq_left, Nat.left_eq_add, eq_self, if_true, if_false, not_false_eq_true, not_true_eq_false, false_implies, true_implies, Nat.reduceEqDiff, Nat.reduceAdd, Nat.reduceLT, Nat.reduceLeDiff, reduceIte, g1, N1]
    refine ⟨len, tx, k3, zlt t, _, _, _, rfl, g1', hTb.congr (gk 2 (by omega) (by omega)), w1, p0, hN, ?_⟩
    simp only [zend] at hP
    obtain ⟨_, w2, _⟩ := ztk_b w1 ht
    by_cases q2 : (ztk len tx k3.1).2.1 = 3
    · simp only [q2, if_true] at hP ⊢
      obtain ⟨_, w3, w4, _, w5, _⟩ := ztk_b w2 ht
      intro E2 g2 p7 gk2
      simp only [e_cut, e_iload, e_aload, e_istore, e_astore, e_iinc, e_const, e_lconst, e_bin, e_bin0, e_un, e_ladd, e_dupi, e_dupr, e_dup2, e_pop, e_if, e_icmp, e_sw, e_sw0, e_sw1, e_get, e_put, e_ald, e_ast, e_aald, e_aast, e_copy, e_new, e_newa, e_anewa, e_min, e_abs, e_oinit, e_callI, e_callV, e_callS, e_iret, e_zret, e_lret, e_vret, e_tl1, e_tl0, e_tl2, e_tl3, z10, Bool.false_eq_true, e_argi, e_argr, e_argn, zld_c, zst_n, zst_c, zpick_n, zpick_c, List.drop_succ_cons, List.drop_zero, List.take_succ_cons, List.take_zero, List.length_cons, List.length_nil, List.reverse_cons, List.reverse_nil, List.nil_append, List.cons_append, List.append_nil, List.getElem?_cons_zero, List.getElem?_cons_succ, List.set_cons_zero, List.set_cons_succ, Nat.add_sub_cancel_left, Nat.sub_self, Nat.add_zero, Nat.zero_add, Nat.le_add_right, Nat.le_refl, true_and, and_true, va_rf, zok, Nat.add_left_cancel_iff, Nat.add_eq_left, Nat.left_eq_add, eq_self, if_true, if_false, not_false_eq_true, not_true_eq_false, false_implies, true_implies, Nat.reduceEqDiff, Nat.reduceAdd, Nat.reduceLT, Nat.reduceLeDiff, reduceIte]
      exact ⟨Or.inr trivial, hP E2 ⟨g2, ⟨hn7, f', g', h', by rw [p7, nI_1], (gk2 8 (by omega) (by omega)).trans p1, (gk2 9 (by omega) (by omega)).trans p2, (gk2 10 (by omega) (by omega)).trans p3, hf', hg', hh'⟩⟩ w3 w4 w5 (fun j a c => (gk2 j a (by omega)).trans (gk j a c))⟩
    · simp only [q2, if_false] at hP ⊢
      intro E2 g2 gk2
      simp only [e_cut, e_iload, e_aload, e_istore, e_astore, e_iinc, e_const, e_lconst, e_bin, e_bin0, e_un, e_ladd, e_dupi, e_dupr, e_dup2, e_pop, e_if, e_icmp, e_sw, e_sw0, e_sw1, e_get, e_put, e_ald, e_ast, e_aald, e_aast, e_copy, e_new, e_newa, e_anewa, e_min, e_abs, e_oinit, e_callI, e_callV, e_callS, e_iret, e_zret, e_lret, e_vret, e_tl1, e_tl0, e_tl2, e_tl3, z10, Bool.false_eq_true, e_argi, e_argr, e_argn, zld_c, zst_n, zst_c, zpick_n, zpick_c, List.drop_succ_cons, List.drop_zero, List.take_succ_cons, List.take_zero, List.length_cons, List.length_nil, List.reverse_cons, List.reverse_nil, List.nil_append, List.cons_append, List.append_nil, List.getElem?_cons_zero, List.getElem?_cons_succ, List.set_cons_zero, List.set_cons_succ, Nat.add_sub_cancel_left, Nat.sub_self, Nat.add_zero, Nat.zero_add, Nat.le_add_right, Nat.le_refl, true_and, and_true, va_rf, zok, Nat.add_left_cancel_iff, Nat.add_eq_left, Nat.left_eq_add, eq_self, if_true, if_false, not_false_eq_true, not_true_eq_false, false_implies, true_implies, Nat.reduceEqDiff, Nat.reduceAdd, Nat.reduceLT, Nat.reduceLeDiff, reduceIte]
      exact ⟨Or.inl trivial, hP E2 _ _ rfl g2 (gTo.sh.congr (fun j a c => gk2 j (by omega))) (fun j a c => (gk2 j a).trans (gk j a c))⟩
set_option maxRecDepth 20000 in
theorem f_X3_readItem_34 : Cond.fieldLink RX3 34 (TX3 3).1 (TX3 3).2.1 (TX3 3).2.2.1 ∈ wsX3_readItem := by decide +kernel
set_option maxRecDepth 20000 in
theorem k_X3_readItem_3 : ∀ w ∈ u_ws RX3 TX3 7, w ∈ wsX3_readItem := fun _ h => List.mem_cons_of_mem _ (List.mem_append_left _ (List.mem_append_right _ h))
set_option maxRecDepth 20000 in
theorem f_X3_readItem_44 : Cond.fieldLink RX3 44 (TX3 5).1 (TX3 5).2.1 (TX3 5).2.2.1 ∈ wsX3_readItem := by decide +kernel
set_option maxRecDepth 20000 in
theorem f_X3_readItem_22 : Cond.fieldLink RX3 22 (TX3 6).1 (TX3 6).2.1 (TX3 6).2.2.1 ∈ wsX3_readItem := by decide +kernel
set_option maxRecDepth 20000 in
theorem f_X3_readItem_47 : Cond.fieldLink RX3 47 (TX4 0).1 (TX4 0).2.1 (TX4 0).2.2.1 ∈ wsX3_readItem := by decide +kernel
set_option maxRecDepth 20000 in
theorem k_X3_readItem_4 : ∀ w ∈ u_ws RX4 TX4 6, w ∈ wsX3_readItem := fun _ h => List.mem_cons_of_mem _ (List.mem_append_right _ h)
set_option maxRecDepth 100000 in
set_option maxHeartbeats 4000000 in
theorem S_X3_readItem_98 {p : Program} {e : Env} {s : State} {m : MethodId} {args : Array Value} {below : List Frame} {meth : Method} {c : Code} {D : va_G} {cy : zY} {b n0 : Nat} {P : zPo} (la : Launch) (X : zX p la e (rm_X3_readItem) s m args below meth c 2 D cy b n0 cX3_readItem wsX3_readItem RX3) (hr : meth.sig.returnType = (some .boolean)) (h_X3_comesEnd : zMet la yX3_comesEnd wsX3_comesEnd rm_X3_comesEnd 0 0 sp_X3_comesEnd) (h_X3_readLine : zMet la yX3_readLine wsX3_readLine rm_X3_readLine 0 0 sp_X3_readLine) (h_X3_readRider : zMet la yX3_readRider wsX3_readRider rm_X3_readRider 0 0 sp_X3_readRider) : zS p la e (rm_X3_readItem) s m args below meth c (MQ below (zQ D b (n0 + 0) P) args s 0 0 (fun q => b ≤ q)) 2 D b n0 98 (B_X3_readItem_98 b n0 cy P (zAt p la e (rm_X3_readItem) s m args below meth c (MQ below (zQ D b (n0 + 0) P) args s 0 0 (fun q => b ≤ q)) 2 D b n0)) := by
  unfold B_X3_readItem_98
  exact (s_iconst X dX3_readItem_98 (by decide) (s_zret X dX3_readItem_99 hr))
set_option maxRecDepth 100000 in
set_option maxHeartbeats 4000000 in
theorem S_X3_readItem_97 {p : Program} {e : Env} {s : State} {m : MethodId} {args : Array Value} {below : List Frame} {meth : Method} {c : Code} {D : va_G} {cy : zY} {b n0 : Nat} {P : zPo} (la : Launch) (X : zX p la e (rm_X3_readItem) s m args below meth c 2 D cy b n0 cX3_readItem wsX3_readItem RX3) (hr : meth.sig.returnType = (some .boolean)) (h_X3_comesEnd : zMet la yX3_comesEnd wsX3_comesEnd rm_X3_comesEnd 0 0 sp_X3_comesEnd) (h_X3_readLine : zMet la yX3_readLine wsX3_readLine rm_X3_readLine 0 0 sp_X3_readLine) (h_X3_readRider : zMet la yX3_readRider wsX3_readRider rm_X3_readRider 0 0 sp_X3_readRider) : zS p la e (rm_X3_readItem) s m args below meth c (MQ below (zQ D b (n0 + 0) P) args s 0 0 (fun q => b ≤ q)) 2 D b n0 97 (B_X3_readItem_97 b n0 cy P (zAt p la e (rm_X3_readItem) s m args below meth c (MQ below (zQ D b (n0 + 0) P) args s 0 0 (fun q => b ≤ q)) 2 D b n0)) := by
  unfold B_X3_readItem_97
  exact (s_zret X dX3_readItem_97 hr)
set_option maxRecDepth 100000 in
set_option maxHeartbeats 4000000 in
theorem S_X3_readItem_96 {p : Program} {e : Env} {s : State} {m : MethodId} {args : Array Value} {below : List Frame} {meth : Method} {c : Code} {D : va_G} {cy : zY} {b n0 : Nat} {P : zPo} (la : Launch) (X : zX p la e (rm_X3_readItem) s m args below meth c 2 D cy b n0 cX3_readItem wsX3_readItem RX3) (hr : meth.sig.returnType = (some .boolean)) (h_X3_comesEnd : zMet la yX3_comesEnd wsX3_comesEnd rm_X3_comesEnd 0 0 sp_X3_comesEnd) (h_X3_readLine : zMet la yX3_readLine wsX3_readLine rm_X3_readLine 0 0 sp_X3_readLine) (h_X3_readRider : zMet la yX3_readRider wsX3_readRider rm_X3_readRider 0 0 sp_X3_readRider) : zS p la e (rm_X3_readItem) s m args below meth c (MQ below (zQ D b (n0 + 0) P) args s 0 0 (fun q => b ≤ q)) 2 D b n0 96 (B_X3_readItem_96 b n0 cy P (zAt p la e (rm_X3_readItem) s m args below meth c (MQ below (zQ D b (n0 + 0) P) args s 0 0 (fun q => b ≤ q)) 2 D b n0)) := by
  unfold B_X3_readItem_96
  exact (s_iconst X dX3_readItem_96 (by decide) (S_X3_readItem_97 la X hr h_X3_comesEnd h_X3_readLine h_X3_readRider))
set_option maxRecDepth 100000 in
set_option maxHeartbeats 4000000 in
theorem S_X3_readItem_52 {p : Program} {e : Env} {s : State} {m : MethodId} {args : Array Value} {below : List Frame} {meth : Method} {c : Code} {D : va_G} {cy : zY} {b n0 : Nat} {P : zPo} (la : Launch) (X : zX p la e (rm_X3_readItem) s m args below meth c 2 D cy b n0 cX3_readItem wsX3_readItem RX3) (hr : meth.sig.returnType = (some .boolean)) (h_X3_comesEnd : zMet la yX3_comesEnd wsX3_comesEnd rm_X3_comesEnd 0 0 sp_X3_comesEnd) (h_X3_readLine : zMet la yX3_readLine wsX3_readLine rm_X3_readLine 0 0 sp_X3_readLine) (h_X3_readRider : zMet la yX3_readRider wsX3_readRider rm_X3_readRider 0 0 sp_X3_readRider) : zS p la e (rm_X3_readItem) s m args below meth c (MQ below (zQ D b (n0 + 0) P) args s 0 0 (fun q => b ≤ q)) 2 D b n0 52 (B_X3_readItem_52 b n0 cy P (zAt p la e (rm_X3_readItem) s m args below meth c (MQ below (zQ D b (n0 + 0) P) args s 0 0 (fun q => b ≤ q)) 2 D b n0)) := by
  unfold B_X3_readItem_52
  exact (s_aload_n X dX3_readItem_52 rfl (s_get X dX3_readItem_53 rfl k_X3_readItem_3 (by decide) f_X3_readItem_34 (s_iconst X dX3_readItem_56 (by decide) (s_icmp_ne X dX3_readItem_57 (by decide) (S_X3_readItem_98 la X hr h_X3_comesEnd h_X3_readLine h_X3_readRider) (s_aload_n X dX3_readItem_60 rfl (s_get X dX3_readItem_61 rfl k_X3_readItem_3 (by decide) f_X3_readItem_44 (s_bipush X dX3_readItem_64 (by decide) (s_icmp_ne X dX3_readItem_66 (by decide) (S_X3_readItem_98 la X hr h_X3_comesEnd h_X3_readLine h_X3_readRider) (s_aload_n X dX3_readItem_69 rfl (s_get X dX3_readItem_70 rfl k_X3_readItem_3 (by decide) f_X3_readItem_22 (s_if_ne X dX3_readItem_73 (by decide) (S_X3_readItem_98 la X hr h_X3_comesEnd h_X3_readLine h_X3_readRider) (s_aload_n X dX3_readItem_76 rfl (s_aload_n X dX3_readItem_77 rfl (s_callV X h_X3_readLine dX3_readItem_78 rfl gX3_readItem_X3_readLine rfl rfl rfl (by decide +kernel) ⟨by decide, by decide⟩ (s_if_eq X dX3_readItem_81 (by decide) (S_X3_readItem_96 la X hr h_X3_comesEnd h_X3_readLine h_X3_readRider) (s_aload_n X dX3_readItem_84 rfl (s_aload_n X dX3_readItem_85 rfl (s_callV X h_X3_comesEnd dX3_readItem_86 rfl gX3_readItem_X3_comesEnd rfl rfl rfl (by decide +kernel) ⟨by decide, by decide⟩ (s_if_eq X dX3_readItem_89 (by decide) (S_X3_readItem_96 la X hr h_X3_comesEnd h_X3_readLine h_X3_readRider) (s_iconst X dX3_readItem_92 (by decide) (s_goto X dX3_readItem_93 (by decide) (S_X3_readItem_97 la X hr h_X3_comesEnd h_X3_readLine h_X3_readRider))))))))))))))))))))))
set_option maxRecDepth 100000 in
set_option maxHeartbeats 4000000 in
theorem S_X3_readItem_51 {p : Program} {e : Env} {s : State} {m : MethodId} {args : Array Value} {below : List Frame} {meth : Method} {c : Code} {D : va_G} {cy : zY} {b n0 : Nat} {P : zPo} (la : Launch) (X : zX p la e (rm_X3_readItem) s m args below meth c 2 D cy b n0 cX3_readItem wsX3_readItem RX3) (hr : meth.sig.returnType = (some .boolean)) (h_X3_comesEnd : zMet la yX3_comesEnd wsX3_comesEnd rm_X3_comesEnd 0 0 sp_X3_comesEnd) (h_X3_readLine : zMet la yX3_readLine wsX3_readLine rm_X3_readLine 0 0 sp_X3_readLine) (h_X3_readRider : zMet la yX3_readRider wsX3_readRider rm_X3_readRider 0 0 sp_X3_readRider) : zS p la e (rm_X3_readItem) s m args below meth c (MQ below (zQ D b (n0 + 0) P) args s 0 0 (fun q => b ≤ q)) 2 D b n0 51 (B_X3_readItem_51 b n0 cy P (zAt p la e (rm_X3_readItem) s m args below meth c (MQ below (zQ D b (n0 + 0) P) args s 0 0 (fun q => b ≤ q)) 2 D b n0)) := by
  unfold B_X3_readItem_51
  exact (s_zret X dX3_readItem_51 hr)
set_option maxRecDepth 100000 in
set_option maxHeartbeats 4000000 in
theorem S_X3_readItem_50 {p : Program} {e : Env} {s : State} {m : MethodId} {args : Array Value} {below : List Frame} {meth : Method} {c : Code} {D : va_G} {cy : zY} {b n0 : Nat} {P : zPo} (la : Launch) (X : zX p la e (rm_X3_readItem) s m args below meth c 2 D cy b n0 cX3_readItem wsX3_readItem RX3) (hr : meth.sig.returnType = (some .boolean)) (h_X3_comesEnd : zMet la yX3_comesEnd wsX3_comesEnd rm_X3_comesEnd 0 0 sp_X3_comesEnd) (h_X3_readLine : zMet la yX3_readLine wsX3_readLine rm_X3_readLine 0 0 sp_X3_readLine) (h_X3_readRider : zMet la yX3_readRider wsX3_readRider rm_X3_readRider 0 0 sp_X3_readRider) : zS p la e (rm_X3_readItem) s m args below meth c (MQ below (zQ D b (n0 + 0) P) args s 0 0 (fun q => b ≤ q)) 2 D b n0 50 (B_X3_readItem_50 b n0 cy P (zAt p la e (rm_X3_readItem) s m args below meth c (MQ below (zQ D b (n0 + 0) P) args s 0 0 (fun q => b ≤ q)) 2 D b n0)) := by
  unfold B_X3_readItem_50
  exact (s_iconst X dX3_readItem_50 (by decide) (S_X3_readItem_51 la X hr h_X3_comesEnd h_X3_readLine h_X3_readRider))
set_option maxRecDepth 100000 in
set_option maxHeartbeats 4000000 in
theorem S_X3_readItem_0 {p : Program} {e : Env} {s : State} {m : MethodId} {args : Array Value} {below : List Frame} {meth : Method} {c : Code} {D : va_G} {cy : zY} {b n0 : Nat} {P : zPo} (la : Launch) (X : zX p la e (rm_X3_readItem) s m args below meth c 2 D cy b n0 cX3_readItem wsX3_readItem RX3) (hr : meth.sig.returnType = (some .boolean)) (h_X3_comesEnd : zMet la yX3_comesEnd wsX3_comesEnd rm_X3_comesEnd 0 0 sp_X3_comesEnd) (h_X3_readLine : zMet la yX3_readLine wsX3_readLine rm_X3_readLine 0 0 sp_X3_readLine) (h_X3_readRider : zMet la yX3_readRider wsX3_readRider rm_X3_readRider 0 0 sp_X3_readRider) : zS p la e (rm_X3_readItem) s m args below meth c (MQ below (zQ D b (n0 + 0) P) args s 0 0 (fun q => b ≤ q)) 2 D b n0 0 (B_X3_readItem_0 b n0 cy P (zAt p la e (rm_X3_readItem) s m args below meth c (MQ below (zQ D b (n0 + 0) P) args s 0 0 (fun q => b ≤ q)) 2 D b n0)) := by
  unfold B_X3_readItem_0
  exact (s_aload_n X dX3_readItem_0 rfl (s_get X dX3_readItem_1 rfl k_X3_readItem_3 (by decide) f_X3_readItem_34 (s_iconst X dX3_readItem_4 (by decide) (s_icmp_ne X dX3_readItem_5 (by decide) (S_X3_readItem_52 la X hr h_X3_comesEnd h_X3_readLine h_X3_readRider) (s_aload_n X dX3_readItem_8 rfl (s_get X dX3_readItem_9 rfl k_X3_readItem_3 (by decide) f_X3_readItem_44 (s_bipush X dX3_readItem_12 (by decide) (s_icmp_ne X dX3_readItem_14 (by decide) (S_X3_readItem_52 la X hr h_X3_comesEnd h_X3_readLine h_X3_readRider) (s_aload_n X dX3_readItem_17 rfl (s_get X dX3_readItem_18 rfl k_X3_readItem_4 (by decide) f_X3_readItem_47 (s_bipush X dX3_readItem_21 (by decide) (s_icmp_ge X dX3_readItem_23 (by decide) (S_X3_readItem_52 la X hr h_X3_comesEnd h_X3_readLine h_X3_readRider) (s_aload_n X dX3_readItem_26 rfl (s_aload_n X dX3_readItem_27 rfl (s_aload_n X dX3_readItem_28 rfl (s_get X dX3_readItem_29 rfl k_X3_readItem_4 (by decide) f_X3_readItem_47 (s_callV X h_X3_readRider dX3_readItem_32 rfl gX3_readItem_X3_readRider rfl rfl rfl (by decide +kernel) ⟨by decide, by decide⟩ (s_if_eq X dX3_readItem_35 (by decide) (S_X3_readItem_50 la X hr h_X3_comesEnd h_X3_readLine h_X3_readRider) (s_aload_n X dX3_readItem_38 rfl (s_aload_n X dX3_readItem_39 rfl (s_callV X h_X3_comesEnd dX3_readItem_40 rfl gX3_readItem_X3_comesEnd rfl rfl rfl (by decide +kernel) ⟨by decide, by decide⟩ (s_if_eq X dX3_readItem_43 (by decide) (S_X3_readItem_50 la X hr h_X3_comesEnd h_X3_readLine h_X3_readRider) (s_iconst X dX3_readItem_46 (by decide) (s_goto X dX3_readItem_47 (by decide) (S_X3_readItem_51 la X hr h_X3_comesEnd h_X3_readLine h_X3_readRider)))))))))))))))))))))))))
theorem w_X3_readItem (la : Launch) (h_X3_comesEnd : zMet la yX3_comesEnd wsX3_comesEnd rm_X3_comesEnd 0 0 sp_X3_comesEnd) (h_X3_readLine : zMet la yX3_readLine wsX3_readLine rm_X3_readLine 0 0 sp_X3_readLine) (h_X3_readRider : zMet la yX3_readRider wsX3_readRider rm_X3_readRider 0 0 sp_X3_readRider) (sp : zSp) (vc : zVC_X3_readItem sp) : zMet la yX3_readItem wsX3_readItem (rm_X3_readItem) 0 0 sp :=
  z_of (cc := cX3_readItem) (maxL := 2) (ret := (some .boolean)) (by decide +kernel) rfl (fun p e s m args below meth c D cy b n as E P hsp X hr hin => by
    obtain ⟨h1, h2⟩ := vc b cy n as E P (zAt p la e (rm_X3_readItem) s m args below meth c (MQ below (zQ D b (n + 0) P) args s 0 0 (fun q => b ≤ q)) 2 D b n) hsp
    exact ⟨h1, S_X3_readItem_0 la X hr h_X3_comesEnd h_X3_readLine h_X3_readRider _ _ _ _ _ h2⟩)

theorem m_X3_readItem (la : Launch) : zMet la yX3_readItem wsX3_readItem rm_X3_readItem 0 0 sp_X3_readItem := w_X3_readItem la (m_X3_comesEnd la) (m_X3_readLine la) (m_X3_readRider la) _ vc_X3_readItem
def sp_X3_readInto : zSp := fun b cy as N E P => ∃ T : zT, as = [.ref (b + 1), .ref (b + 7)] ∧ zTx b cy E T ∧ zToS b cy E 7 ∧ 11 ≤ N ∧ (match zparse T.1 T.2 with
  | .inl s => ∀ E', zTx b cy E' T → zToS b cy E' 7 → (∀ j, j ≠ 1 → (j < 7 ∨ 10 < j) → E' j = E j) → P (some (.int (nI s))) E'
  | .inr d => ∀ E', zTx b cy E' T → zDr b cy E' d → (∀ j, j ≠ 1 → (j < 7 ∨ 10 < j) → E' j = E j) → P (some (.int (-1))) E')
abbrev rm_X3_readInto : Room := { frames := 6, cells := 0, slots := 0, locals := 149 }
def B_X3_readInto_52 (b n0 : Nat) (cy : zY) (P : zPo) (A : Nat → zC) : zC :=
  z_const (-1) (z_iret 0 0 P)
def B_X3_readInto_20 (b n0 : Nat) (cy : zY) (P : zPo) (A : Nat → zC) : zC :=
  z_iload 2 (z_const (120) (z_icmp (fun x y => y ≤ x) (B_X3_readInto_52 b n0 cy P A) (z_aload 0 (z_get b n0 3 3 (z_if (fun x => x = 0) (B_X3_readInto_52 b n0 cy P A) (z_aload 0 (z_aload 1 (z_callV b n0 0 0 cy 3 1 0 0 sp_X3_readItem (z_if (fun x => x = 0) (z_aload 0 (z_get b n0 3 4 (z_iret 0 0 P))) (z_iinc 2 (1) (z_cut [0, 1, 2] (A 20))))))))))))
def B_X3_readInto_0 (b n0 : Nat) (cy : zY) (P : zPo) (A : Nat → zC) : zC :=
  z_aload 0 (z_const (0) (z_put b n0 3 2 0 (z_aload 0 (z_const (0) (z_put b n0 3 6 3 (z_aload 1 (z_callV b n0 0 0 cy 4 0 0 0 sp_X4_forgetAll (z_aload 0 (z_callV b n0 0 0 cy 3 0 0 0 sp_X3_advance (z_const (0) (z_istore 2 (z_cut [0, 1, 2] (A 20)))))))))))))
def zVC_X3_readInto (sp : zSp) : Prop := ∀ (b : Nat) (cy : zY) (n : Nat) (as : List Value) (E : zE) (P : zPo) (A : Nat → zC), (∀ l st k u E, B_X3_readInto_20 b n cy P A l st k u E → A 20 l st k u E) → sp b cy as n E P → zgood as 3 ∧ B_X3_readInto_0 b n cy P A (lv_args 0 as) [] 0 0 E

set_option maxRecDepth 100000 in
set_option maxHeartbeats 4000000 in
theorem vc_X3_readInto : zVC_X3_readInto sp_X3_readInto := by
  intro b cy N as E P A hA hsp
  obtain ⟨⟨len, tx⟩, rfl, hTx, hS, hN, hP⟩ := hsp
  refine ⟨⟨Nat.le_of_ble_eq_true rfl, zg1 rfl (zg1 rfl (zg0))⟩, ?_⟩
  obtain ⟨hl, s2, s3, s4, s5, s6, xf, x1, x2, x3⟩ := id hTx
  replace hl : len ≤ 120 := hl
  replace x3 : ∀ j, j < len → tx j < 256 ∧ xf j = nI (tx j) := x3
  have hTb : zTb cy E len tx := ⟨hl, xf, x2, x3⟩
  have ht := fun j hj => (x3 j hj).1
  simp only [zparse] at hP
  have N1 : 1 < N := by omega
  have N7 : 7 < N := by omega
  have loop : ∀ (fu i : Nat) (k : zTk) (d : zTd) (E1 : zE), fu + i = 120 → zRs b cy E1 len k d → k.1 ≤ len → k.2.1 ≤ 4 → k.2.2.2 < 256 → (∀ j, j ≠ 1 → (j < 7 ∨ 10 < j) → E1 j = E j) → (match zread len tx fu k d with
  | .inl s => ∀ E', zTx b cy E' (len, tx) → zToS b cy E' 7 → (∀ j, j ≠ 1 → (j < 7 ∨ 10 < j) → E' j = E j) → P (some (.int (nI s))) E'
  | .inr d => ∀ E', zTx b cy E' (len, tx) → zDr b cy E' d → (∀ j, j ≠ 1 → (j < 7 ∨ 10 < j) → E' j = E j) → P (some (.int (-1))) E') → A 20 [(0, .ref (b + 1)), (1, .ref (b + 7)), (2, .int (nI i))] [] 0 0 E1 := by
    intro fu
    induction fu with
    | zero =>
      intro i k d E1 hd hR hk hs hv gk hP
      obtain rfl : i = 120 := by omega
      apply hA
      have cle : (120 : Int32) ≤ nI 120 := by decide
      obtain ⟨n, seat, lo, la, line, t, items⟩ := d
      obtain ⟨g1, gTo⟩ := hR
      simp only [B_X3_readInto_0, B_X3_readInto_20, B_X3_readInto_52, e_cut, e_iload, e_aload, e_istore, e_astore, e_iinc, e_const, e_lconst, e_bin, e_bin0, e_un, e_ladd, e_dupi, e_dupr, e_dup2, e_pop, e_if, e_icmp, e_sw, e_sw0, e_sw1, e_get, e_put, e_ald, e_ast, e_aald, e_aast, e_copy, e_new, e_newa, e_anewa, e_min, e_abs, e_oinit, e_callI, e_callV, e_callS, e_iret, e_zret, e_lret, e_vret, e_tl1, e_tl0, e_tl2, e_tl3, z10, Bool.false_eq_true, e_argi, e_argr, e_argn, zld_c, zst_n, zst_c, zpick_n, zpick_c, List.drop_succ_cons, List.drop_zero, List.take_succ_cons, List.take_zero, List.length_cons, List.length_nil, List.reverse_cons, List.reverse_nil, List.nil_append, List.cons_append, List.append_nil, List.getElem?_cons_zero, List.getElem?_cons_succ, List.set_cons_zero, List.set_cons_succ, Nat.add_sub_cancel_left, Nat.sub_self, Nat.add_zero, Nat.zero_add, Nat.le_add_right, Nat.le_refl, true_and, and_true, va_rf, zok, Nat.add_left_cancel_iff, Nat.add_eq_left, Nat.left_eq_add, eq_self, if_true, if_false, not_false_eq_true, not_true_eq_false, false_implies, true_implies, Nat.reduceEqDiff, Nat.reduceAdd, Nat.reduceLT, Nat.reduceLeDiff, reduceIte, cle]
      exact hP E1 ⟨hl, _, _, _, _, _, xf, g1, (gk 2 (by omega) (by omega)).trans x2, x3⟩ gTo gk
    | succ fu ih =>
      intro i k d E1 hd hR hk hs hv gk hP
      apply hA
      have cle : ¬ (120 : Int32) ≤ nI i := nI_ge (b := 120) (show i < 120 by omega) (by decide)
      have hTb1 := hTb.congr (E' := E1) (gk 2 (by omega) (by omega))
      obtain ⟨n, seat, lo, la, line, t, items⟩ := d
      obtain ⟨g1, gTo⟩ := id hR
      have gTx : zTx b cy E1 (len, tx) := ⟨hl, _, _, _, _, _, xf, g1, (gk 2 (by omega) (by omega)).trans x2, x3⟩
      obtain ⟨_, _, _, _, d0, _⟩ := id gTo
      have k0 : (nI k.2.1 = 0) = (k.2.1 = 0) := nI_lit (n := 0) (x := 0) rfl (by omega) (by omega)
      simp only [zTk1, zTc] at g1
      simp only [B_X3_readInto_0, B_X3_readInto_20, B_X3_readInto_52, e_cut, e_iload, e_aload, e_istore, e_astore, e_iinc, e_const, e_lconst, e_bin, e_bin0, e_un, e_ladd, e_dupi, e_dupr, e_dup2, e_pop, e_if, e_icmp, e_sw, e_sw0, e_sw1, e_get, e_put, e_ald, e_ast, e_aald, e_aast, e_copy, e_new, e_newa, e_anewa, e_min, e_abs, e_oinit, e_callI, e_callV, e_callS, e_iret, e_zret, e_lret, e_vret, e_tl1, e_tl0, e_tl2, e_tl3, z10, Bool.false_eq_true, e_argi, e_argr, e_argn, zld_c, zst_n, zst_c, zpick_n, zpick_c, List.drop_succ_cons, List.drop_zero, List.take_succ_cons, List.take_zero, List.length_cons, List.length_nil, List.reverse_cons, List.reverse_nil, List.nil_append, List.cons_append, List.append_nil, List.getElem?_cons_zero, List.getElem?_cons_succ, List.set_cons_zero, List.set_cons_succ, Nat.add_sub_cancel_left, Nat.sub_self, Nat.add_zero, Nat.zero_add, Nat.le_add_right, Nat.le_refl, true_and, and_true, va_rf, zok, Nat.add_left_cancel_iff, Nat.add_eq_left, Nat.left_eq_add, eq_self, if_true, if_false, not_false_eq_true, not_true_eq_false, false_implies, true_implies, Nat.reduceEqDiff, Nat.reduceAdd, Nat.reduceLT, Nat.reduceLeDiff, reduceIte, cle, g1, N1, k0]
      simp only [zread] at hP
      refine ⟨fun c1 => ?_, fun c1 => ?_⟩
      · rw [if_pos c1] at hP
        exact hP E1 gTx gTo gk
      · rw [if_neg c1] at hP
        refine ⟨len, tx, k, (n, seat, lo, la, line, t, items), rfl, hR, hTb1, hk, hs, hv, hN, ?_⟩
        cases hz : zitem len tx k (n, seat, lo, la, line, t, items) with
        | inl s =>
          rw [hz] at hP
          intro E2 k' s6' hk' g2 gS gk2
          simp only [zTk1, zTc] at g2
          simp only [e_cut, e_iload, e_aload, e_istore, e_astore, e_iinc, e_const, e_lconst, e_bin, e_bin0, e_un, e_ladd, e_dupi, e_dupr, e_dup2, e_pop, e_if, e_icmp, e_sw, e_sw0, e_sw1, e_get, e_put, e_ald, e_ast, e_aald, e_aast, e_copy, e_new, e_newa, e_anewa, e_min, e_abs, e_oinit, e_callI, e_callV, e_callS, e_iret, e_zret, e_lret, e_vret, e_tl1, e_tl0, e_tl2, e_tl3, z10, Bool.false_eq_true, e_argi, e_argr, e_argn, zld_c, zst_n, zst_c, zpick_n, zpick_c, List.drop_succ_cons, List.drop_zero, List.take_succ_cons, List.take_zero, List.length_cons, List.length_nil, List.reverse_cons, List.reverse_nil, List.nil_append, List.cons_append, List.append_nil, List.getElem?_cons_zero, List.getElem?_cons_succ, List.set_cons_zero, List.set_cons_succ, Nat.add_sub_cancel_left, Nat.sub_self, Nat.add_zero, Nat.zero_add, Nat.le_add_right, Nat.le_refl, true_and, and_true, va_rf, zok, Nat.add_left_cancel_iff, Nat.add_eq_left, Nat.left_eq_add, eq_self, if_true, if_false, not_false_eq_true, not_true_eq_false, false_implies, true_implies, Nat.reduceEqDiff, Nat.reduceAdd, Nat.reduceLT, Nat.reduceLeDiff, reduceIte, g2, N1]
          subst hk'
          exact hP E2 ⟨hl, _, _, _, _, _, xf, g2, (gk2 2 (by omega) (by omega)).trans ((gk 2 (by omega) (by omega)).trans x2), x3⟩ gS (fun j a c => (gk2 j a c).trans (gk j a c))
        | inr z =>
          obtain ⟨k', d'⟩ := z
          rw [hz] at hP
          intro E2 hR2 w1 w2 w3 gk2
          simp only [e_cut, e_iload, e_aload, e_istore, e_astore, e_iinc, e_const, e_lconst, e_bin, e_bin0, e_un, e_ladd, e_dupi, e_dupr, e_dup2, e_pop, e_if, e_icmp, e_sw, e_sw0, e_sw1, e_get, e_put, e_ald, e_ast, e_aald, e_aast, e_copy, e_new, e_newa, e_anewa, e_min, e_abs, e_oinit, e_callI, e_callV, e_callS, e_iret, e_zret, e_lret, e_vret, e_tl1, e_tl0, e_tl2, e_tl3, z10, Bool.false_eq_true, e_argi, e_argr, e_argn, zld_c, zst_n, zst_c, zpick_n, zpick_c, List.drop_succ_cons, List.drop_zero, List.take_succ_cons, List.take_zero, List.length_cons, List.length_nil, List.reverse_cons, List.reverse_nil, List.nil_append, List.cons_append, List.append_nil, List.getElem?_cons_zero, List.getElem?_cons_succ, List.set_cons_zero, List.set_cons_succ, Nat.add_sub_cancel_left, Nat.sub_self, Nat.add_zero, Nat.zero_add, Nat.le_add_right, Nat.le_refl, true_and, and_true, va_rf, zok, Nat.add_left_cancel_iff, Nat.add_eq_left, Nat.left_eq_add, eq_self, if_true, if_false, not_false_eq_true, not_true_eq_false, false_implies, true_implies, Nat.reduceEqDiff, Nat.reduceAdd, Nat.reduceLT, Nat.reduceLeDiff, reduceIte, nI_1]
          exact ih (i + 1) k' d' E2 (by omega) hR2 w1 w2 w3 (fun j a c => (gk2 j a c).trans (gk j a c)) hP
  have e17 : ((1 : Nat) = 7) = False := by simp
  have d7 : ∃ c fs, E 7 = .inr (c, fs) ∧ c = 4 := by obtain ⟨_, _, _, _, _, _, h0, _⟩ := id hS; exact ⟨_, _, h0, rfl⟩
  obtain ⟨c7, fs7, d7, rfl⟩ := d7
  have e71 : ((7 : Nat) = 1) = False := by simp
  simp only [B_X3_readInto_0, B_X3_readInto_20, B_X3_readInto_52, e_cut, e_iload, e_aload, e_istore, e_astore, e_iinc, e_const, e_lconst, e_bin, e_bin0, e_un, e_ladd, e_dupi, e_dupr, e_dup2, e_pop, e_if, e_icmp, e_sw, e_sw0, e_sw1, e_get, e_put, e_ald, e_ast, e_aald, e_aast, e_copy, e_new, e_newa, e_anewa, e_min, e_abs, e_oinit, e_callI, e_callV, e_callS, e_iret, e_zret, e_lret, e_vret, e_tl1, e_tl0, e_tl2, e_tl3, z10, Bool.false_eq_true, e_argi, e_argr, e_argn, zld_c, zst_n, zst_c, zpick_n, zpick_c, List.drop_succ_cons, List.drop_zero, List.take_succ_cons, List.take_zero, List.length_cons, List.length_nil, List.reverse_cons, List.reverse_nil, List.nil_append, List.cons_append, List.append_nil, List.getElem?_cons_zero, List.getElem?_cons_succ, List.set_cons_zero, List.set_cons_succ, Nat.add_sub_cancel_left, Nat.sub_self, Nat.add_zero, Nat.zero_add, Nat.le_add_right, Nat.le_refl, true_and, and_true, va_rf, zok, Nat.add_left_cancel_iff, Nat.add_eq_left, Nat.left_eq_add, eq_self, if_true, if_false, not_false_eq_true, not_true_eq_false, false_implies, true_implies, Nat.reduceEqDiff, Nat.reduceAdd, Nat.reduceLT, Nat.reduceLeDiff, reduceIte, x1, N1, N7, e_up, d7, e71]
  refine ⟨Or.inl trivial, 7, rfl, hS.congr (fun j a c => by simp only [e_up]; rw [if_neg (by omega), if_neg (by omega)]), by omega, fun E1 gTo gk => ?_⟩
  have g1 := (gk 1 (by omega)).trans u_eq
  simp only [e_cut, e_iload, e_aload, e_istore, e_astore, e_iinc, e_const, e_lconst, e_bin, e_bin0, e_un, e_ladd, e_dupi, e_dupr, e_dup2, e_pop, e_if, e_icmp, e_sw, e_sw0, e_sw1, e_get, e_put, e_ald, e_ast, e_aald, e_aast, e_copy, e_new, e_newa, e_anewa, e_min, e_abs, e_oinit, e_callI, e_callV, e_callS, e_iret, e_zret, e_lret, e_vret, e_tl1, e_tl0, e_tl2, e_tl3, z10, Bool.false_eq_true, e_argi, e_argr, e_argn, zld_c, zst_n, zst_c, zpick_n, zpick_c, List.drop_succ_cons, List.drop_zero, List.take_succ_cons, List.take_zero, List.length_cons, List.length_nil, List.reverse_cons, List.reverse_nil, List.nil_append, List.cons_append, List.append_nil, List.getElem?_cons_zero, List.getElem?_cons_succ, List.set_cons_zero, List.set_cons_succ, Nat.add_sub_cancel_left, Nat.sub_self, Nat.add_zero, Nat.zero_add, Nat.le_add_right, Nat.le_refl, true_and, and_true, va_rf, zok, Nat.add_left_cancel_iff, Nat.add_eq_left, Nat.left_eq_add, eq_self, if_true, if_false, not_false_eq_true, not_true_eq_false, false_implies, true_implies, Nat.reduceEqDiff, Nat.reduceAdd, Nat.reduceLT, Nat.reduceLeDiff, reduceIte, g1, N1]
  refine ⟨len, 0, tx, s3, s4, s5, 0, rfl, g1, hTb.congr ((gk 2 (by omega)).trans ((u_ne (by omega)).trans (u_ne (by omega)))), by omega, by omega, fun E2 g2 gk2 => ?_⟩
  obtain ⟨_, w1, w2, _, w3, _⟩ := ztk_b (len := len) (q := 0) (tx := tx) (by omega) ht
  simp only [e_cut, e_iload, e_aload, e_istore, e_astore, e_iinc, e_const, e_lconst, e_bin, e_bin0, e_un, e_ladd, e_dupi, e_dupr, e_dup2, e_pop, e_if, e_icmp, e_sw, e_sw0, e_sw1, e_get, e_put, e_ald, e_ast, e_aald, e_aast, e_copy, e_new, e_newa, e_anewa, e_min, e_abs, e_oinit, e_callI, e_callV, e_callS, e_iret, e_zret, e_lret, e_vret, e_tl1, e_tl0, e_tl2, e_tl3, z10, Bool.false_eq_true, e_argi, e_argr, e_argn, zld_c, zst_n, zst_c, zpick_n, zpick_c, List.drop_succ_cons, List.drop_zero, List.take_succ_cons, List.take_zero, List.length_cons, List.length_nil, List.reverse_cons, List.reverse_nil, List.nil_append, List.cons_append, List.append_nil, List.getElem?_cons_zero, List.getElem?_cons_succ, List.set_cons_zero, List.set_cons_succ, Nat.add_sub_cancel_left, Nat.sub_self, Nat.add_zero, Nat.zero_add, Nat.le_add_right, Nat.le_refl, true_and, and_true, va_rf, zok, Nat.add_left_cancel_iff, Nat.add_eq_left, Nat.left_eq_add, eq_self, if_true, if_false, not_false_eq_true, not_true_eq_false, false_implies, true_implies, Nat.reduceEqDiff, Nat.reduceAdd, Nat.reduceLT, Nat.reduceLeDiff, reduceIte]
  exact loop 120 0 (ztk len tx 0) (0, fun _ => 0, fun _ => 0, fun _ => 0, 9, false, 0) E2 rfl ⟨g2, gTo.congr (fun j a c => gk2 j (by omega))⟩ w1 w2 w3 (fun j a c => (gk2 j a).trans ((gk j (by omega)).trans ((u_ne a).trans (u_ne a)))) hP
set_option maxRecDepth 20000 in
theorem f_X3_readInto_34 : Cond.fieldLink RX3 34 (TX3 3).1 (TX3 3).2.1 (TX3 3).2.2.1 ∈ wsX3_readInto := by decide +kernel
set_option maxRecDepth 20000 in
theorem k_X3_readInto_3 : ∀ w ∈ u_ws RX3 TX3 7, w ∈ wsX3_readInto := fun _ h => List.mem_cons_of_mem _ (List.mem_append_left _ (List.mem_append_right _ h))
set_option maxRecDepth 20000 in
theorem f_X3_readInto_41 : Cond.fieldLink RX3 41 (TX3 4).1 (TX3 4).2.1 (TX3 4).2.2.1 ∈ wsX3_readInto := by decide +kernel
set_option maxRecDepth 20000 in
theorem f_X3_readInto_19 : Cond.fieldLink RX3 19 (TX3 2).1 (TX3 2).2.1 (TX3 2).2.2.1 ∈ wsX3_readInto := by decide +kernel
set_option maxRecDepth 20000 in
theorem f_X3_readInto_22 : Cond.fieldLink RX3 22 (TX3 6).1 (TX3 6).2.1 (TX3 6).2.2.1 ∈ wsX3_readInto := by decide +kernel
set_option maxRecDepth 100000 in
set_option maxHeartbeats 4000000 in
theorem S_X3_readInto_52 {p : Program} {e : Env} {s : State} {m : MethodId} {args : Array Value} {below : List Frame} {meth : Method} {c : Code} {D : va_G} {cy : zY} {b n0 : Nat} {P : zPo} (la : Launch) (X : zX p la e (rm_X3_readInto) s m args below meth c 3 D cy b n0 cX3_readInto wsX3_readInto RX3) (hr : meth.sig.returnType = (some .int)) (h_X3_advance : zMet la yX3_advance wsX3_advance rm_X3_advance 0 0 sp_X3_advance) (h_X3_readItem : zMet la yX3_readItem wsX3_readItem rm_X3_readItem 0 0 sp_X3_readItem) (h_X4_forgetAll : zMet la yX4_forgetAll wsX4_forgetAll rm_X4_forgetAll 0 0 sp_X4_forgetAll) : zS p la e (rm_X3_readInto) s m args below meth c (MQ below (zQ D b (n0 + 0) P) args s 0 0 (fun q => b ≤ q)) 3 D b n0 52 (B_X3_readInto_52 b n0 cy P (zAt p la e (rm_X3_readInto) s m args below meth c (MQ below (zQ D b (n0 + 0) P) args s 0 0 (fun q => b ≤ q)) 3 D b n0)) := by
  unfold B_X3_readInto_52
  exact (s_iconst X dX3_readInto_52 (by decide) (s_iret X dX3_readInto_53 hr))
set_option maxRecDepth 100000 in
set_option maxHeartbeats 4000000 in
theorem S_X3_readInto_20 {p : Program} {e : Env} {s : State} {m : MethodId} {args : Array Value} {below : List Frame} {meth : Method} {c : Code} {D : va_G} {cy : zY} {b n0 : Nat} {P : zPo} (la : Launch) (X : zX p la e (rm_X3_readInto) s m args below meth c 3 D cy b n0 cX3_readInto wsX3_readInto RX3) (hr : meth.sig.returnType = (some .int)) (h_X3_advance : zMet la yX3_advance wsX3_advance rm_X3_advance 0 0 sp_X3_advance) (h_X3_readItem : zMet la yX3_readItem wsX3_readItem rm_X3_readItem 0 0 sp_X3_readItem) (h_X4_forgetAll : zMet la yX4_forgetAll wsX4_forgetAll rm_X4_forgetAll 0 0 sp_X4_forgetAll) : zS p la e (rm_X3_readInto) s m args below meth c (MQ below (zQ D b (n0 + 0) P) args s 0 0 (fun q => b ≤ q)) 3 D b n0 20 (B_X3_readInto_20 b n0 cy P (zAt p la e (rm_X3_readInto) s m args below meth c (MQ below (zQ D b (n0 + 0) P) args s 0 0 (fun q => b ≤ q)) 3 D b n0)) := by
  unfold B_X3_readInto_20
  exact (s_iload_n X dX3_readInto_20 rfl (s_bipush X dX3_readInto_21 (by decide) (s_icmp_ge X dX3_readInto_23 (by decide) (S_X3_readInto_52 la X hr h_X3_advance h_X3_readItem h_X4_forgetAll) (s_aload_n X dX3_readInto_26 rfl (s_get X dX3_readInto_27 rfl k_X3_readInto_3 (by decide) f_X3_readInto_34 (s_if_eq X dX3_readInto_30 (by decide) (S_X3_readInto_52 la X hr h_X3_advance h_X3_readItem h_X4_forgetAll) (s_aload_n X dX3_readInto_33 rfl (s_aload_n X dX3_readInto_34 rfl (s_callV X h_X3_readItem dX3_readInto_35 rfl gX3_readInto_X3_readItem rfl rfl rfl (by decide +kernel) ⟨by decide, by decide⟩ (s_if_ne X dX3_readInto_38 (by decide) (s_iinc X dX3_readInto_46 (by decide) (by decide) (s_goto X dX3_readInto_49 (by decide) (s_cut (by decide) zS_at))) (s_aload_n X dX3_readInto_41 rfl (s_get X dX3_readInto_42 rfl k_X3_readInto_3 (by decide) f_X3_readInto_41 (s_iret X dX3_readInto_45 hr)))))))))))))
set_option maxRecDepth 100000 in
set_option maxHeartbeats 4000000 in
theorem S_X3_readInto_0 {p : Program} {e : Env} {s : State} {m : MethodId} {args : Array Value} {below : List Frame} {meth : Method} {c : Code} {D : va_G} {cy : zY} {b n0 : Nat} {P : zPo} (la : Launch) (X : zX p la e (rm_X3_readInto) s m args below meth c 3 D cy b n0 cX3_readInto wsX3_readInto RX3) (hr : meth.sig.returnType = (some .int)) (h_X3_advance : zMet la yX3_advance wsX3_advance rm_X3_advance 0 0 sp_X3_advance) (h_X3_readItem : zMet la yX3_readItem wsX3_readItem rm_X3_readItem 0 0 sp_X3_readItem) (h_X4_forgetAll : zMet la yX4_forgetAll wsX4_forgetAll rm_X4_forgetAll 0 0 sp_X4_forgetAll) : zS p la e (rm_X3_readInto) s m args below meth c (MQ below (zQ D b (n0 + 0) P) args s 0 0 (fun q => b ≤ q)) 3 D b n0 0 (B_X3_readInto_0 b n0 cy P (zAt p la e (rm_X3_readInto) s m args below meth c (MQ below (zQ D b (n0 + 0) P) args s 0 0 (fun q => b ≤ q)) 3 D b n0)) := by
  unfold B_X3_readInto_0
  exact (s_aload_n X dX3_readInto_0 rfl (s_iconst X dX3_readInto_1 (by decide) (s_put X dX3_readInto_2 rfl k_X3_readInto_3 tyX3_ok nmX3 (by decide) f_X3_readInto_19 rfl (tyX3_ok 2 (by decide)) zok_int (s_aload_n X dX3_readInto_5 rfl (s_iconst X dX3_readInto_6 (by decide) (s_put X dX3_readInto_7 rfl k_X3_readInto_3 tyX3_ok nmX3 (by decide) f_X3_readInto_22 rfl (tyX3_ok 6 (by decide)) zok_bool (s_aload_n X dX3_readInto_10 rfl (s_callV X h_X4_forgetAll dX3_readInto_11 rfl gX3_readInto_X4_forgetAll rfl rfl rfl (by decide +kernel) ⟨by decide, by decide⟩ (s_aload_n X dX3_readInto_14 rfl (s_callV X h_X3_advance dX3_readInto_15 rfl gX3_readInto_X3_advance rfl rfl rfl (by decide +kernel) ⟨by decide, by decide⟩ (s_iconst X dX3_readInto_18 (by decide) (s_istore_n X dX3_readInto_19 rfl (by decide) (s_cut (by decide) zS_at)))))))))))))
theorem w_X3_readInto (la : Launch) (h_X3_advance : zMet la yX3_advance wsX3_advance rm_X3_advance 0 0 sp_X3_advance) (h_X3_readItem : zMet la yX3_readItem wsX3_readItem rm_X3_readItem 0 0 sp_X3_readItem) (h_X4_forgetAll : zMet la yX4_forgetAll wsX4_forgetAll rm_X4_forgetAll 0 0 sp_X4_forgetAll) (sp : zSp) (vc : zVC_X3_readInto sp) : zMet la yX3_readInto wsX3_readInto (rm_X3_readInto) 0 0 sp :=
  z_of (cc := cX3_readInto) (maxL := 3) (ret := (some .int)) (by decide +kernel) rfl (fun p e s m args below meth c D cy b n as E P hsp X hr hin => by
    obtain ⟨h1, h2⟩ := vc b cy n as E P (zAt p la e (rm_X3_readInto) s m args below meth c (MQ below (zQ D b (n + 0) P) args s 0 0 (fun q => b ≤ q)) 3 D b n) (fun _ _ _ _ _ q => S_X3_readInto_20 la X hr h_X3_advance h_X3_readItem h_X4_forgetAll _ _ _ _ _ q) hsp
    exact ⟨h1, S_X3_readInto_0 la X hr h_X3_advance h_X3_readItem h_X4_forgetAll _ _ _ _ _ h2⟩)

theorem m_X3_readInto (la : Launch) : zMet la yX3_readInto wsX3_readInto rm_X3_readInto 0 0 sp_X3_readInto := w_X3_readInto la (m_X3_advance la) (m_X3_readItem la) (m_X4_forgetAll la) _ vc_X3_readInto

