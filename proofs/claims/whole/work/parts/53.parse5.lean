def sp_X6_takeDraft : zSp := fun b cy as N E P => ∃ (tr : Int64) (T : zT) (lt q st so va fa se : Int32) (D : zD) (d : zTd), as = [.ref (b + 159)] ∧ E 159 = zM0 b tr (nI T.1) lt q st so va fa se ∧ (∃ f : Nat → Int32, E 160 = .inl (cy 0, 120, .inl f) ∧ ∀ j, j < T.1 → f j &&& 255 = nI (T.2 j)) ∧ zDt cy E D d ∧ d.1 ≤ 6 ∧ (∃ f : Nat → Int32, E 166 = .inl (cy 1, 1719, .inl f)) ∧ (∃ f : Nat → Int32, E 167 = .inl (cy 2, 2, .inl f)) ∧ (∃ f : Nat → Int32, E 168 = .inl (cy 1, 52, .inl f)) ∧ (∃ f : Nat → Int32, E 169 = .inl (cy 1, 6, .inl f)) ∧ (∃ f : Nat → Int32, E 170 = .inl (cy 1, 6, .inl f)) ∧ (∃ f : Nat → Int32, E 171 = .inl (cy 1, 6, .inl f)) ∧ 172 ≤ N ∧ (∀ E', (∀ past S2, zMD b cy E' (T, (d.1, d.2.2.1, d.2.2.2.1, d.2.2.2.2.1), (zfresh d.1 d.2.1, 0, past), zI0, (0, S2), tr)) → (∀ j, j < 159 → E' j = E j) → P none E')
abbrev rm_X6_takeDraft : Room := { frames := 1, cells := 0, slots := 0, locals := 40 }
def B_X6_takeDraft_47 (b n0 : Nat) (cy : zY) (P : zPo) (A : Nat → zC) : zC :=
  z_iload 1 (z_const (6) (z_icmp (fun x y => y ≤ x) (z_aload 0 (z_get b n0 6 14 (z_const (1) (z_const (1) (z_aload 0 (z_get b n0 6 3 (z_const (0) (z_ald b n0 (cy 1) (z_bin (fun x y => x <<< (y &&& 31)) (z_const (1) (z_bin (fun x y => x - y) (z_ast b n0 (cy 1) (fun x => x) (z_aload 0 (z_get b n0 6 14 (z_const (52) (z_const (0) (z_ast b n0 (cy 1) (fun x => x) (z_aload 0 (z_const (0) (z_put b n0 6 20 0 (z_aload 0 (z_get b n0 6 15 (z_const (0) (z_const (0) (z_ast b n0 (cy 2) (fun x => vp_nar .boolean x) (z_aload 0 (z_get b n0 6 15 (z_const (1) (z_const (0) (z_ast b n0 (cy 2) (fun x => vp_nar .boolean x) (z_vret 0 0 P))))))))))))))))))))))))))))))) (z_aload 0 (z_get b n0 6 5 (z_iload 1 (z_aload 0 (z_get b n0 6 5 (z_const (6) (z_iload 1 (z_bin (fun x y => x + y) (z_ald b n0 (cy 1) (z_ast b n0 (cy 1) (fun x => x) (z_aload 0 (z_get b n0 6 6 (z_iload 1 (z_aload 0 (z_get b n0 6 6 (z_const (6) (z_iload 1 (z_bin (fun x y => x + y) (z_ald b n0 (cy 1) (z_ast b n0 (cy 1) (fun x => x) (z_aload 0 (z_get b n0 6 14 (z_const (4) (z_iload 1 (z_bin (fun x y => x + y) (z_aload 0 (z_get b n0 6 4 (z_iload 1 (z_ald b n0 (cy 1) (z_ast b n0 (cy 1) (fun x => x) (z_aload 0 (z_get b n0 6 14 (z_const (10) (z_iload 1 (z_bin (fun x y => x + y) (z_const (-9) (z_ast b n0 (cy 1) (fun x => x) (z_iinc 1 (1) (z_cut [0, 1] (A 47))))))))))))))))))))))))))))))))))))))))))
def B_X6_takeDraft_26 (b n0 : Nat) (cy : zY) (P : zPo) (A : Nat → zC) : zC :=
  z_iload 1 (z_const (52) (z_icmp (fun x y => y ≤ x) (z_const (0) (z_istore 1 (z_cut [0, 1] (A 47)))) (z_aload 0 (z_get b n0 6 14 (z_iload 1 (z_const (0) (z_ast b n0 (cy 1) (fun x => x) (z_iinc 1 (1) (z_cut [0, 1] (A 26))))))))))
def B_X6_takeDraft_0 (b n0 : Nat) (cy : zY) (P : zPo) (A : Nat → zC) : zC :=
  z_aload 0 (z_get b n0 6 3 (z_const (0) (z_aload 0 (z_get b n0 6 3 (z_const (1) (z_ald b n0 (cy 1) (z_ast b n0 (cy 1) (fun x => x) (z_aload 0 (z_get b n0 6 7 (z_const (0) (z_aload 0 (z_get b n0 6 7 (z_const (1) (z_ald b n0 (cy 1) (z_ast b n0 (cy 1) (fun x => x) (z_const (0) (z_istore 1 (z_cut [0, 1] (A 26)))))))))))))))))))
def zVC_X6_takeDraft (sp : zSp) : Prop := ∀ (b : Nat) (cy : zY) (n : Nat) (as : List Value) (E : zE) (P : zPo) (A : Nat → zC), (∀ l st k u E, B_X6_takeDraft_26 b n cy P A l st k u E → A 26 l st k u E) → (∀ l st k u E, B_X6_takeDraft_47 b n cy P A l st k u E → A 47 l st k u E) → sp b cy as n E P → zgood as 2 ∧ B_X6_takeDraft_0 b n cy P A (lv_args 0 as) [] 0 0 E

set_option maxRecDepth 100000 in
set_option maxHeartbeats 4000000 in
theorem vc_X6_takeDraft : zVC_X6_takeDraft sp_X6_takeDraft := by
  intro b cy N as E P A hA26 hA47 hsp
  obtain ⟨tr, T, lt, q, st, so, va, fa, se, D, ⟨n, seat, lo, la, line, t, items⟩, rfl, e0, e1, ⟨⟨r0, r1, hr0, hr1⟩, ⟨s0, s1, hs0⟩, ⟨l0, l1, hl0, hl0'⟩, ⟨w0, w1, hw0, hw0'⟩, ⟨x0, x1, hx0, hx1⟩⟩, hn6, ⟨f6, e6⟩, ⟨f7, e7⟩, e8, e9, e10, e11, hN, hP⟩ := hsp
  refine ⟨⟨Nat.le_of_ble_eq_true rfl, zg1 rfl (zg0)⟩, ?_⟩
  replace hr1 : r0 1 = nI n := hr1
  replace hs0 : ∀ j, j < n → s0 j = nI (seat j) := hs0
  replace hl0' : ∀ j, j < n → l0 (6 + j) = nI (lo j) := hl0'
  replace hw0' : ∀ j, j < n → w0 (6 + j) = nI (la j) := hw0'
  replace hx1 : x0 1 = nI line := hx1
  replace hn6 : n ≤ 6 := hn6
  replace hP : ∀ E', (∀ past S2, zMD b cy E' (T, (n, lo, la, line), (zfresh n seat, 0, past), zI0, (0, S2), tr)) → (∀ j, j < 159 → E' j = E j) → P none E' := hP
  have N0 : 159 < N := by omega
  have N1 : 161 < N := by omega
  have N2 : 162 < N := by omega
  have N3 : 163 < N := by omega
  have N4 : 164 < N := by omega
  have N5 : 165 < N := by omega
  have N6 : 166 < N := by omega
  have N7 : 167 < N := by omega
  have in0 : vp_in 0 2 := (vp_in_nI (show 0 < 2 by omega) (by omega) : vp_in (nI 0) 2)
  have cl0 : (0 : Int32).toNatClampNeg = 0 := by decide
  have in1 : vp_in 1 2 := (vp_in_nI (show 1 < 2 by omega) (by omega) : vp_in (nI 1) 2)
  have cl1 : (1 : Int32).toNatClampNeg = 1 := by decide
  have inn : ∀ k, k < 1719 → vp_in (nI k) 1719 := fun k hk => vp_in_nI hk (by omega)
  have cln : ∀ k, k < 1719 → (nI k).toNatClampNeg = k := fun k hk => nI_clamp (by omega)
  have i6 : ∀ k, k < 6 → vp_in (nI k) 6 := fun k hk => vp_in_nI hk (by omega)
  have i12 : ∀ k, k < 12 → vp_in (nI k) 12 := fun k hk => vp_in_nI hk (by omega)
  have j1 : vp_in 1 1719 := inn 1 (by omega)
  have j52 : vp_in 52 1719 := inn 52 (by omega)
  have c52 : (52 : Int32).toNatClampNeg = 52 := by decide
  have nb : vp_nar .boolean 0 = 0 := by decide
  -- what it has come to
  have fin : ∀ (E1 : zE) (g6 g3 g4 : Nat → Int32), E1 159 = zM0 b tr (nI T.1) lt q st so va fa se → E1 161 = .inl (cy 1, 2, .inl (upd r0 0 (nI n))) → E1 163 = .inl (cy 1, 12, .inl g3) → E1 164 = .inl (cy 1, 12, .inl g4) → E1 165 = .inl (cy 1, 2, .inl (upd x0 0 (nI line))) → E1 166 = .inl (cy 1, 1719, .inl g6) → (∀ j, j < 6 → g3 j = l0 (6 + j)) → (∀ j, j < 6 → g4 j = w0 (6 + j)) → (∀ j, j < 6 → g6 (4 + j) = s0 j) → (∀ j, j < 6 → g6 (10 + j) = -9) → (∀ j, j < 52 → j < 4 ∨ 16 ≤ j → g6 j = 0) → (∀ j, j ≠ 161 → j ≠ 163 → j ≠ 164 → j ≠ 165 → j ≠ 166 → E1 j = E j) → B_X6_takeDraft_47 b N cy P A [(0, .ref (b + 159)), (1, .int (nI 6))] [] 0 0 E1 := by
    intro E1 g6 g3 g4 a0 a1 a3 a4 a5 a6 h3 h4 h4' h10 hz hk
    have cle : (6 : Int32) ≤ nI 6 := by decide
    have a7 := (hk 167 (by omega) (by omega) (by omega) (by omega) (by omega)).trans e7
    have u0 : upd r0 0 (nI n) 0 = nI n := by simp [upd]
    simp -implicitDefEqProofs only [B_X6_takeDraft_47, e_cut, e_iload, e_aload, e_istore, e_astore, e_iinc, e_const, e_lconst, e_bin, e_bin0, e_un, e_ladd, e_dupi, e_dupr, e_dup2, e_pop, e_sw, e_sw0, e_sw1, e_get, e_put, e_ald, e_ast, e_aald, e_aast, e_copy, e_new, e_newa, e_anewa, e_min, e_abs, e_oinit, e_callI, e_callV, e_callS, e_iret, e_zret, e_lret, e_vret, e_tl1, e_tl0, e_tl2, e_tl3, z10, Bool.false_eq_true, e_argi, e_argr, e_argn, zld_c, zst_n, zst_c, zpick_n, zpick_c, List.drop_succ_cons, List.drop_zero, List.take_succ_cons, List.take_zero, List.length_cons, List.length_nil, List.reverse_cons, List.reverse_nil, List.nil_append, List.cons_append, List.append_nil, List.getElem?_cons_zero, List.getElem?_cons_succ, List.set_cons_zero, List.set_cons_succ, Nat.add_sub_cancel_left, Nat.sub_self, Nat.add_zero, Nat.zero_add, Nat.le_add_right, Nat.le_refl, true_and, and_true, va_rf, zok, Nat.add_left_cancel_iff, Nat.add_eq_left, Nat.left_eq_add, eq_self, if_true, if_false, not_false_eq_true, not_true_eq_false, false_implies, true_implies, Nat.reduceEqDiff, Nat.reduceAdd, Nat.reduceLT, Nat.reduceLeDiff, reduceIte, e_icmpt (c2 := fun x y => y ≤ x) cle, zM0, e_up, a0, a1, a6, a7, N0, N1, N6, N7, in0, cl0, in1, cl1, j1, j52, c52, u0, zmask hn6, nb]
    refine hP _ (fun past S2 => ?_) (fun j hj => ?_)
    · refine ⟨⟨lt, q, st, so, va, fa, (u_ne (by omega)).trans ((u_ne (by omega)).trans u_eq)⟩, ?_, ⟨upd r0 0 (nI n), ?_, u0⟩, ⟨s0, ?_⟩, ⟨g3, ?_, fun j hj => ?_⟩, ⟨g4, ?_, fun j hj => ?_⟩, ⟨upd x0 0 (nI line), ?_, by simp [upd]⟩, ⟨upd (upd g6 1 (nI (2 ^ n - 1))) 52 0, (u_ne (by omega)).trans ((u_ne (by omega)).trans ((u_ne (by omega)).trans u_eq)), ⟨⟨fun j hj => ?_, fun j hj => ?_, fun j hj => ?_, fun j hj => ?_⟩, ?_, fun t ht => absurd ht (Nat.not_lt_zero _)⟩, fun C' hC => (by cases hC), fun C' hC => (by cases hC)⟩, ⟨upd (upd f7 0 0) 1 0, u_eq, ?_, ?_⟩, ?_, ?_, ?_, ?_⟩
      · obtain ⟨f1, g1, g2⟩ := e1
        exact ⟨f1, (u_ne (by omega)).trans ((u_ne (by omega)).trans ((u_ne (by omega)).trans ((u_ne (by omega)).trans ((u_ne (by omega)).trans ((hk 160 (by omega) (by omega) (by omega) (by omega) (by omega)).trans g1))))), g2⟩
      · exact (u_ne (by omega)).trans ((u_ne (by omega)).trans ((u_ne (by omega)).trans ((u_ne (by omega)).trans ((u_ne (by omega)).trans a1))))
      · exact (u_ne (by omega)).trans ((u_ne (by omega)).trans ((u_ne (by omega)).trans ((u_ne (by omega)).trans ((u_ne (by omega)).trans ((hk 162 (by omega) (by omega) (by omega) (by omega) (by omega)).trans s1)))))
      · exact (u_ne (by omega)).trans ((u_ne (by omega)).trans ((u_ne (by omega)).trans ((u_ne (by omega)).trans ((u_ne (by omega)).trans a3))))
      · replace hj : j < n := hj
        exact (h3 j (by omega)).trans (hl0' j hj)
      · exact (u_ne (by omega)).trans ((u_ne (by omega)).trans ((u_ne (by omega)).trans ((u_ne (by omega)).trans ((u_ne (by omega)).trans a4))))
      · replace hj : j < n := hj
        exact (h4 j (by omega)).trans (hw0' j hj)
      · exact (u_ne (by omega)).trans ((u_ne (by omega)).trans ((u_ne (by omega)).trans ((u_ne (by omega)).trans ((u_ne (by omega)).trans a5))))
      · show upd (upd g6 1 (nI (2 ^ n - 1))) 52 0 (0 + j) = nI (zfresh n seat j)
        rw [Nat.zero_add]
        simp only [upd, zfresh]
        rw [if_neg (by omega)]
        by_cases e : j = 1
        · rw [if_pos e, if_pos e]
        · rw [if_neg e, if_neg e, if_neg (by omega)]; exact hz j (by omega) (by omega)
      · replace hj : j < n := hj
        show upd (upd g6 1 (nI (2 ^ n - 1))) 52 0 (0 + (4 + j)) = nI (zfresh n seat (4 + j))
        rw [Nat.zero_add]
        simp only [upd, zfresh]
        rw [if_neg (by omega), if_neg (by omega), if_neg (by omega), if_pos (by omega), show 4 + j - 4 = j by omega, h4' j (by omega)]; exact hs0 j hj
      · show upd (upd g6 1 (nI (2 ^ n - 1))) 52 0 (0 + (10 + j)) = zdn (zfresh n seat (10 + j))
        rw [Nat.zero_add]
        simp only [upd, zfresh]
        rw [if_neg (by omega), if_neg (by omega), if_neg (by omega), if_neg (by omega), h10 j hj]; rfl
      · show upd (upd g6 1 (nI (2 ^ n - 1))) 52 0 (0 + (16 + j)) = nI (zfresh n seat (16 + j))
        rw [Nat.zero_add]
        simp only [upd, zfresh]
        rw [if_neg (by omega), if_neg (by omega), if_neg (by omega), if_neg (by omega)]; exact hz _ (by omega) (by omega)
      · rfl
      · rfl
      · rfl
      · obtain ⟨f1, g1⟩ := e8
        exact ⟨f1, (u_ne (by omega)).trans ((u_ne (by omega)).trans ((u_ne (by omega)).trans ((u_ne (by omega)).trans ((u_ne (by omega)).trans ((hk 168 (by omega) (by omega) (by omega) (by omega) (by omega)).trans g1)))))⟩
      · obtain ⟨f1, g1⟩ := e9
        exact ⟨f1, (u_ne (by omega)).trans ((u_ne (by omega)).trans ((u_ne (by omega)).trans ((u_ne (by omega)).trans ((u_ne (by omega)).trans ((hk 169 (by omega) (by omega) (by omega) (by omega) (by omega)).trans g1)))))⟩
      · obtain ⟨f1, g1⟩ := e10
        exact ⟨f1, (u_ne (by omega)).trans ((u_ne (by omega)).trans ((u_ne (by omega)).trans ((u_ne (by omega)).trans ((u_ne (by omega)).trans ((hk 170 (by omega) (by omega) (by omega) (by omega) (by omega)).trans g1))))), fun j hj => absurd hj (Nat.not_lt_zero _)⟩
      · obtain ⟨f1, g1⟩ := e11
        exact ⟨f1, (u_ne (by omega)).trans ((u_ne (by omega)).trans ((u_ne (by omega)).trans ((u_ne (by omega)).trans ((u_ne (by omega)).trans ((hk 171 (by omega) (by omega) (by omega) (by omega) (by omega)).trans g1))))), fun j hj => absurd hj (Nat.not_lt_zero _)⟩
    · exact (u_ne (by omega)).trans ((u_ne (by omega)).trans ((u_ne (by omega)).trans ((u_ne (by omega)).trans ((u_ne (by omega)).trans (hk j (by omega) (by omega) (by omega) (by omega) (by omega))))))
  -- looks, laws, seats
  have loop2 : ∀ (d k : Nat) (E1 : zE) (g6 g3 g4 : Nat → Int32), d + k = 6 → E1 159 = zM0 b tr (nI T.1) lt q st so va fa se → E1 161 = .inl (cy 1, 2, .inl (upd r0 0 (nI n))) → E1 163 = .inl (cy 1, 12, .inl g3) → E1 164 = .inl (cy 1, 12, .inl g4) → E1 165 = .inl (cy 1, 2, .inl (upd x0 0 (nI line))) → E1 166 = .inl (cy 1, 1719, .inl g6) → (∀ j, j < k → g3 j = l0 (6 + j)) → (∀ j, 6 ≤ j → g3 j = l0 j) → (∀ j, j < k → g4 j = w0 (6 + j)) → (∀ j, 6 ≤ j → g4 j = w0 j) → (∀ j, j < k → g6 (4 + j) = s0 j) → (∀ j, j < k → g6 (10 + j) = -9) → (∀ j, j < 52 → j < 4 ∨ 16 ≤ j → g6 j = 0) → (∀ j, j ≠ 161 → j ≠ 163 → j ≠ 164 → j ≠ 165 → j ≠ 166 → E1 j = E j) → A 47 [(0, .ref (b + 159)), (1, .int (nI k))] [] 0 0 E1 := by
    intro d
    induction d with
    | zero =>
      intro k E1 g6 g3 g4 hd a0 a1 a3 a4 a5 a6 h3 _ h4 _ h4' h10 hz hk
      obtain rfl : k = 6 := by omega
      apply hA47
      exact fin E1 g6 g3 g4 a0 a1 a3 a4 a5 a6 h3 h4 h4' h10 hz hk
    | succ d ih =>
      intro k E1 g6 g3 g4 hd a0 a1 a3 a4 a5 a6 h3 h3b h4 h4b h4' h10 hz hk
      apply hA47
      have cle : ¬ (6 : Int32) ≤ nI k := nI_ge (b := 6) (show k < 6 by omega) (by decide)
      have a2 := (hk 162 (by omega) (by omega) (by omega) (by omega) (by omega)).trans s1
      have k6n : (6 : Int32) + nI k = nI (6 + k) := nI_add 6 k
      have k4n : (4 : Int32) + nI k = nI (4 + k) := nI_add 4 k
      have k10n : (10 : Int32) + nI k = nI (10 + k) := nI_add 10 k
      simp -implicitDefEqProofs only [B_X6_takeDraft_47, e_cut, e_iload, e_aload, e_istore, e_astore, e_iinc, e_const, e_lconst, e_bin, e_bin0, e_un, e_ladd, e_dupi, e_dupr, e_dup2, e_pop, e_sw, e_sw0, e_sw1, e_get, e_put, e_ald, e_ast, e_aald, e_aast, e_copy, e_new, e_newa, e_anewa, e_min, e_abs, e_oinit, e_callI, e_callV, e_callS, e_iret, e_zret, e_lret, e_vret, e_tl1, e_tl0, e_tl2, e_tl3, z10, Bool.false_eq_true, e_argi, e_argr, e_argn, zld_c, zst_n, zst_c, zpick_n, zpick_c, List.drop_succ_cons, List.drop_zero, List.take_succ_cons, List.take_zero, List.length_cons, List.length_nil, List.reverse_cons, List.reverse_nil, List.nil_append, List.cons_append, List.append_nil, List.getElem?_cons_zero, List.getElem?_cons_succ, List.set_cons_zero, List.set_cons_succ, Nat.add_sub_cancel_left, Nat.sub_self, Nat.add_zero, Nat.zero_add, Nat.le_add_right, Nat.le_refl, true_and, and_true, va_rf, zok, Nat.add_left_cancel_iff, Nat.add_eq_left, Nat.left_eq_add, eq_self, if_true, if_false, not_false_eq_true, not_true_eq_false, false_implies, true_implies, Nat.reduceEqDiff, Nat.reduceAdd, Nat.reduceLT, Nat.reduceLeDiff, reduceIte, e_icmpf (c2 := fun x y => y ≤ x) cle, zM0, e_up, a0, a2, a3, a4, a6, N0, N2, N3, N4, N6, k6n, k4n, k10n, i12 (6 + k) (by omega), i12 k (by omega), i6 k (by omega), inn (4 + k) (by omega), inn (10 + k) (by omega), cln k (by omega), cln (6 + k) (by omega), cln (4 + k) (by omega), cln (10 + k) (by omega), nI_1]
      refine ih (k + 1) _ (upd (upd g6 (4 + k) (s0 k)) (10 + k) (-9)) (upd g3 k (g3 (6 + k))) (upd g4 k (g4 (6 + k))) (by omega) ?_ ?_ ?_ ?_ ?_ u_eq (fun j hj => ?_) (fun j hj => ?_) (fun j hj => ?_) (fun j hj => ?_) (fun j hj => ?_) (fun j hj => ?_) (fun j hj hj2 => ?_) (fun j b1 b3 b4 b5 b6 => ?_)
      · exact (u_ne (by omega)).trans ((u_ne (by omega)).trans ((u_ne (by omega)).trans ((u_ne (by omega)).trans a0)))
      · exact (u_ne (by omega)).trans ((u_ne (by omega)).trans ((u_ne (by omega)).trans ((u_ne (by omega)).trans a1)))
      · exact (u_ne (by omega)).trans ((u_ne (by omega)).trans ((u_ne (by omega)).trans u_eq))
      · exact (u_ne (by omega)).trans ((u_ne (by omega)).trans u_eq)
      · exact (u_ne (by omega)).trans ((u_ne (by omega)).trans ((u_ne (by omega)).trans ((u_ne (by omega)).trans a5)))
      · simp only [upd]
        by_cases e : j = k
        · rw [if_pos e, e]; exact h3b _ (by omega)
        · rw [if_neg e]; exact h3 j (by omega)
      · simp only [upd]; rw [if_neg (by omega)]; exact h3b j hj
      · simp only [upd]
        by_cases e : j = k
        · rw [if_pos e, e]; exact h4b _ (by omega)
        · rw [if_neg e]; exact h4 j (by omega)
      · simp only [upd]; rw [if_neg (by omega)]; exact h4b j hj
      · simp only [upd]
        rw [if_neg (by omega)]
        by_cases e : j = k
        · rw [if_pos (by omega), e]
        · rw [if_neg (by omega)]; exact h4' j (by omega)
      · simp only [upd]
        by_cases e : j = k
        · rw [if_pos (by omega)]
        · rw [if_neg (by omega), if_neg (by omega)]; exact h10 j (by omega)
      · simp only [upd]; rw [if_neg (by omega), if_neg (by omega)]; exact hz j hj hj2
      · exact (u_ne b6).trans ((u_ne b6).trans ((u_ne b4).trans ((u_ne b3).trans (hk j b1 b3 b4 b5 b6))))
  -- all is as at first
  have loop1 : ∀ (d k : Nat) (E1 : zE) (g6 : Nat → Int32), d + k = 52 → E1 159 = zM0 b tr (nI T.1) lt q st so va fa se → E1 161 = .inl (cy 1, 2, .inl (upd r0 0 (nI n))) → E1 165 = .inl (cy 1, 2, .inl (upd x0 0 (nI line))) → E1 166 = .inl (cy 1, 1719, .inl g6) → (∀ j, j < k → g6 j = 0) → (∀ j, j ≠ 161 → j ≠ 165 → j ≠ 166 → E1 j = E j) → A 26 [(0, .ref (b + 159)), (1, .int (nI k))] [] 0 0 E1 := by
    intro d
    induction d with
    | zero =>
      intro k E1 g6 hd a0 a1 a5 a6 hz hk
      obtain rfl : k = 52 := by omega
      apply hA26
      have cle : (52 : Int32) ≤ nI 52 := by decide
      simp -implicitDefEqProofs only [B_X6_takeDraft_26, e_cut, e_iload, e_aload, e_istore, e_astore, e_iinc, e_const, e_lconst, e_bin, e_bin0, e_un, e_ladd, e_dupi, e_dupr, e_dup2, e_pop, e_sw, e_sw0, e_sw1, e_get, e_put, e_ald, e_ast, e_aald, e_aast, e_copy, e_new, e_newa, e_anewa, e_min, e_abs, e_oinit, e_callI, e_callV, e_callS, e_iret, e_zret, e_lret, e_vret, e_tl1, e_tl0, e_tl2, e_tl3, z10, Bool.false_eq_true, e_argi, e_argr, e_argn, zld_c, zst_n, zst_c, zpick_n, zpick_c, List.drop_succ_cons, List.drop_zero, List.take_succ_cons, List.take_zero, List.length_cons, List.length_nil, List.reverse_cons, List.reverse_nil, List.nil_append, List.cons_append, List.append_nil, List.getElem?_cons_zero, List.getElem?_cons_succ, List.set_cons_zero, List.set_cons_succ, Nat.add_sub_cancel_left, Nat.sub_self, Nat.add_zero, Nat.zero_add, Nat.le_add_right, Nat.le_refl, true_and, and_true, va_rf, zok, Nat.add_left_cancel_iff, Nat.add_eq_left, Nat.left_eq_add, eq_self, if_true, if_false, not_false_eq_true, not_true_eq_false, false_implies, true_implies, Nat.reduceEqDiff, Nat.reduceAdd, Nat.reduceLT, Nat.reduceLeDiff, reduceIte, e_icmpt (c2 := fun x y => y ≤ x) cle]
      exact loop2 6 0 E1 g6 l0 w0 rfl a0 a1 ((hk 163 (by omega) (by omega) (by omega)).trans l1) ((hk 164 (by omega) (by omega) (by omega)).trans w1) a5 a6 (fun j hj => absurd hj (Nat.not_lt_zero _)) (fun _ _ => rfl) (fun j hj => absurd hj (Nat.not_lt_zero _)) (fun _ _ => rfl) (fun j hj => absurd hj (Nat.not_lt_zero _)) (fun j hj => absurd hj (Nat.not_lt_zero _)) (fun j hj _ => hz j hj) (fun j b1 _ _ b5 b6 => hk j b1 b5 b6)
    | succ d ih =>
      intro k E1 g6 hd a0 a1 a5 a6 hz hk
      apply hA26
      have cle : ¬ (52 : Int32) ≤ nI k := nI_ge (b := 52) (show k < 52 by omega) (by decide)
      simp -implicitDefEqProofs only [B_X6_takeDraft_26, e_cut, e_iload, e_aload, e_istore, e_astore, e_iinc, e_const, e_lconst, e_bin, e_bin0, e_un, e_ladd, e_dupi, e_dupr, e_dup2, e_pop, e_sw, e_sw0, e_sw1, e_get, e_put, e_ald, e_ast, e_aald, e_aast, e_copy, e_new, e_newa, e_anewa, e_min, e_abs, e_oinit, e_callI, e_callV, e_callS, e_iret, e_zret, e_lret, e_vret, e_tl1, e_tl0, e_tl2, e_tl3, z10, Bool.false_eq_true, e_argi, e_argr, e_argn, zld_c, zst_n, zst_c, zpick_n, zpick_c, List.drop_succ_cons, List.drop_zero, List.take_succ_cons, List.take_zero, List.length_cons, List.length_nil, List.reverse_cons, List.reverse_nil, List.nil_append, List.cons_append, List.append_nil, List.getElem?_cons_zero, List.getElem?_cons_succ, List.set_cons_zero, List.set_cons_succ, Nat.add_sub_cancel_left, Nat.sub_self, Nat.add_zero, Nat.zero_add, Nat.le_add_right, Nat.le_refl, true_and, and_true, va_rf, zok, Nat.add_left_cancel_iff, Nat.add_eq_left, Nat.left_eq_add, eq_self, if_true, if_false, not_false_eq_true, not_true_eq_false, false_implies, true_implies, Nat.reduceEqDiff, Nat.reduceAdd, Nat.reduceLT, Nat.reduceLeDiff, reduceIte, e_icmpf (c2 := fun x y => y ≤ x) cle, zM0, a0, a6, N0, N6, inn k (by omega), cln k (by omega), nI_1]
      refine ih (k + 1) _ (upd g6 k 0) (by omega) ((u_ne (by omega)).trans a0) ((u_ne (by omega)).trans a1) ((u_ne (by omega)).trans a5) u_eq (fun j hj => ?_) (fun j b1 b5 b6 => (u_ne b6).trans (hk j b1 b5 b6))
      simp only [upd]
      by_cases e : j = k
      · rw [if_pos e]
      · rw [if_neg e]; exact hz j (by omega)
  simp -implicitDefEqProofs only [B_X6_takeDraft_0, e_cut, e_iload, e_aload, e_istore, e_astore, e_iinc, e_const, e_lconst, e_bin, e_bin0, e_un, e_ladd, e_dupi, e_dupr, e_dup2, e_pop, e_sw, e_sw0, e_sw1, e_get, e_put, e_ald, e_ast, e_aald, e_aast, e_copy, e_new, e_newa, e_anewa, e_min, e_abs, e_oinit, e_callI, e_callV, e_callS, e_iret, e_zret, e_lret, e_vret, e_tl1, e_tl0, e_tl2, e_tl3, z10, Bool.false_eq_true, e_argi, e_argr, e_argn, zld_c, zst_n, zst_c, zpick_n, zpick_c, List.drop_succ_cons, List.drop_zero, List.take_succ_cons, List.take_zero, List.length_cons, List.length_nil, List.reverse_cons, List.reverse_nil, List.nil_append, List.cons_append, List.append_nil, List.getElem?_cons_zero, List.getElem?_cons_succ, List.set_cons_zero, List.set_cons_succ, Nat.add_sub_cancel_left, Nat.sub_self, Nat.add_zero, Nat.zero_add, Nat.le_add_right, Nat.le_refl, true_and, and_true, va_rf, zok, Nat.add_left_cancel_iff, Nat.add_eq_left, Nat.left_eq_add, eq_self, if_true, if_false, not_false_eq_true, not_true_eq_false, false_implies, true_implies, Nat.reduceEqDiff, Nat.reduceAdd, Nat.reduceLT, Nat.reduceLeDiff, reduceIte, zM0, e_up, e0, r1, x1, hr1, hx1, N0, N1, N5, in0, cl0, in1, cl1]
  exact loop1 52 0 _ f6 rfl ((u_ne (by omega)).trans ((u_ne (by omega)).trans e0)) ((u_ne (by omega)).trans u_eq) u_eq ((u_ne (by omega)).trans ((u_ne (by omega)).trans e6)) (fun j hj => absurd hj (Nat.not_lt_zero _)) (fun j b1 b5 _ => (u_ne b5).trans (u_ne b1))
set_option maxRecDepth 20000 in
theorem f_X6_takeDraft_29 : Cond.fieldLink RX6 29 (TX6 14).1 (TX6 14).2.1 (TX6 14).2.2.1 ∈ wsX6_takeDraft := by decide +kernel
set_option maxRecDepth 20000 in
theorem k_X6_takeDraft_6 : ∀ w ∈ u_ws RX6 TX6 21, w ∈ wsX6_takeDraft := fun _ h => List.mem_cons_of_mem _ (List.mem_append_right _ h)
set_option maxRecDepth 20000 in
theorem f_X6_takeDraft_13 : Cond.fieldLink RX6 13 (TX6 3).1 (TX6 3).2.1 (TX6 3).2.2.1 ∈ wsX6_takeDraft := by decide +kernel
set_option maxRecDepth 20000 in
theorem f_X6_takeDraft_96 : Cond.fieldLink RX6 96 (TX6 20).1 (TX6 20).2.1 (TX6 20).2.2.1 ∈ wsX6_takeDraft := by decide +kernel
set_option maxRecDepth 20000 in
theorem f_X6_takeDraft_32 : Cond.fieldLink RX6 32 (TX6 15).1 (TX6 15).2.1 (TX6 15).2.2.1 ∈ wsX6_takeDraft := by decide +kernel
set_option maxRecDepth 20000 in
theorem f_X6_takeDraft_20 : Cond.fieldLink RX6 20 (TX6 5).1 (TX6 5).2.1 (TX6 5).2.2.1 ∈ wsX6_takeDraft := by decide +kernel
set_option maxRecDepth 20000 in
theorem f_X6_takeDraft_23 : Cond.fieldLink RX6 23 (TX6 6).1 (TX6 6).2.1 (TX6 6).2.2.1 ∈ wsX6_takeDraft := by decide +kernel
set_option maxRecDepth 20000 in
theorem f_X6_takeDraft_17 : Cond.fieldLink RX6 17 (TX6 4).1 (TX6 4).2.1 (TX6 4).2.2.1 ∈ wsX6_takeDraft := by decide +kernel
set_option maxRecDepth 20000 in
theorem f_X6_takeDraft_26 : Cond.fieldLink RX6 26 (TX6 7).1 (TX6 7).2.1 (TX6 7).2.2.1 ∈ wsX6_takeDraft := by decide +kernel
set_option maxRecDepth 100000 in
set_option maxHeartbeats 4000000 in
theorem S_X6_takeDraft_47 {p : Program} {e : Env} {s : State} {m : MethodId} {args : Array Value} {below : List Frame} {meth : Method} {c : Code} {D : va_G} {cy : zY} {b n0 : Nat} {P : zPo} (la : Launch) (X : zX p la e (rm_X6_takeDraft) s m args below meth c 2 D cy b n0 cX6_takeDraft wsX6_takeDraft RX6) (hr : meth.sig.returnType = none) : zS p la e (rm_X6_takeDraft) s m args below meth c (MQ below (zQ D b (n0 + 0) P) args s 0 0 (fun q => b ≤ q)) 2 D b n0 47 (B_X6_takeDraft_47 b n0 cy P (zAt p la e (rm_X6_takeDraft) s m args below meth c (MQ below (zQ D b (n0 + 0) P) args s 0 0 (fun q => b ≤ q)) 2 D b n0)) := by
  unfold B_X6_takeDraft_47
  exact (s_iload_n X dX6_takeDraft_47 rfl (s_bipush X dX6_takeDraft_48 (by decide) (s_icmp_ge X dX6_takeDraft_50 (by decide) (s_aload_n X dX6_takeDraft_114 rfl (s_get X dX6_takeDraft_115 rfl k_X6_takeDraft_6 (by decide) f_X6_takeDraft_29 (s_iconst X dX6_takeDraft_118 (by decide) (s_iconst X dX6_takeDraft_119 (by decide) (s_aload_n X dX6_takeDraft_120 rfl (s_get X dX6_takeDraft_121 rfl k_X6_takeDraft_6 (by decide) f_X6_takeDraft_13 (s_iconst X dX6_takeDraft_124 (by decide) (s_iald X dX6_takeDraft_125 (s_ishl X dX6_takeDraft_126 (s_iconst X dX6_takeDraft_127 (by decide) (s_isub X dX6_takeDraft_128 (s_iast X dX6_takeDraft_129 (s_aload_n X dX6_takeDraft_130 rfl (s_get X dX6_takeDraft_131 rfl k_X6_takeDraft_6 (by decide) f_X6_takeDraft_29 (s_bipush X dX6_takeDraft_134 (by decide) (s_iconst X dX6_takeDraft_136 (by decide) (s_iast X dX6_takeDraft_137 (s_aload_n X dX6_takeDraft_138 rfl (s_iconst X dX6_takeDraft_139 (by decide) (s_put X dX6_takeDraft_140 rfl k_X6_takeDraft_6 tyX6_ok nmX6 (by decide) f_X6_takeDraft_96 rfl (tyX6_ok 20 (by decide)) zok_int (s_aload_n X dX6_takeDraft_143 rfl (s_get X dX6_takeDraft_144 rfl k_X6_takeDraft_6 (by decide) f_X6_takeDraft_32 (s_iconst X dX6_takeDraft_147 (by decide) (s_iconst X dX6_takeDraft_148 (by decide) (s_zast X dX6_takeDraft_149 (s_aload_n X dX6_takeDraft_150 rfl (s_get X dX6_takeDraft_151 rfl k_X6_takeDraft_6 (by decide) f_X6_takeDraft_32 (s_iconst X dX6_takeDraft_154 (by decide) (s_iconst X dX6_takeDraft_155 (by decide) (s_zast X dX6_takeDraft_156 (s_vret X dX6_takeDraft_157 hr))))))))))))))))))))))))))))))) (s_aload_n X dX6_takeDraft_53 rfl (s_get X dX6_takeDraft_54 rfl k_X6_takeDraft_6 (by decide) f_X6_takeDraft_20 (s_iload_n X dX6_takeDraft_57 rfl (s_aload_n X dX6_takeDraft_58 rfl (s_get X dX6_takeDraft_59 rfl k_X6_takeDraft_6 (by decide) f_X6_takeDraft_20 (s_bipush X dX6_takeDraft_62 (by decide) (s_iload_n X dX6_takeDraft_64 rfl (s_iadd X dX6_takeDraft_65 (s_iald X dX6_takeDraft_66 (s_iast X dX6_takeDraft_67 (s_aload_n X dX6_takeDraft_68 rfl (s_get X dX6_takeDraft_69 rfl k_X6_takeDraft_6 (by decide) f_X6_takeDraft_23 (s_iload_n X dX6_takeDraft_72 rfl (s_aload_n X dX6_takeDraft_73 rfl (s_get X dX6_takeDraft_74 rfl k_X6_takeDraft_6 (by decide) f_X6_takeDraft_23 (s_bipush X dX6_takeDraft_77 (by decide) (s_iload_n X dX6_takeDraft_79 rfl (s_iadd X dX6_takeDraft_80 (s_iald X dX6_takeDraft_81 (s_iast X dX6_takeDraft_82 (s_aload_n X dX6_takeDraft_83 rfl (s_get X dX6_takeDraft_84 rfl k_X6_takeDraft_6 (by decide) f_X6_takeDraft_29 (s_iconst X dX6_takeDraft_87 (by decide) (s_iload_n X dX6_takeDraft_88 rfl (s_iadd X dX6_takeDraft_89 (s_aload_n X dX6_takeDraft_90 rfl (s_get X dX6_takeDraft_91 rfl k_X6_takeDraft_6 (by decide) f_X6_takeDraft_17 (s_iload_n X dX6_takeDraft_94 rfl (s_iald X dX6_takeDraft_95 (s_iast X dX6_takeDraft_96 (s_aload_n X dX6_takeDraft_97 rfl (s_get X dX6_takeDraft_98 rfl k_X6_takeDraft_6 (by decide) f_X6_takeDraft_29 (s_bipush X dX6_takeDraft_101 (by decide) (s_iload_n X dX6_takeDraft_103 rfl (s_iadd X dX6_takeDraft_104 (s_bipush X dX6_takeDraft_105 (by decide) (s_iast X dX6_takeDraft_107 (s_iinc X dX6_takeDraft_108 (by decide) (by decide) (s_goto X dX6_takeDraft_111 (by decide) (s_cut (by decide) zS_at)))))))))))))))))))))))))))))))))))))))))))
set_option maxRecDepth 100000 in
set_option maxHeartbeats 4000000 in
theorem S_X6_takeDraft_26 {p : Program} {e : Env} {s : State} {m : MethodId} {args : Array Value} {below : List Frame} {meth : Method} {c : Code} {D : va_G} {cy : zY} {b n0 : Nat} {P : zPo} (la : Launch) (X : zX p la e (rm_X6_takeDraft) s m args below meth c 2 D cy b n0 cX6_takeDraft wsX6_takeDraft RX6) (hr : meth.sig.returnType = none) : zS p la e (rm_X6_takeDraft) s m args below meth c (MQ below (zQ D b (n0 + 0) P) args s 0 0 (fun q => b ≤ q)) 2 D b n0 26 (B_X6_takeDraft_26 b n0 cy P (zAt p la e (rm_X6_takeDraft) s m args below meth c (MQ below (zQ D b (n0 + 0) P) args s 0 0 (fun q => b ≤ q)) 2 D b n0)) := by
  unfold B_X6_takeDraft_26
  exact (s_iload_n X dX6_takeDraft_26 rfl (s_bipush X dX6_takeDraft_27 (by decide) (s_icmp_ge X dX6_takeDraft_29 (by decide) (s_iconst X dX6_takeDraft_45 (by decide) (s_istore_n X dX6_takeDraft_46 rfl (by decide) (s_cut (by decide) zS_at))) (s_aload_n X dX6_takeDraft_32 rfl (s_get X dX6_takeDraft_33 rfl k_X6_takeDraft_6 (by decide) f_X6_takeDraft_29 (s_iload_n X dX6_takeDraft_36 rfl (s_iconst X dX6_takeDraft_37 (by decide) (s_iast X dX6_takeDraft_38 (s_iinc X dX6_takeDraft_39 (by decide) (by decide) (s_goto X dX6_takeDraft_42 (by decide) (s_cut (by decide) zS_at)))))))))))
set_option maxRecDepth 100000 in
set_option maxHeartbeats 4000000 in
theorem S_X6_takeDraft_0 {p : Program} {e : Env} {s : State} {m : MethodId} {args : Array Value} {below : List Frame} {meth : Method} {c : Code} {D : va_G} {cy : zY} {b n0 : Nat} {P : zPo} (la : Launch) (X : zX p la e (rm_X6_takeDraft) s m args below meth c 2 D cy b n0 cX6_takeDraft wsX6_takeDraft RX6) (hr : meth.sig.returnType = none) : zS p la e (rm_X6_takeDraft) s m args below meth c (MQ below (zQ D b (n0 + 0) P) args s 0 0 (fun q => b ≤ q)) 2 D b n0 0 (B_X6_takeDraft_0 b n0 cy P (zAt p la e (rm_X6_takeDraft) s m args below meth c (MQ below (zQ D b (n0 + 0) P) args s 0 0 (fun q => b ≤ q)) 2 D b n0)) := by
  unfold B_X6_takeDraft_0
  exact (s_aload_n X dX6_takeDraft_0 rfl (s_get X dX6_takeDraft_1 rfl k_X6_takeDraft_6 (by decide) f_X6_takeDraft_13 (s_iconst X dX6_takeDraft_4 (by decide) (s_aload_n X dX6_takeDraft_5 rfl (s_get X dX6_takeDraft_6 rfl k_X6_takeDraft_6 (by decide) f_X6_takeDraft_13 (s_iconst X dX6_takeDraft_9 (by decide) (s_iald X dX6_takeDraft_10 (s_iast X dX6_takeDraft_11 (s_aload_n X dX6_takeDraft_12 rfl (s_get X dX6_takeDraft_13 rfl k_X6_takeDraft_6 (by decide) f_X6_takeDraft_26 (s_iconst X dX6_takeDraft_16 (by decide) (s_aload_n X dX6_takeDraft_17 rfl (s_get X dX6_takeDraft_18 rfl k_X6_takeDraft_6 (by decide) f_X6_takeDraft_26 (s_iconst X dX6_takeDraft_21 (by decide) (s_iald X dX6_takeDraft_22 (s_iast X dX6_takeDraft_23 (s_iconst X dX6_takeDraft_24 (by decide) (s_istore_n X dX6_takeDraft_25 rfl (by decide) (s_cut (by decide) zS_at)))))))))))))))))))
theorem w_X6_takeDraft (la : Launch) (sp : zSp) (vc : zVC_X6_takeDraft sp) : zMet la yX6_takeDraft wsX6_takeDraft (rm_X6_takeDraft) 0 0 sp :=
  z_of (cc := cX6_takeDraft) (maxL := 2) (ret := none) (by decide +kernel) rfl (fun p e s m args below meth c D cy b n as E P hsp X hr hin => by
    obtain ⟨h1, h2⟩ := vc b cy n as E P (zAt p la e (rm_X6_takeDraft) s m args below meth c (MQ below (zQ D b (n + 0) P) args s 0 0 (fun q => b ≤ q)) 2 D b n) (fun _ _ _ _ _ q => S_X6_takeDraft_26 la X hr _ _ _ _ _ q) (fun _ _ _ _ _ q => S_X6_takeDraft_47 la X hr _ _ _ _ _ q) hsp
    exact ⟨h1, S_X6_takeDraft_0 la X hr _ _ _ _ _ h2⟩)

theorem m_X6_takeDraft (la : Launch) : zMet la yX6_takeDraft wsX6_takeDraft rm_X6_takeDraft 0 0 sp_X6_takeDraft := w_X6_takeDraft la _ vc_X6_takeDraft

