def zfig (m x : Nat) : Nat → Nat := fun j => x / 6 ^ (m - 1 - j) % 6
theorem nI_m1' (u : Nat) : nI (u + 1) + -1 = nI (u + 1) - 1 := by rw [Int32.sub_eq_add_neg]
def sp_X6_doesGo : zSp := fun b cy as N E P => ∃ (i n : Nat) (lo la c : Nat → Nat) (x m S : Nat), as = [.ref (b + 159), .ref (b + i), .int (nI x), .int (nI m), .int (nI S)] ∧ zMR b cy N E n lo la ∧ zAr cy E i n c ∧ zMok n c ∧ i < N ∧ i ≠ 169 ∧ x < 100000 ∧ m ≤ 6 ∧ S < 64 ∧ (∃ h : Nat → Int32, E 169 = .inl (cy 1, 6, .inl h)) ∧ (∀ E' g, E' 169 = .inl (cy 1, 6, .inl g) → (∀ j, j < m → g j = nI (zfig m x j)) → (∀ j, j ≠ 169 → E' j = E j) → P (some (.int (if zdg n c S (zfig m x) m 0 (c 1) 0 = true then 1 else 0))) E')
abbrev rm_X6_doesGo : Room := { frames := 2, cells := 0, slots := 0, locals := 67 }
def B_X6_doesGo_129 (b n0 : Nat) (cy : zY) (P : zPo) (A : Nat → zC) : zC :=
  z_const (0) (z_zret 0 0 P)
def B_X6_doesGo_110 (b n0 : Nat) (cy : zY) (P : zPo) (A : Nat → zC) : zC :=
  z_istore 10 (z_iload 10 (z_const (-9) (z_icmp (fun x y => x = y) (B_X6_doesGo_129 b n0 cy P A) (z_iload 4 (z_iload 10 (z_bin (fun x y => x >>> (y &&& 31)) (z_const (1) (z_bin (fun x y => x &&& y) (z_if (fun x => x = 0) (B_X6_doesGo_129 b n0 cy P A) (z_iload 7 (z_const (1) (z_iload 9 (z_bin (fun x y => x <<< (y &&& 31)) (z_bin (fun x y => x ||| y) (z_istore 7 (z_iload 6 (z_const (1) (z_iload 10 (z_bin (fun x y => x <<< (y &&& 31)) (z_const (-1) (z_bin (fun x y => x ^^^ y) (z_bin (fun x y => x &&& y) (z_istore 6 (z_iinc 8 (1) (z_cut [0, 1, 3, 4, 6, 7, 8] (A 49))))))))))))))))))))))))))
def B_X6_doesGo_108 (b n0 : Nat) (cy : zY) (P : zPo) (A : Nat → zC) : zC :=
  z_const (-9) (B_X6_doesGo_110 b n0 cy P A)
def B_X6_doesGo_49 (b n0 : Nat) (cy : zY) (P : zPo) (A : Nat → zC) : zC :=
  z_iload 8 (z_iload 3 (z_icmp (fun x y => y ≤ x) (z_const (1) (z_zret 0 0 P)) (z_aload 0 (z_get b n0 6 17 (z_iload 8 (z_ald b n0 (cy 1) (z_istore 9 (z_iload 9 (z_aload 0 (z_get b n0 6 3 (z_const (0) (z_ald b n0 (cy 1) (z_icmp (fun x y => y ≤ x) (B_X6_doesGo_108 b n0 cy P A) (z_iload 6 (z_iload 9 (z_bin (fun x y => x >>> (y &&& 31)) (z_const (1) (z_bin (fun x y => x &&& y) (z_const (1) (z_icmp (fun x y => x = y) (z_iload 7 (z_iload 9 (z_bin (fun x y => x >>> (y &&& 31)) (z_const (1) (z_bin (fun x y => x &&& y) (z_if (fun x => x = 0) (z_aload 0 (z_aload 1 (z_iload 9 (z_iload 6 (z_callV b n0 0 0 cy 6 3 0 0 sp_X6_byRing (B_X6_doesGo_110 b n0 cy P A)))))) (B_X6_doesGo_108 b n0 cy P A))))))) (B_X6_doesGo_108 b n0 cy P A)))))))))))))))))))))
def B_X6_doesGo_8 (b n0 : Nat) (cy : zY) (P : zPo) (A : Nat → zC) : zC :=
  z_iload 6 (z_if (fun x => x < 0) (z_aload 1 (z_const (1) (z_ald b n0 (cy 1) (z_istore 6 (z_const (0) (z_istore 7 (z_const (0) (z_istore 8 (z_cut [0, 1, 3, 4, 6, 7, 8] (A 49)))))))))) (z_aload 0 (z_get b n0 6 17 (z_iload 6 (z_iload 5 (z_const (6) (z_bin0 (fun x y => x - x / y * y) (z_ast b n0 (cy 1) (fun x => x) (z_iload 5 (z_const (6) (z_bin0 (fun x y => x / y) (z_istore 5 (z_iinc 6 (-1) (z_cut [0, 1, 3, 4, 5, 6] (A 8)))))))))))))))
def B_X6_doesGo_0 (b n0 : Nat) (cy : zY) (P : zPo) (A : Nat → zC) : zC :=
  z_iload 2 (z_istore 5 (z_iload 3 (z_const (1) (z_bin (fun x y => x - y) (z_istore 6 (z_cut [0, 1, 3, 4, 5, 6] (A 8)))))))
def zVC_X6_doesGo (sp : zSp) : Prop := ∀ (b : Nat) (cy : zY) (n : Nat) (as : List Value) (E : zE) (P : zPo) (A : Nat → zC), (∀ l st k u E, B_X6_doesGo_8 b n cy P A l st k u E → A 8 l st k u E) → (∀ l st k u E, B_X6_doesGo_49 b n cy P A l st k u E → A 49 l st k u E) → sp b cy as n E P → zgood as 11 ∧ B_X6_doesGo_0 b n cy P A (lv_args 0 as) [] 0 0 E

set_option maxRecDepth 100000 in
set_option maxHeartbeats 4000000 in
theorem vc_X6_doesGo : zVC_X6_doesGo sp_X6_doesGo := by
  intro b cy N as E P A hA8 hA49 hsp
  obtain ⟨i, n, lo, la, c, x, m, S, rfl, hR, hAr, hmk, hi, hi9, hx, hm, hS, ⟨h0, e9⟩, hP⟩ := hsp
  refine ⟨⟨Nat.le_of_ble_eq_true rfl, zg1 rfl (zg1 rfl (zg1 rfl (zg1 rfl (zg1 rfl (zg0)))))⟩, ?_⟩
  obtain ⟨L, f, hL, hL2, hE, hc⟩ := id hAr
  obtain ⟨⟨tr, ty, lt, qq, st, so, va, fa, se, e0⟩, ⟨rf, e1, e1'⟩, _, _, hn, hlo, hN⟩ := id hR
  have N0 : 159 < N := by omega
  have N1 : 161 < N := by omega
  have N9 : 169 < N := by omega
  have hin : vp_in 0 2 := (vp_in_nI (show 0 < 2 by omega) (by omega) : vp_in (nI 0) 2)
  have hcl : (0 : Int32).toNatClampNeg = 0 := by decide
  have in1 : vp_in 1 L := (vp_in_nI (show 1 < L by omega) (by omega) : vp_in (nI 1) L)
  have cl1 : (1 : Int32).toNatClampNeg = 1 := by decide
  have v1 : f 1 = nI (c 1) := (zCm0 hc).1 1 (by omega)
  have h64 : 2 ^ n ≤ 2 ^ 6 := Nat.pow_le_pow_right (by omega) hn
  have e64 : (2 : Nat) ^ 6 = 64 := rfl
  have hl64 := hmk.l64
  have k6 : (6 : Int32) = nI 6 := rfl
  have i6 : ∀ j, j < 6 → vp_in (nI j) 6 := fun j hj => vp_in_nI hj (by omega)
  have c6 : ∀ j, j < 6 → (nI j).toNatClampNeg = j := fun j hj => nI_clamp (by omega)
  -- the figures are right, then it goes through them
  have loop2 : ∀ (g : Nat → Int32) (E1 : zE), E1 169 = .inl (cy 1, 6, .inl g) → (∀ j, j < m → g j = nI (zfig m x j)) → (∀ j, j ≠ 169 → E1 j = E j) → ∀ (d t M G : Nat), t + d = m → M < 2 ^ n → G < 64 → zdg n c S (zfig m x) d t M G = zdg n c S (zfig m x) m 0 (c 1) 0 → A 49 [(0, .ref (b + 159)), (1, .ref (b + i)), (3, .int (nI m)), (4, .int (nI S)), (6, .int (nI M)), (7, .int (nI G)), (8, .int (nI t))] [] 0 0 E1 := by
    intro g E1 g9 hg hk d
    have f0 := (hk 159 (by omega)).trans e0
    have f1 := (hk 161 (by omega)).trans e1
    have fi : zAr cy E1 i n c := hAr.congr (hk i hi9)
    have fR : zMR b cy N E1 n lo la := hR.congr (hk _ (by omega)) (hk _ (by omega)) (hk _ (by omega)) (hk _ (by omega))
    have hP2 := hP E1 g g9 hg hk
    generalize zdg n c S (zfig m x) m 0 (c 1) 0 = R at hP2
    induction d with
    | zero =>
      intro t M G hd hM hG hz
      obtain rfl : t = m := by omega
      apply hA49
      have cle : nI t ≤ nI t := nI_le (Nat.le_refl _) (by omega)
      rw [zdg] at hz
      rw [← hz, if_pos rfl] at hP2
      simp -implicitDefEqProofs only [B_X6_doesGo_49, e_cut, e_iload, e_aload, e_istore, e_astore, e_iinc, e_const, e_lconst, e_bin, e_bin0, e_un, e_ladd, e_dupi, e_dupr, e_dup2, e_pop, e_sw, e_sw0, e_sw1, e_get, e_put, e_ald, e_ast, e_aald, e_aast, e_copy, e_new, e_newa, e_anewa, e_min, e_abs, e_oinit, e_callI, e_callV, e_callS, e_iret, e_zret, e_lret, e_vret, e_tl1, e_tl0, e_tl2, e_tl3, z10, Bool.false_eq_true, e_argi, e_argr, e_argn, zld_c, zst_n, zst_c, zpick_n, zpick_c, List.drop_succ_cons, List.drop_zero, List.take_succ_cons, List.take_zero, List.length_cons, List.length_nil, List.reverse_cons, List.reverse_nil, List.nil_append, List.cons_append, List.append_nil, List.getElem?_cons_zero, List.getElem?_cons_succ, List.set_cons_zero, List.set_cons_succ, Nat.add_sub_cancel_left, Nat.sub_self, Nat.add_zero, Nat.zero_add, Nat.le_add_right, Nat.le_refl, true_and, and_true, va_rf, zok, Nat.add_left_cancel_iff, Nat.add_eq_left, Nat.left_eq_add, eq_self, if_true, if_false, not_false_eq_true, not_true_eq_false, false_implies, true_implies, Nat.reduceEqDiff, Nat.reduceAdd, Nat.reduceLT, Nat.reduceLeDiff, reduceIte, e_icmpt (c2 := fun x y => y ≤ x) cle]
      exact ⟨Or.inr trivial, hP2⟩
    | succ d ih =>
      intro t M G hd hM hG hz
      have ht : t < m := by omega
      apply hA49
      have cle : ¬ nI m ≤ nI t := nI_ge ht (by omega)
      obtain ⟨r, hr⟩ : ∃ r, r = zfig m x t := ⟨_, rfl⟩
      have hr6 : r < 6 := by rw [hr]; exact Nat.mod_lt _ (by omega)
      have hgt := hg t ht
      rw [← hr] at hgt
      rw [zdg, ← hr] at hz
      have no : zdir n c S M G r = none → ∀ l, B_X6_doesGo_129 b N cy P A l [] 0 0 E1 := fun h l => by
        rw [h] at hz
        rw [← hz, if_neg (by simp)] at hP2
        simp -implicitDefEqProofs only [B_X6_doesGo_129, e_cut, e_iload, e_aload, e_istore, e_astore, e_iinc, e_const, e_lconst, e_bin, e_bin0, e_un, e_ladd, e_dupi, e_dupr, e_dup2, e_pop, e_sw, e_sw0, e_sw1, e_get, e_put, e_ald, e_ast, e_aald, e_aast, e_copy, e_new, e_newa, e_anewa, e_min, e_abs, e_oinit, e_callI, e_callV, e_callS, e_iret, e_zret, e_lret, e_vret, e_tl1, e_tl0, e_tl2, e_tl3, z10, Bool.false_eq_true, e_argi, e_argr, e_argn, zld_c, zst_n, zst_c, zpick_n, zpick_c, List.drop_succ_cons, List.drop_zero, List.take_succ_cons, List.take_zero, List.length_cons, List.length_nil, List.reverse_cons, List.reverse_nil, List.nil_append, List.cons_append, List.append_nil, List.getElem?_cons_zero, List.getElem?_cons_succ, List.set_cons_zero, List.set_cons_succ, Nat.add_sub_cancel_left, Nat.sub_self, Nat.add_zero, Nat.zero_add, Nat.le_add_right, Nat.le_refl, true_and, and_true, va_rf, zok, Nat.add_left_cancel_iff, Nat.add_eq_left, Nat.left_eq_add, eq_self, if_true, if_false, not_false_eq_true, not_true_eq_false, false_implies, true_implies, Nat.reduceEqDiff, Nat.reduceAdd, Nat.reduceLT, Nat.reduceLeDiff, reduceIte]
        exact ⟨Or.inl trivial, hP2⟩
      have m9 : ((-9 : Int32) = -9) := rfl
      have kn : (nI n ≤ nI r) = (n ≤ r) := propext (nI_leI (by omega) (by omega))
      have tb : ((if M.testBit r = true then (1 : Int32) else 0) = 1) = (M.testBit r = true) := by cases M.testBit r <;> decide
      have tz : ∀ B : Bool, ((if B = true then (1 : Int32) else 0) = 0) = (B = false) := fun B => by cases B <;> decide
      have n108 : zdir n c S M G r = none → B_X6_doesGo_108 b N cy P A [(0, .ref (b + 159)), (1, .ref (b + i)), (3, .int (nI m)), (4, .int (nI S)), (6, .int (nI M)), (7, .int (nI G)), (8, .int (nI t)), (9, .int (nI r))] [] 0 0 E1 := fun h => by
        simp -implicitDefEqProofs only [B_X6_doesGo_108, B_X6_doesGo_110, e_cut, e_iload, e_aload, e_istore, e_astore, e_iinc, e_const, e_lconst, e_bin, e_bin0, e_un, e_ladd, e_dupi, e_dupr, e_dup2, e_pop, e_sw, e_sw0, e_sw1, e_get, e_put, e_ald, e_ast, e_aald, e_aast, e_copy, e_new, e_newa, e_anewa, e_min, e_abs, e_oinit, e_callI, e_callV, e_callS, e_iret, e_zret, e_lret, e_vret, e_tl1, e_tl0, e_tl2, e_tl3, z10, Bool.false_eq_true, e_argi, e_argr, e_argn, zld_c, zst_n, zst_c, zpick_n, zpick_c, List.drop_succ_cons, List.drop_zero, List.take_succ_cons, List.take_zero, List.length_cons, List.length_nil, List.reverse_cons, List.reverse_nil, List.nil_append, List.cons_append, List.append_nil, List.getElem?_cons_zero, List.getElem?_cons_succ, List.set_cons_zero, List.set_cons_succ, Nat.add_sub_cancel_left, Nat.sub_self, Nat.add_zero, Nat.zero_add, Nat.le_add_right, Nat.le_refl, true_and, and_true, va_rf, zok, Nat.add_left_cancel_iff, Nat.add_eq_left, Nat.left_eq_add, eq_self, if_true, if_false, not_false_eq_true, not_true_eq_false, false_implies, true_implies, Nat.reduceEqDiff, Nat.reduceAdd, Nat.reduceLT, Nat.reduceLeDiff, reduceIte, e_icmpt (c2 := fun x y => x = y) m9]
        exact no h _
      have hM64 : M < 64 := by omega
      simp -implicitDefEqProofs only [B_X6_doesGo_49, e_cut, e_iload, e_aload, e_istore, e_astore, e_iinc, e_const, e_lconst, e_bin, e_bin0, e_un, e_ladd, e_dupi, e_dupr, e_dup2, e_pop, e_sw, e_sw0, e_sw1, e_get, e_put, e_ald, e_ast, e_aald, e_aast, e_copy, e_new, e_newa, e_anewa, e_min, e_abs, e_oinit, e_callI, e_callV, e_callS, e_iret, e_zret, e_lret, e_vret, e_tl1, e_tl0, e_tl2, e_tl3, z10, Bool.false_eq_true, e_argi, e_argr, e_argn, zld_c, zst_n, zst_c, zpick_n, zpick_c, List.drop_succ_cons, List.drop_zero, List.take_succ_cons, List.take_zero, List.length_cons, List.length_nil, List.reverse_cons, List.reverse_nil, List.nil_append, List.cons_append, List.append_nil, List.getElem?_cons_zero, List.getElem?_cons_succ, List.set_cons_zero, List.set_cons_succ, Nat.add_sub_cancel_left, Nat.sub_self, Nat.add_zero, Nat.zero_add, Nat.le_add_right, Nat.le_refl, true_and, and_true, va_rf, zok, Nat.add_left_cancel_iff, Nat.add_eq_left, Nat.left_eq_add, eq_self, if_true, if_false, not_false_eq_true, not_true_eq_false, false_implies, true_implies, Nat.reduceEqDiff, Nat.reduceAdd, Nat.reduceLT, Nat.reduceLeDiff, reduceIte, cle, e_icmp, e_if, zM0, f0, f1, e1', N0, N1, N9, g9, hin, hcl, i6 t (by omega), c6 t (by omega), hgt, kn, zbit hM64 hr6, zbit hG hr6, tb, tz]
      refine ⟨fun c1 => n108 (zdir_hi hM c1), fun c1 => ⟨fun c2 => ⟨fun c3 => ?_, fun c3 => ?_⟩, fun c2 => ?_⟩⟩
      · refine ⟨n, lo, la, c, i, r, M, rfl, fR, fi, hmk, hi, hr6, hM64, ?_⟩
        have hzd : zdir n c S M G r = (match zring n c M r with | none => none | some q => if S.testBit q then some q else none) := by unfold zdir; rw [c2, c3]; rfl
        cases hq : zring n c M r with
        | none =>
          rw [hq] at hzd
          simp -implicitDefEqProofs only [B_X6_doesGo_110, e_cut, e_iload, e_aload, e_istore, e_astore, e_iinc, e_const, e_lconst, e_bin, e_bin0, e_un, e_ladd, e_dupi, e_dupr, e_dup2, e_pop, e_sw, e_sw0, e_sw1, e_get, e_put, e_ald, e_ast, e_aald, e_aast, e_copy, e_new, e_newa, e_anewa, e_min, e_abs, e_oinit, e_callI, e_callV, e_callS, e_iret, e_zret, e_lret, e_vret, e_tl1, e_tl0, e_tl2, e_tl3, z10, Bool.false_eq_true, e_argi, e_argr, e_argn, zld_c, zst_n, zst_c, zpick_n, zpick_c, List.drop_succ_cons, List.drop_zero, List.take_succ_cons, List.take_zero, List.length_cons, List.length_nil, List.reverse_cons, List.reverse_nil, List.nil_append, List.cons_append, List.append_nil, List.getElem?_cons_zero, List.getElem?_cons_succ, List.set_cons_zero, List.set_cons_succ, Nat.add_sub_cancel_left, Nat.sub_self, Nat.add_zero, Nat.zero_add, Nat.le_add_right, Nat.le_refl, true_and, and_true, va_rf, zok, Nat.add_left_cancel_iff, Nat.add_eq_left, Nat.left_eq_add, eq_self, if_true, if_false, not_false_eq_true, not_true_eq_false, false_implies, true_implies, Nat.reduceEqDiff, Nat.reduceAdd, Nat.reduceLT, Nat.reduceLeDiff, reduceIte, zrv, e_icmpt (c2 := fun x y => x = y) m9]
          exact no hzd _
        | some q =>
          have hqn := (zfo_lt hq).1
          have hq6 : q < 6 := by omega
          rw [hq] at hzd
          by_cases c4 : S.testBit q = true
          · replace hzd : zdir n c S M G r = some q := by rw [hzd]; simp [c4]
            rw [hzd] at hz
            simp -implicitDefEqProofs only [B_X6_doesGo_110, e_cut, e_iload, e_aload, e_istore, e_astore, e_iinc, e_const, e_lconst, e_bin, e_bin0, e_un, e_ladd, e_dupi, e_dupr, e_dup2, e_pop, e_sw, e_sw0, e_sw1, e_get, e_put, e_ald, e_ast, e_aald, e_aast, e_copy, e_new, e_newa, e_anewa, e_min, e_abs, e_oinit, e_callI, e_callV, e_callS, e_iret, e_zret, e_lret, e_vret, e_tl1, e_tl0, e_tl2, e_tl3, z10, Bool.false_eq_true, e_argi, e_argr, e_argn, zld_c, zst_n, zst_c, zpick_n, zpick_c, List.drop_succ_cons, List.drop_zero, List.take_succ_cons, List.take_zero, List.length_cons, List.length_nil, List.reverse_cons, List.reverse_nil, List.nil_append, List.cons_append, List.append_nil, List.getElem?_cons_zero, List.getElem?_cons_succ, List.set_cons_zero, List.set_cons_succ, Nat.add_sub_cancel_left, Nat.sub_self, Nat.add_zero, Nat.zero_add, Nat.le_add_right, Nat.le_refl, true_and, and_true, va_rf, zok, Nat.add_left_cancel_iff, Nat.add_eq_left, Nat.left_eq_add, eq_self, if_true, if_false, not_false_eq_true, not_true_eq_false, false_implies, true_implies, Nat.reduceEqDiff, Nat.reduceAdd, Nat.reduceLT, Nat.reduceLeDiff, reduceIte, zrv, e_icmpf (c2 := fun x y => x = y) (zrv_nn hq6), zbit hS hq6, c4, e_iff (c1 := fun x => x = 0) (x := 1) (by decide), zset_i hG hr6, zclr_i hM64 hq6, nI_1]
            exact ih (t + 1) (zclr M q) (zset G r) (by omega) (Nat.lt_of_le_of_lt zclr_le hM) (zset_lt hG hr6) hz
          · replace hzd : zdir n c S M G r = none := by rw [hzd]; simp [c4]
            simp -implicitDefEqProofs only [B_X6_doesGo_110, e_cut, e_iload, e_aload, e_istore, e_astore, e_iinc, e_const, e_lconst, e_bin, e_bin0, e_un, e_ladd, e_dupi, e_dupr, e_dup2, e_pop, e_sw, e_sw0, e_sw1, e_get, e_put, e_ald, e_ast, e_aald, e_aast, e_copy, e_new, e_newa, e_anewa, e_min, e_abs, e_oinit, e_callI, e_callV, e_callS, e_iret, e_zret, e_lret, e_vret, e_tl1, e_tl0, e_tl2, e_tl3, z10, Bool.false_eq_true, e_argi, e_argr, e_argn, zld_c, zst_n, zst_c, zpick_n, zpick_c, List.drop_succ_cons, List.drop_zero, List.take_succ_cons, List.take_zero, List.length_cons, List.length_nil, List.reverse_cons, List.reverse_nil, List.nil_append, List.cons_append, List.append_nil, List.getElem?_cons_zero, List.getElem?_cons_succ, List.set_cons_zero, List.set_cons_succ, Nat.add_sub_cancel_left, Nat.sub_self, Nat.add_zero, Nat.zero_add, Nat.le_add_right, Nat.le_refl, true_and, and_true, va_rf, zok, Nat.add_left_cancel_iff, Nat.add_eq_left, Nat.left_eq_add, eq_self, if_true, if_false, not_false_eq_true, not_true_eq_false, false_implies, true_implies, Nat.reduceEqDiff, Nat.reduceAdd, Nat.reduceLT, Nat.reduceLeDiff, reduceIte, zrv, e_icmpf (c2 := fun x y => x = y) (zrv_nn hq6), zbit hS hq6, c4, e_ift (c1 := fun x => x = 0) (x := 0) rfl]
            exact no hzd _
      · exact n108 (by unfold zdir; rw [show G.testBit r = true by simpa using c3]; simp)
      · exact n108 (by unfold zdir; rw [show M.testBit r = false by simpa using c2]; simp)
  -- the figures
  have loop1 : ∀ (u : Nat) (g : Nat → Int32) (E1 : zE), u ≤ m → E1 169 = .inl (cy 1, 6, .inl g) → (∀ j, u ≤ j → j < m → g j = nI (zfig m x j)) → (∀ j, j ≠ 169 → E1 j = E j) → A 8 [(0, .ref (b + 159)), (1, .ref (b + i)), (3, .int (nI m)), (4, .int (nI S)), (5, .int (nI (x / 6 ^ (m - u)))), (6, .int (nI u - 1))] [] 0 0 E1 := by
    intro u
    induction u with
    | zero =>
      intro g E1 hu g9 hg hk
      apply hA8
      have clt : nI 0 - 1 < 0 := by decide
      have fi := (hk i hi9).trans hE
      simp -implicitDefEqProofs only [B_X6_doesGo_8, e_cut, e_iload, e_aload, e_istore, e_astore, e_iinc, e_const, e_lconst, e_bin, e_bin0, e_un, e_ladd, e_dupi, e_dupr, e_dup2, e_pop, e_sw, e_sw0, e_sw1, e_get, e_put, e_ald, e_ast, e_aald, e_aast, e_copy, e_new, e_newa, e_anewa, e_min, e_abs, e_oinit, e_callI, e_callV, e_callS, e_iret, e_zret, e_lret, e_vret, e_tl1, e_tl0, e_tl2, e_tl3, z10, Bool.false_eq_true, e_argi, e_argr, e_argn, zld_c, zst_n, zst_c, zpick_n, zpick_c, List.drop_succ_cons, List.drop_zero, List.take_succ_cons, List.take_zero, List.length_cons, List.length_nil, List.reverse_cons, List.reverse_nil, List.nil_append, List.cons_append, List.append_nil, List.getElem?_cons_zero, List.getElem?_cons_succ, List.set_cons_zero, List.set_cons_succ, Nat.add_sub_cancel_left, Nat.sub_self, Nat.add_zero, Nat.zero_add, Nat.le_add_right, Nat.le_refl, true_and, and_true, va_rf, zok, Nat.add_left_cancel_iff, Nat.add_eq_left, Nat.left_eq_add, eq_self, if_true, if_false, not_false_eq_true, not_true_eq_false, false_implies, true_implies, Nat.reduceEqDiff, Nat.reduceAdd, Nat.reduceLT, Nat.reduceLeDiff, reduceIte, e_ift (c1 := fun x => x < 0) (x := nI 0 - 1) clt, fi, hi, in1, cl1, v1]
      exact loop2 g E1 g9 (fun j hj => hg j (Nat.zero_le _) hj) hk m 0 (c 1) 0 (by omega) hmk.2.1 (by omega) rfl
    | succ u ih =>
      intro g E1 hu g9 hg hk
      apply hA8
      rw [nI_pred]
      have clt : ¬ nI u < 0 := nI_pos (by omega)
      have f0 := (hk 159 (by omega)).trans e0
      have hxb : x / 6 ^ (m - (u + 1)) < 2 ^ 31 := Nat.lt_of_le_of_lt (Nat.div_le_self _ _) (by omega)
      have k60 : ¬ nI 6 = 0 := by decide
      have hdv : x / 6 ^ (m - (u + 1)) / 6 = x / 6 ^ (m - u) := by
        rw [Nat.div_div_eq_div_mul, ← Nat.pow_succ, show (m - (u + 1)).succ = m - u by omega]
      have hm1 : nI u + -1 = nI u - 1 := by rw [Int32.sub_eq_add_neg]
      simp -implicitDefEqProofs only [B_X6_doesGo_8, e_cut, e_iload, e_aload, e_istore, e_astore, e_iinc, e_const, e_lconst, e_bin, e_bin0, e_un, e_ladd, e_dupi, e_dupr, e_dup2, e_pop, e_sw, e_sw0, e_sw1, e_get, e_put, e_ald, e_ast, e_aald, e_aast, e_copy, e_new, e_newa, e_anewa, e_min, e_abs, e_oinit, e_callI, e_callV, e_callS, e_iret, e_zret, e_lret, e_vret, e_tl1, e_tl0, e_tl2, e_tl3, z10, Bool.false_eq_true, e_argi, e_argr, e_argn, zld_c, zst_n, zst_c, zpick_n, zpick_c, List.drop_succ_cons, List.drop_zero, List.take_succ_cons, List.take_zero, List.length_cons, List.length_nil, List.reverse_cons, List.reverse_nil, List.nil_append, List.cons_append, List.append_nil, List.getElem?_cons_zero, List.getElem?_cons_succ, List.set_cons_zero, List.set_cons_succ, Nat.add_sub_cancel_left, Nat.sub_self, Nat.add_zero, Nat.zero_add, Nat.le_add_right, Nat.le_refl, true_and, and_true, va_rf, zok, Nat.add_left_cancel_iff, Nat.add_eq_left, Nat.left_eq_add, eq_self, if_true, if_false, not_false_eq_true, not_true_eq_false, false_implies, true_implies, Nat.reduceEqDiff, Nat.reduceAdd, Nat.reduceLT, Nat.reduceLeDiff, reduceIte, e_iff (c1 := fun x => x < 0) (x := nI u) clt, zM0, f0, N0, N9, g9, k6, k60, i6 u (by omega), c6 u (by omega), pk_rem hxb (show 0 < 6 by omega) (show 6 < 2 ^ 31 by omega), pk_div hxb (show 0 < 6 by omega) (show 6 < 2 ^ 31 by omega), hdv, hm1]
      refine ih _ _ (by omega) u_eq (fun j h1 h2 => ?_) (fun j hj => (u_ne hj).trans (hk j hj))
      simp only [upd]
      by_cases e : j = u
      · rw [if_pos e, e]; unfold zfig; rw [show m - 1 - u = m - (u + 1) by omega]
        have h9 := pk_rem hxb (show 0 < 6 by omega) (show 6 < 2 ^ 31 by omega)
        rw [pk_div hxb (show 0 < 6 by omega) (show 6 < 2 ^ 31 by omega), hdv] at h9
        exact h9
      · rw [if_neg e]; exact hg j (by omega) h2
  simp -implicitDefEqProofs only [B_X6_doesGo_0, e_cut, e_iload, e_aload, e_istore, e_astore, e_iinc, e_const, e_lconst, e_bin, e_bin0, e_un, e_ladd, e_dupi, e_dupr, e_dup2, e_pop, e_sw, e_sw0, e_sw1, e_get, e_put, e_ald, e_ast, e_aald, e_aast, e_copy, e_new, e_newa, e_anewa, e_min, e_abs, e_oinit, e_callI, e_callV, e_callS, e_iret, e_zret, e_lret, e_vret, e_tl1, e_tl0, e_tl2, e_tl3, z10, Bool.false_eq_true, e_argi, e_argr, e_argn, zld_c, zst_n, zst_c, zpick_n, zpick_c, List.drop_succ_cons, List.drop_zero, List.take_succ_cons, List.take_zero, List.length_cons, List.length_nil, List.reverse_cons, List.reverse_nil, List.nil_append, List.cons_append, List.append_nil, List.getElem?_cons_zero, List.getElem?_cons_succ, List.set_cons_zero, List.set_cons_succ, Nat.add_sub_cancel_left, Nat.sub_self, Nat.add_zero, Nat.zero_add, Nat.le_add_right, Nat.le_refl, true_and, and_true, va_rf, zok, Nat.add_left_cancel_iff, Nat.add_eq_left, Nat.left_eq_add, eq_self, if_true, if_false, not_false_eq_true, not_true_eq_false, false_implies, true_implies, Nat.reduceEqDiff, Nat.reduceAdd, Nat.reduceLT, Nat.reduceLeDiff, reduceIte]
  have h9 := loop1 m h0 E (Nat.le_refl _) e9 (fun j h1 h2 => by omega) (fun _ _ => rfl)
  rw [Nat.sub_self, Nat.pow_zero, Nat.div_one] at h9
  exact h9
set_option maxRecDepth 20000 in
theorem f_X6_doesGo_39 : Cond.fieldLink RX6 39 (TX6 17).1 (TX6 17).2.1 (TX6 17).2.2.1 ∈ wsX6_doesGo := by decide +kernel
set_option maxRecDepth 20000 in
theorem k_X6_doesGo_6 : ∀ w ∈ u_ws RX6 TX6 21, w ∈ wsX6_doesGo := fun _ h => List.mem_cons_of_mem _ (List.mem_append_right _ h)
set_option maxRecDepth 20000 in
theorem f_X6_doesGo_13 : Cond.fieldLink RX6 13 (TX6 3).1 (TX6 3).2.1 (TX6 3).2.2.1 ∈ wsX6_doesGo := by decide +kernel
set_option maxRecDepth 100000 in
set_option maxHeartbeats 4000000 in
theorem S_X6_doesGo_129 {p : Program} {e : Env} {s : State} {m : MethodId} {args : Array Value} {below : List Frame} {meth : Method} {c : Code} {D : va_G} {cy : zY} {b n0 : Nat} {P : zPo} (la : Launch) (X : zX p la e (rm_X6_doesGo) s m args below meth c 11 D cy b n0 cX6_doesGo wsX6_doesGo RX6) (hr : meth.sig.returnType = (some .boolean)) (h_X6_byRing : zMet la yX6_byRing wsX6_byRing rm_X6_byRing 0 0 sp_X6_byRing) : zS p la e (rm_X6_doesGo) s m args below meth c (MQ below (zQ D b (n0 + 0) P) args s 0 0 (fun q => b ≤ q)) 11 D b n0 129 (B_X6_doesGo_129 b n0 cy P (zAt p la e (rm_X6_doesGo) s m args below meth c (MQ below (zQ D b (n0 + 0) P) args s 0 0 (fun q => b ≤ q)) 11 D b n0)) := by
  unfold B_X6_doesGo_129
  exact (s_iconst X dX6_doesGo_129 (by decide) (s_zret X dX6_doesGo_130 hr))
set_option maxRecDepth 100000 in
set_option maxHeartbeats 4000000 in
theorem S_X6_doesGo_110 {p : Program} {e : Env} {s : State} {m : MethodId} {args : Array Value} {below : List Frame} {meth : Method} {c : Code} {D : va_G} {cy : zY} {b n0 : Nat} {P : zPo} (la : Launch) (X : zX p la e (rm_X6_doesGo) s m args below meth c 11 D cy b n0 cX6_doesGo wsX6_doesGo RX6) (hr : meth.sig.returnType = (some .boolean)) (h_X6_byRing : zMet la yX6_byRing wsX6_byRing rm_X6_byRing 0 0 sp_X6_byRing) : zS p la e (rm_X6_doesGo) s m args below meth c (MQ below (zQ D b (n0 + 0) P) args s 0 0 (fun q => b ≤ q)) 11 D b n0 110 (B_X6_doesGo_110 b n0 cy P (zAt p la e (rm_X6_doesGo) s m args below meth c (MQ below (zQ D b (n0 + 0) P) args s 0 0 (fun q => b ≤ q)) 11 D b n0)) := by
  unfold B_X6_doesGo_110
  exact (s_istore X dX6_doesGo_110 (by decide) (s_iload X dX6_doesGo_112 (s_bipush X dX6_doesGo_114 (by decide) (s_icmp_eq X dX6_doesGo_116 (by decide) (S_X6_doesGo_129 la X hr h_X6_byRing) (s_iload X dX6_doesGo_119 (s_iload X dX6_doesGo_121 (s_ishr X dX6_doesGo_123 (s_iconst X dX6_doesGo_124 (by decide) (s_iand X dX6_doesGo_125 (s_if_ne X dX6_doesGo_126 (by decide) (s_iload X dX6_doesGo_131 (s_iconst X dX6_doesGo_133 (by decide) (s_iload X dX6_doesGo_134 (s_ishl X dX6_doesGo_136 (s_ior X dX6_doesGo_137 (s_istore X dX6_doesGo_138 (by decide) (s_iload X dX6_doesGo_140 (s_iconst X dX6_doesGo_142 (by decide) (s_iload X dX6_doesGo_143 (s_ishl X dX6_doesGo_145 (s_iconst X dX6_doesGo_146 (by decide) (s_ixor X dX6_doesGo_147 (s_iand X dX6_doesGo_148 (s_istore X dX6_doesGo_149 (by decide) (s_iinc X dX6_doesGo_151 (by decide) (by decide) (s_goto X dX6_doesGo_154 (by decide) (s_cut (by decide) zS_at))))))))))))))))) (S_X6_doesGo_129 la X hr h_X6_byRing)))))))))))
set_option maxRecDepth 100000 in
set_option maxHeartbeats 4000000 in
theorem S_X6_doesGo_108 {p : Program} {e : Env} {s : State} {m : MethodId} {args : Array Value} {below : List Frame} {meth : Method} {c : Code} {D : va_G} {cy : zY} {b n0 : Nat} {P : zPo} (la : Launch) (X : zX p la e (rm_X6_doesGo) s m args below meth c 11 D cy b n0 cX6_doesGo wsX6_doesGo RX6) (hr : meth.sig.returnType = (some .boolean)) (h_X6_byRing : zMet la yX6_byRing wsX6_byRing rm_X6_byRing 0 0 sp_X6_byRing) : zS p la e (rm_X6_doesGo) s m args below meth c (MQ below (zQ D b (n0 + 0) P) args s 0 0 (fun q => b ≤ q)) 11 D b n0 108 (B_X6_doesGo_108 b n0 cy P (zAt p la e (rm_X6_doesGo) s m args below meth c (MQ below (zQ D b (n0 + 0) P) args s 0 0 (fun q => b ≤ q)) 11 D b n0)) := by
  unfold B_X6_doesGo_108
  exact (s_bipush X dX6_doesGo_108 (by decide) (S_X6_doesGo_110 la X hr h_X6_byRing))
set_option maxRecDepth 100000 in
set_option maxHeartbeats 4000000 in
theorem S_X6_doesGo_49 {p : Program} {e : Env} {s : State} {m : MethodId} {args : Array Value} {below : List Frame} {meth : Method} {c : Code} {D : va_G} {cy : zY} {b n0 : Nat} {P : zPo} (la : Launch) (X : zX p la e (rm_X6_doesGo) s m args below meth c 11 D cy b n0 cX6_doesGo wsX6_doesGo RX6) (hr : meth.sig.returnType = (some .boolean)) (h_X6_byRing : zMet la yX6_byRing wsX6_byRing rm_X6_byRing 0 0 sp_X6_byRing) : zS p la e (rm_X6_doesGo) s m args below meth c (MQ below (zQ D b (n0 + 0) P) args s 0 0 (fun q => b ≤ q)) 11 D b n0 49 (B_X6_doesGo_49 b n0 cy P (zAt p la e (rm_X6_doesGo) s m args below meth c (MQ below (zQ D b (n0 + 0) P) args s 0 0 (fun q => b ≤ q)) 11 D b n0)) := by
  unfold B_X6_doesGo_49
  exact (s_iload X dX6_doesGo_49 (s_iload_n X dX6_doesGo_51 rfl (s_icmp_ge X dX6_doesGo_52 (by decide) (s_iconst X dX6_doesGo_157 (by decide) (s_zret X dX6_doesGo_158 hr)) (s_aload_n X dX6_doesGo_55 rfl (s_get X dX6_doesGo_56 rfl k_X6_doesGo_6 (by decide) f_X6_doesGo_39 (s_iload X dX6_doesGo_59 (s_iald X dX6_doesGo_61 (s_istore X dX6_doesGo_62 (by decide) (s_iload X dX6_doesGo_64 (s_aload_n X dX6_doesGo_66 rfl (s_get X dX6_doesGo_67 rfl k_X6_doesGo_6 (by decide) f_X6_doesGo_13 (s_iconst X dX6_doesGo_70 (by decide) (s_iald X dX6_doesGo_71 (s_icmp_ge X dX6_doesGo_72 (by decide) (S_X6_doesGo_108 la X hr h_X6_byRing) (s_iload X dX6_doesGo_75 (s_iload X dX6_doesGo_77 (s_ishr X dX6_doesGo_79 (s_iconst X dX6_doesGo_80 (by decide) (s_iand X dX6_doesGo_81 (s_iconst X dX6_doesGo_82 (by decide) (s_icmp_ne X dX6_doesGo_83 (by decide) (S_X6_doesGo_108 la X hr h_X6_byRing) (s_iload X dX6_doesGo_86 (s_iload X dX6_doesGo_88 (s_ishr X dX6_doesGo_90 (s_iconst X dX6_doesGo_91 (by decide) (s_iand X dX6_doesGo_92 (s_if_ne X dX6_doesGo_93 (by decide) (S_X6_doesGo_108 la X hr h_X6_byRing) (s_aload_n X dX6_doesGo_96 rfl (s_aload_n X dX6_doesGo_97 rfl (s_iload X dX6_doesGo_98 (s_iload X dX6_doesGo_100 (s_callV X h_X6_byRing dX6_doesGo_102 rfl gX6_doesGo_X6_byRing rfl rfl rfl (by decide +kernel) ⟨by decide, by decide⟩ (s_goto X dX6_doesGo_105 (by decide) (S_X6_doesGo_110 la X hr h_X6_byRing))))))))))))))))))))))))))))))))))
set_option maxRecDepth 100000 in
set_option maxHeartbeats 4000000 in
theorem S_X6_doesGo_8 {p : Program} {e : Env} {s : State} {m : MethodId} {args : Array Value} {below : List Frame} {meth : Method} {c : Code} {D : va_G} {cy : zY} {b n0 : Nat} {P : zPo} (la : Launch) (X : zX p la e (rm_X6_doesGo) s m args below meth c 11 D cy b n0 cX6_doesGo wsX6_doesGo RX6) (hr : meth.sig.returnType = (some .boolean)) (h_X6_byRing : zMet la yX6_byRing wsX6_byRing rm_X6_byRing 0 0 sp_X6_byRing) : zS p la e (rm_X6_doesGo) s m args below meth c (MQ below (zQ D b (n0 + 0) P) args s 0 0 (fun q => b ≤ q)) 11 D b n0 8 (B_X6_doesGo_8 b n0 cy P (zAt p la e (rm_X6_doesGo) s m args below meth c (MQ below (zQ D b (n0 + 0) P) args s 0 0 (fun q => b ≤ q)) 11 D b n0)) := by
  unfold B_X6_doesGo_8
  exact (s_iload X dX6_doesGo_8 (s_if_lt X dX6_doesGo_10 (by decide) (s_aload_n X dX6_doesGo_38 rfl (s_iconst X dX6_doesGo_39 (by decide) (s_iald X dX6_doesGo_40 (s_istore X dX6_doesGo_41 (by decide) (s_iconst X dX6_doesGo_43 (by decide) (s_istore X dX6_doesGo_44 (by decide) (s_iconst X dX6_doesGo_46 (by decide) (s_istore X dX6_doesGo_47 (by decide) (s_cut (by decide) zS_at))))))))) (s_aload_n X dX6_doesGo_13 rfl (s_get X dX6_doesGo_14 rfl k_X6_doesGo_6 (by decide) f_X6_doesGo_39 (s_iload X dX6_doesGo_17 (s_iload X dX6_doesGo_19 (s_bipush X dX6_doesGo_21 (by decide) (s_irem X dX6_doesGo_23 (s_iast X dX6_doesGo_24 (s_iload X dX6_doesGo_25 (s_bipush X dX6_doesGo_27 (by decide) (s_idiv X dX6_doesGo_29 (s_istore X dX6_doesGo_30 (by decide) (s_iinc X dX6_doesGo_32 (by decide) (by decide) (s_goto X dX6_doesGo_35 (by decide) (s_cut (by decide) zS_at))))))))))))))))
set_option maxRecDepth 100000 in
set_option maxHeartbeats 4000000 in
theorem S_X6_doesGo_0 {p : Program} {e : Env} {s : State} {m : MethodId} {args : Array Value} {below : List Frame} {meth : Method} {c : Code} {D : va_G} {cy : zY} {b n0 : Nat} {P : zPo} (la : Launch) (X : zX p la e (rm_X6_doesGo) s m args below meth c 11 D cy b n0 cX6_doesGo wsX6_doesGo RX6) (hr : meth.sig.returnType = (some .boolean)) (h_X6_byRing : zMet la yX6_byRing wsX6_byRing rm_X6_byRing 0 0 sp_X6_byRing) : zS p la e (rm_X6_doesGo) s m args below meth c (MQ below (zQ D b (n0 + 0) P) args s 0 0 (fun q => b ≤ q)) 11 D b n0 0 (B_X6_doesGo_0 b n0 cy P (zAt p la e (rm_X6_doesGo) s m args below meth c (MQ below (zQ D b (n0 + 0) P) args s 0 0 (fun q => b ≤ q)) 11 D b n0)) := by
  unfold B_X6_doesGo_0
  exact (s_iload_n X dX6_doesGo_0 rfl (s_istore X dX6_doesGo_1 (by decide) (s_iload_n X dX6_doesGo_3 rfl (s_iconst X dX6_doesGo_4 (by decide) (s_isub X dX6_doesGo_5 (s_istore X dX6_doesGo_6 (by decide) (s_cut (by decide) zS_at)))))))
theorem w_X6_doesGo (la : Launch) (h_X6_byRing : zMet la yX6_byRing wsX6_byRing rm_X6_byRing 0 0 sp_X6_byRing) (sp : zSp) (vc : zVC_X6_doesGo sp) : zMet la yX6_doesGo wsX6_doesGo (rm_X6_doesGo) 0 0 sp :=
  z_of (cc := cX6_doesGo) (maxL := 11) (ret := (some .boolean)) (by decide +kernel) rfl (fun p e s m args below meth c D cy b n as E P hsp X hr hin => by
    obtain ⟨h1, h2⟩ := vc b cy n as E P (zAt p la e (rm_X6_doesGo) s m args below meth c (MQ below (zQ D b (n + 0) P) args s 0 0 (fun q => b ≤ q)) 11 D b n) (fun _ _ _ _ _ q => S_X6_doesGo_8 la X hr h_X6_byRing _ _ _ _ _ q) (fun _ _ _ _ _ q => S_X6_doesGo_49 la X hr h_X6_byRing _ _ _ _ _ q) hsp
    exact ⟨h1, S_X6_doesGo_0 la X hr h_X6_byRing _ _ _ _ _ h2⟩)

theorem m_X6_doesGo (la : Launch) : zMet la yX6_doesGo wsX6_doesGo rm_X6_doesGo 0 0 sp_X6_doesGo := w_X6_doesGo la (m_X6_byRing la) _ vc_X6_doesGo
def sp_X6_rowsOf : zSp := fun b cy as N E P => ∃ (i n : Nat) (lo la c : Nat → Nat) (S : Nat), as = [.ref (b + 159), .ref (b + i), .int (nI S)] ∧ zMR b cy N E n lo la ∧ zAr cy E i n c ∧ zMok n c ∧ i < N ∧ i ≠ 169 ∧ S < 64 ∧ S &&& c 1 = S ∧ (∃ h : Nat → Int32, E 169 = .inl (cy 1, 6, .inl h)) ∧ (∀ E' g, E' 169 = .inl (cy 1, 6, .inl g) → (0 < zrows n c S 6 (c 1) 0 → ∀ t, zrat n c S 6 (c 1) 0 t = none ∧ zpop S ≤ t ∨ t < zpop S ∧ ∃ v, zrat n c S 6 (c 1) 0 t = some v ∧ g t = nI v) → (∀ j, j ≠ 169 → E' j = E j) → P (some (.int (nI (zrows n c S 6 (c 1) 0)))) E')
abbrev rm_X6_rowsOf : Room := { frames := 3, cells := 0, slots := 0, locals := 97 }
def B_X6_rowsOf_72 (b n0 : Nat) (cy : zY) (P : zPo) (A : Nat → zC) : zC :=
  z_iinc 6 (1) (z_cut [0, 1, 2, 3, 4, 5, 6] (A 34))
def B_X6_rowsOf_67 (b n0 : Nat) (cy : zY) (P : zPo) (A : Nat → zC) : zC :=
  z_istore 5 (z_iinc 4 (1) (B_X6_rowsOf_72 b n0 cy P A))
def B_X6_rowsOf_34 (b n0 : Nat) (cy : zY) (P : zPo) (A : Nat → zC) : zC :=
  z_iload 6 (z_iload 3 (z_icmp (fun x y => y ≤ x) (z_aload 0 (z_aload 1 (z_iload 5 (z_iload 2 (z_callS b n0 0 0 cy 1 0 0 sp_X6_manyOf (z_iload 2 (z_callV b n0 0 0 cy 6 4 0 0 sp_X6_doesGo (z_pop (z_iload 4 (z_iret 0 0 P)))))))))) (z_aload 0 (z_aload 1 (z_iload 6 (z_iload 2 (z_callS b n0 0 0 cy 1 0 0 sp_X6_manyOf (z_iload 2 (z_callV b n0 0 0 cy 6 4 0 0 sp_X6_doesGo (z_if (fun x => x = 0) (B_X6_rowsOf_72 b n0 cy P A) (z_iload 4 (z_if (fun x => x = 0) (z_iload 6 (B_X6_rowsOf_67 b n0 cy P A)) (z_iload 5 (B_X6_rowsOf_67 b n0 cy P A))))))))))))))
def B_X6_rowsOf_5 (b n0 : Nat) (cy : zY) (P : zPo) (A : Nat → zC) : zC :=
  z_iload 4 (z_iload 2 (z_callS b n0 0 0 cy 1 0 0 sp_X6_manyOf (z_icmp (fun x y => y ≤ x) (z_const (0) (z_istore 4 (z_const (0) (z_istore 5 (z_const (0) (z_istore 6 (z_cut [0, 1, 2, 3, 4, 5, 6] (A 34)))))))) (z_iload 3 (z_const (6) (z_bin (fun x y => x * y) (z_istore 3 (z_iinc 4 (1) (z_cut [0, 1, 2, 3, 4] (A 5))))))))))
def B_X6_rowsOf_0 (b n0 : Nat) (cy : zY) (P : zPo) (A : Nat → zC) : zC :=
  z_const (1) (z_istore 3 (z_const (0) (z_istore 4 (z_cut [0, 1, 2, 3, 4] (A 5)))))
def zVC_X6_rowsOf (sp : zSp) : Prop := ∀ (b : Nat) (cy : zY) (n : Nat) (as : List Value) (E : zE) (P : zPo) (A : Nat → zC), (∀ l st k u E, B_X6_rowsOf_5 b n cy P A l st k u E → A 5 l st k u E) → (∀ l st k u E, B_X6_rowsOf_34 b n cy P A l st k u E → A 34 l st k u E) → sp b cy as n E P → zgood as 7 ∧ B_X6_rowsOf_0 b n cy P A (lv_args 0 as) [] 0 0 E

theorem zpop_le_all : ∀ M : Fin 64, zpop M.val ≤ 6 := by decide +kernel
theorem zpop_le {M : Nat} (h : M < 64) : zpop M ≤ 6 := zpop_le_all ⟨M, h⟩
set_option maxRecDepth 100000 in
set_option maxHeartbeats 4000000 in
theorem vc_X6_rowsOf : zVC_X6_rowsOf sp_X6_rowsOf := by
  intro b cy N as E P A hA5 hA34 hsp
  obtain ⟨i, n, lo, la, c, S, rfl, hR, hAr, hmk, hi, hi9, hS, hSM, h9, hP⟩ := hsp
  refine ⟨⟨Nat.le_of_ble_eq_true rfl, zg1 rfl (zg1 rfl (zg1 rfl (zg0)))⟩, ?_⟩
  obtain ⟨⟨tr, ty, lt, qq, st, so, va, fa, se, e0⟩, _, _, _, hn, hlo, hN⟩ := id hR
  have N0 : 159 < N := by omega
  have h64 : 2 ^ n ≤ 2 ^ 6 := Nat.pow_le_pow_right (by omega) hn
  have e64 : (2 : Nat) ^ 6 = 64 := rfl
  obtain ⟨m, hm⟩ : ∃ m, m = zpop S := ⟨_, rfl⟩
  have hm6 : m ≤ 6 := by rw [hm]; exact zpop_le hS
  have hp6 : 6 ^ m ≤ 6 ^ 6 := Nat.pow_le_pow_right (by omega) hm6
  have e6 : (6 : Nat) ^ 6 = 46656 := rfl
  have hcnt := zrows_cnt (c := c) hn hS m 6 (c 1) 0 (by rw [hSM]; exact hm.symm) hm6 hmk.2.1
  have hpe : ∀ y, y < 6 ^ m → zdg n c S (zfig m y) m 0 (c 1) 0 = zdc n c S m (c 1) 0 y := fun y hy => by
    have := zdg_zdc (n := n) (c := c) (S := S) (m := m) (x := y) m 0 (c 1) 0 (by omega)
    rw [Nat.mod_eq_of_lt hy] at this; exact this
  obtain ⟨p, hp⟩ : ∃ p : Nat → Bool, p = fun y => zdc n c S m (c 1) 0 y := ⟨_, rfl⟩
  have hcnt2 : zrows n c S 6 (c 1) 0 = zsum (fun y => if p y = true then 1 else 0) (6 ^ m) := by rw [hcnt, hp]
  have cle6 : ∀ k, zsum (fun y => if p y = true then 1 else 0) k ≤ k := fun k => by
    have := zsum_le (g := fun y => if p y = true then 1 else 0) (B := 1) (fun r => by split <;> omega) k
    omega
  -- which code is the first
  have loop2 : ∀ (d k : Nat) (E1 : zE), d + k = 6 ^ m → (∃ h : Nat → Int32, E1 169 = .inl (cy 1, 6, .inl h)) → (∀ j, j ≠ 169 → E1 j = E j) → A 34 [(0, .ref (b + 159)), (1, .ref (b + i)), (2, .int (nI S)), (3, .int (nI (6 ^ m))), (4, .int (nI (zsum (fun y => if p y = true then 1 else 0) k))), (5, .int (nI (match zfind p 0 k with | none => 0 | some y => y))), (6, .int (nI k))] [] 0 0 E1 := by
    intro d
    induction d with
    | zero =>
      intro k E1 hd g9 hk
      obtain rfl : k = 6 ^ m := by omega
      apply hA34
      have cle : nI (6 ^ m) ≤ nI (6 ^ m) := nI_le (Nat.le_refl _) (by omega)
      have f0 := (hk 159 (by omega)).trans e0
      obtain ⟨y, hy⟩ : ∃ y, y = (match zfind p 0 (6 ^ m) with | none => 0 | some y => y) := ⟨_, rfl⟩
      rw [← hy]
      have hyl : y < 6 ^ m := by
        rw [hy]
        cases hz : zfind p 0 (6 ^ m) with
        | none => exact Nat.pow_pos (by omega)
        | some y => have := zfind_some hz; simp only; omega
      simp -implicitDefEqProofs only [B_X6_rowsOf_34, e_cut, e_iload, e_aload, e_istore, e_astore, e_iinc, e_const, e_lconst, e_bin, e_bin0, e_un, e_ladd, e_dupi, e_dupr, e_dup2, e_pop, e_sw, e_sw0, e_sw1, e_get, e_put, e_ald, e_ast, e_aald, e_aast, e_copy, e_new, e_newa, e_anewa, e_min, e_abs, e_oinit, e_callI, e_callV, e_callS, e_iret, e_zret, e_lret, e_vret, e_tl1, e_tl0, e_tl2, e_tl3, z10, Bool.false_eq_true, e_argi, e_argr, e_argn, zld_c, zst_n, zst_c, zpick_n, zpick_c, List.drop_succ_cons, List.drop_zero, List.take_succ_cons, List.take_zero, List.length_cons, List.length_nil, List.reverse_cons, List.reverse_nil, List.nil_append, List.cons_append, List.append_nil, List.getElem?_cons_zero, List.getElem?_cons_succ, List.set_cons_zero, List.set_cons_succ, Nat.add_sub_cancel_left, Nat.sub_self, Nat.add_zero, Nat.zero_add, Nat.le_add_right, Nat.le_refl, true_and, and_true, va_rf, zok, Nat.add_left_cancel_iff, Nat.add_eq_left, Nat.left_eq_add, eq_self, if_true, if_false, not_false_eq_true, not_true_eq_false, false_implies, true_implies, Nat.reduceEqDiff, Nat.reduceAdd, Nat.reduceLT, Nat.reduceLeDiff, reduceIte, e_icmpt (c2 := fun x y => y ≤ x) cle]
      refine ⟨S, rfl, hS, ?_⟩
      rw [← hm]
      simp -implicitDefEqProofs only [e_cut, e_iload, e_aload, e_istore, e_astore, e_iinc, e_const, e_lconst, e_bin, e_bin0, e_un, e_ladd, e_dupi, e_dupr, e_dup2, e_pop, e_sw, e_sw0, e_sw1, e_get, e_put, e_ald, e_ast, e_aald, e_aast, e_copy, e_new, e_newa, e_anewa, e_min, e_abs, e_oinit, e_callI, e_callV, e_callS, e_iret, e_zret, e_lret, e_vret, e_tl1, e_tl0, e_tl2, e_tl3, z10, Bool.false_eq_true, e_argi, e_argr, e_argn, zld_c, zst_n, zst_c, zpick_n, zpick_c, List.drop_succ_cons, List.drop_zero, List.take_succ_cons, List.take_zero, List.length_cons, List.length_nil, List.reverse_cons, List.reverse_nil, List.nil_append, List.cons_append, List.append_nil, List.getElem?_cons_zero, List.getElem?_cons_succ, List.set_cons_zero, List.set_cons_succ, Nat.add_sub_cancel_left, Nat.sub_self, Nat.add_zero, Nat.zero_add, Nat.le_add_right, Nat.le_refl, true_and, and_true, va_rf, zok, Nat.add_left_cancel_iff, Nat.add_eq_left, Nat.left_eq_add, eq_self, if_true, if_false, not_false_eq_true, not_true_eq_false, false_implies, true_implies, Nat.reduceEqDiff, Nat.reduceAdd, Nat.reduceLT, Nat.reduceLeDiff, reduceIte, zM0, f0, N0]
      refine ⟨i, n, lo, la, c, y, m, S, rfl, hR.congr (hk _ (by omega)) (hk _ (by omega)) (hk _ (by omega)) (hk _ (by omega)), hAr.congr (hk i hi9), hmk, hi, hi9, by omega, hm6, hS, g9, fun E2 g f9 hg hk2 => ?_⟩
      simp -implicitDefEqProofs only [e_cut, e_iload, e_aload, e_istore, e_astore, e_iinc, e_const, e_lconst, e_bin, e_bin0, e_un, e_ladd, e_dupi, e_dupr, e_dup2, e_pop, e_sw, e_sw0, e_sw1, e_get, e_put, e_ald, e_ast, e_aald, e_aast, e_copy, e_new, e_newa, e_anewa, e_min, e_abs, e_oinit, e_callI, e_callV, e_callS, e_iret, e_zret, e_lret, e_vret, e_tl1, e_tl0, e_tl2, e_tl3, z10, Bool.false_eq_true, e_argi, e_argr, e_argn, zld_c, zst_n, zst_c, zpick_n, zpick_c, List.drop_succ_cons, List.drop_zero, List.take_succ_cons, List.take_zero, List.length_cons, List.length_nil, List.reverse_cons, List.reverse_nil, List.nil_append, List.cons_append, List.append_nil, List.getElem?_cons_zero, List.getElem?_cons_succ, List.set_cons_zero, List.set_cons_succ, Nat.add_sub_cancel_left, Nat.sub_self, Nat.add_zero, Nat.zero_add, Nat.le_add_right, Nat.le_refl, true_and, and_true, va_rf, zok, Nat.add_left_cancel_iff, Nat.add_eq_left, Nat.left_eq_add, eq_self, if_true, if_false, not_false_eq_true, not_true_eq_false, false_implies, true_implies, Nat.reduceEqDiff, Nat.reduceAdd, Nat.reduceLT, Nat.reduceLeDiff, reduceIte]
      rw [← hcnt2]
      refine hP E2 g f9 (fun hpos t => ?_) (fun j hj => (hk2 j hj).trans (hk j hj))
      cases hz : zfind p 0 (6 ^ m) with
      | none => rw [hcnt2, zcnt_0.mpr hz] at hpos; omega
      | some y' =>
        rw [hz] at hy
        replace hy : y = y' := hy
        subst hy
        have hf := zfind_some hz
        rw [hp] at hf
        have hr := zrat_first (c := c) hn hS m 6 (c 1) 0 y hyl hf.2.2.1 (fun t ht => hf.2.2.2 t (Nat.zero_le _) ht) (by rw [hSM]; exact hm.symm) hm6 hmk.2.1 t
        rw [← hm]
        by_cases e : t < m
        · rw [if_pos e] at hr
          exact Or.inr ⟨e, _, hr, hg t e⟩
        · rw [if_neg e] at hr
          exact Or.inl ⟨hr, by omega⟩
    | succ d ih =>
      intro k E1 hd g9 hk
      have hkl : k < 6 ^ m := by omega
      apply hA34
      have cle : ¬ nI (6 ^ m) ≤ nI k := nI_ge hkl (by omega)
      have f0 := (hk 159 (by omega)).trans e0
      have h34 : ∀ E2 : zE, (∃ h : Nat → Int32, E2 169 = .inl (cy 1, 6, .inl h)) → (∀ j, j ≠ 169 → E2 j = E1 j) → A 34 [(0, .ref (b + 159)), (1, .ref (b + i)), (2, .int (nI S)), (3, .int (nI (6 ^ m))), (4, .int (nI (zsum (fun y => if p y = true then 1 else 0) (k + 1)))), (5, .int (nI (match zfind p 0 (k + 1) with | none => 0 | some y => y))), (6, .int (nI (k + 1)))] [] 0 0 E2 := fun E2 a1 a2 => ih (k + 1) E2 (by omega) a1 (fun j hj => (a2 j hj).trans (hk j hj))
      rw [zsum, zfind_succ, Nat.zero_add] at h34
      simp -implicitDefEqProofs only [B_X6_rowsOf_34, e_cut, e_iload, e_aload, e_istore, e_astore, e_iinc, e_const, e_lconst, e_bin, e_bin0, e_un, e_ladd, e_dupi, e_dupr, e_dup2, e_pop, e_sw, e_sw0, e_sw1, e_get, e_put, e_ald, e_ast, e_aald, e_aast, e_copy, e_new, e_newa, e_anewa, e_min, e_abs, e_oinit, e_callI, e_callV, e_callS, e_iret, e_zret, e_lret, e_vret, e_tl1, e_tl0, e_tl2, e_tl3, z10, Bool.false_eq_true, e_argi, e_argr, e_argn, zld_c, zst_n, zst_c, zpick_n, zpick_c, List.drop_succ_cons, List.drop_zero, List.take_succ_cons, List.take_zero, List.length_cons, List.length_nil, List.reverse_cons, List.reverse_nil, List.nil_append, List.cons_append, List.append_nil, List.getElem?_cons_zero, List.getElem?_cons_succ, List.set_cons_zero, List.set_cons_succ, Nat.add_sub_cancel_left, Nat.sub_self, Nat.add_zero, Nat.zero_add, Nat.le_add_right, Nat.le_refl, true_and, and_true, va_rf, zok, Nat.add_left_cancel_iff, Nat.add_eq_left, Nat.left_eq_add, eq_self, if_true, if_false, not_false_eq_true, not_true_eq_false, false_implies, true_implies, Nat.reduceEqDiff, Nat.reduceAdd, Nat.reduceLT, Nat.reduceLeDiff, reduceIte, e_icmpf (c2 := fun x y => y ≤ x) cle]
      refine ⟨S, rfl, hS, ?_⟩
      rw [← hm]
      simp -implicitDefEqProofs only [e_cut, e_iload, e_aload, e_istore, e_astore, e_iinc, e_const, e_lconst, e_bin, e_bin0, e_un, e_ladd, e_dupi, e_dupr, e_dup2, e_pop, e_sw, e_sw0, e_sw1, e_get, e_put, e_ald, e_ast, e_aald, e_aast, e_copy, e_new, e_newa, e_anewa, e_min, e_abs, e_oinit, e_callI, e_callV, e_callS, e_iret, e_zret, e_lret, e_vret, e_tl1, e_tl0, e_tl2, e_tl3, z10, Bool.false_eq_true, e_argi, e_argr, e_argn, zld_c, zst_n, zst_c, zpick_n, zpick_c, List.drop_succ_cons, List.drop_zero, List.take_succ_cons, List.take_zero, List.length_cons, List.length_nil, List.reverse_cons, List.reverse_nil, List.nil_append, List.cons_append, List.append_nil, List.getElem?_cons_zero, List.getElem?_cons_succ, List.set_cons_zero, List.set_cons_succ, Nat.add_sub_cancel_left, Nat.sub_self, Nat.add_zero, Nat.zero_add, Nat.le_add_right, Nat.le_refl, true_and, and_true, va_rf, zok, Nat.add_left_cancel_iff, Nat.add_eq_left, Nat.left_eq_add, eq_self, if_true, if_false, not_false_eq_true, not_true_eq_false, false_implies, true_implies, Nat.reduceEqDiff, Nat.reduceAdd, Nat.reduceLT, Nat.reduceLeDiff, reduceIte, zM0, f0, N0]
      refine ⟨i, n, lo, la, c, k, m, S, rfl, hR.congr (hk _ (by omega)) (hk _ (by omega)) (hk _ (by omega)) (hk _ (by omega)), hAr.congr (hk i hi9), hmk, hi, hi9, by omega, hm6, hS, g9, fun E2 g f9 hg hk2 => ?_⟩
      have hpk : zdg n c S (zfig m k) m 0 (c 1) 0 = p k := by rw [hpe k hkl, hp]
      rw [hpk]
      have h10 := h34 E2 ⟨g, f9⟩ hk2
      by_cases c1 : p k = true
      · rw [if_pos c1] at h10 ⊢
        cases hz : zfind p 0 k with
        | none =>
          have hz0 := zcnt_0.mpr hz
          rw [hz, hz0] at h10
          simp only [c1, if_true] at h10
          simp -implicitDefEqProofs only [e_cut, e_iload, e_aload, e_istore, e_astore, e_iinc, e_const, e_lconst, e_bin, e_bin0, e_un, e_ladd, e_dupi, e_dupr, e_dup2, e_pop, e_sw, e_sw0, e_sw1, e_get, e_put, e_ald, e_ast, e_aald, e_aast, e_copy, e_new, e_newa, e_anewa, e_min, e_abs, e_oinit, e_callI, e_callV, e_callS, e_iret, e_zret, e_lret, e_vret, e_tl1, e_tl0, e_tl2, e_tl3, z10, Bool.false_eq_true, e_argi, e_argr, e_argn, zld_c, zst_n, zst_c, zpick_n, zpick_c, List.drop_succ_cons, List.drop_zero, List.take_succ_cons, List.take_zero, List.length_cons, List.length_nil, List.reverse_cons, List.reverse_nil, List.nil_append, List.cons_append, List.append_nil, List.getElem?_cons_zero, List.getElem?_cons_succ, List.set_cons_zero, List.set_cons_succ, Nat.add_sub_cancel_left, Nat.sub_self, Nat.add_zero, Nat.zero_add, Nat.le_add_right, Nat.le_refl, true_and, and_true, va_rf, zok, Nat.add_left_cancel_iff, Nat.add_eq_left, Nat.left_eq_add, eq_self, if_true, if_false, not_false_eq_true, not_true_eq_false, false_implies, true_implies, Nat.reduceEqDiff, Nat.reduceAdd, Nat.reduceLT, Nat.reduceLeDiff, reduceIte, e_iff (c1 := fun x => x = 0) (x := 1) (by decide), hz0, e_ift (c1 := fun x => x = 0) (x := nI 0) rfl, B_X6_rowsOf_67, B_X6_rowsOf_72, nI_1]
          exact h10
        | some y =>
          have hnz : 0 < zsum (fun y => if p y = true then 1 else 0) k := by
            rcases Nat.eq_zero_or_pos (zsum (fun y => if p y = true then 1 else 0) k) with h | h
            · rw [zcnt_0.mp h] at hz; cases hz
            · exact h
          have nz : ¬ nI (zsum (fun y => if p y = true then 1 else 0) k) = 0 := nI_ne0 hnz (by have := cle6 k; omega)
          rw [hz] at h10
          simp -implicitDefEqProofs only [e_cut, e_iload, e_aload, e_istore, e_astore, e_iinc, e_const, e_lconst, e_bin, e_bin0, e_un, e_ladd, e_dupi, e_dupr, e_dup2, e_pop, e_sw, e_sw0, e_sw1, e_get, e_put, e_ald, e_ast, e_aald, e_aast, e_copy, e_new, e_newa, e_anewa, e_min, e_abs, e_oinit, e_callI, e_callV, e_callS, e_iret, e_zret, e_lret, e_vret, e_tl1, e_tl0, e_tl2, e_tl3, z10, Bool.false_eq_true, e_argi, e_argr, e_argn, zld_c, zst_n, zst_c, zpick_n, zpick_c, List.drop_succ_cons, List.drop_zero, List.take_succ_cons, List.take_zero, List.length_cons, List.length_nil, List.reverse_cons, List.reverse_nil, List.nil_append, List.cons_append, List.append_nil, List.getElem?_cons_zero, List.getElem?_cons_succ, List.set_cons_zero, List.set_cons_succ, Nat.add_sub_cancel_left, Nat.sub_self, Nat.add_zero, Nat.zero_add, Nat.le_add_right, Nat.le_refl, true_and, and_true, va_rf, zok, Nat.add_left_cancel_iff, Nat.add_eq_left, Nat.left_eq_add, eq_self, if_true, if_false, not_false_eq_true, not_true_eq_false, false_implies, true_implies, Nat.reduceEqDiff, Nat.reduceAdd, Nat.reduceLT, Nat.reduceLeDiff, reduceIte, e_iff (c1 := fun x => x = 0) (x := 1) (by decide), e_iff (c1 := fun x => x = 0) (x := nI (zsum (fun y => if p y = true then 1 else 0) k)) nz, B_X6_rowsOf_67, B_X6_rowsOf_72, nI_1]
          exact h10
      · rw [if_neg c1] at h10 ⊢
        simp -implicitDefEqProofs only [e_cut, e_iload, e_aload, e_istore, e_astore, e_iinc, e_const, e_lconst, e_bin, e_bin0, e_un, e_ladd, e_dupi, e_dupr, e_dup2, e_pop, e_sw, e_sw0, e_sw1, e_get, e_put, e_ald, e_ast, e_aald, e_aast, e_copy, e_new, e_newa, e_anewa, e_min, e_abs, e_oinit, e_callI, e_callV, e_callS, e_iret, e_zret, e_lret, e_vret, e_tl1, e_tl0, e_tl2, e_tl3, z10, Bool.false_eq_true, e_argi, e_argr, e_argn, zld_c, zst_n, zst_c, zpick_n, zpick_c, List.drop_succ_cons, List.drop_zero, List.take_succ_cons, List.take_zero, List.length_cons, List.length_nil, List.reverse_cons, List.reverse_nil, List.nil_append, List.cons_append, List.append_nil, List.getElem?_cons_zero, List.getElem?_cons_succ, List.set_cons_zero, List.set_cons_succ, Nat.add_sub_cancel_left, Nat.sub_self, Nat.add_zero, Nat.zero_add, Nat.le_add_right, Nat.le_refl, true_and, and_true, va_rf, zok, Nat.add_left_cancel_iff, Nat.add_eq_left, Nat.left_eq_add, eq_self, if_true, if_false, not_false_eq_true, not_true_eq_false, false_implies, true_implies, Nat.reduceEqDiff, Nat.reduceAdd, Nat.reduceLT, Nat.reduceLeDiff, reduceIte, e_ift (c1 := fun x => x = 0) (x := 0) rfl, B_X6_rowsOf_72, nI_1]
        rw [Nat.add_zero] at h10
        cases hz : zfind p 0 k with
        | none => rw [hz] at h10; simp only [c1, if_false] at h10; exact h10
        | some y => rw [hz] at h10; exact h10
  have loop1 : ∀ (d k : Nat), d + k = m → A 5 [(0, .ref (b + 159)), (1, .ref (b + i)), (2, .int (nI S)), (3, .int (nI (6 ^ k))), (4, .int (nI k))] [] 0 0 E := by
    intro d
    induction d with
    | zero =>
      intro k hd
      obtain rfl : k = m := by omega
      apply hA5
      have cle : nI k ≤ nI k := nI_le (Nat.le_refl _) (by omega)
      simp -implicitDefEqProofs only [B_X6_rowsOf_5, e_cut, e_iload, e_aload, e_istore, e_astore, e_iinc, e_const, e_lconst, e_bin, e_bin0, e_un, e_ladd, e_dupi, e_dupr, e_dup2, e_pop, e_sw, e_sw0, e_sw1, e_get, e_put, e_ald, e_ast, e_aald, e_aast, e_copy, e_new, e_newa, e_anewa, e_min, e_abs, e_oinit, e_callI, e_callV, e_callS, e_iret, e_zret, e_lret, e_vret, e_tl1, e_tl0, e_tl2, e_tl3, z10, Bool.false_eq_true, e_argi, e_argr, e_argn, zld_c, zst_n, zst_c, zpick_n, zpick_c, List.drop_succ_cons, List.drop_zero, List.take_succ_cons, List.take_zero, List.length_cons, List.length_nil, List.reverse_cons, List.reverse_nil, List.nil_append, List.cons_append, List.append_nil, List.getElem?_cons_zero, List.getElem?_cons_succ, List.set_cons_zero, List.set_cons_succ, Nat.add_sub_cancel_left, Nat.sub_self, Nat.add_zero, Nat.zero_add, Nat.le_add_right, Nat.le_refl, true_and, and_true, va_rf, zok, Nat.add_left_cancel_iff, Nat.add_eq_left, Nat.left_eq_add, eq_self, if_true, if_false, not_false_eq_true, not_true_eq_false, false_implies, true_implies, Nat.reduceEqDiff, Nat.reduceAdd, Nat.reduceLT, Nat.reduceLeDiff, reduceIte]
      refine ⟨S, rfl, hS, ?_⟩
      rw [← hm]
      simp -implicitDefEqProofs only [e_cut, e_iload, e_aload, e_istore, e_astore, e_iinc, e_const, e_lconst, e_bin, e_bin0, e_un, e_ladd, e_dupi, e_dupr, e_dup2, e_pop, e_sw, e_sw0, e_sw1, e_get, e_put, e_ald, e_ast, e_aald, e_aast, e_copy, e_new, e_newa, e_anewa, e_min, e_abs, e_oinit, e_callI, e_callV, e_callS, e_iret, e_zret, e_lret, e_vret, e_tl1, e_tl0, e_tl2, e_tl3, z10, Bool.false_eq_true, e_argi, e_argr, e_argn, zld_c, zst_n, zst_c, zpick_n, zpick_c, List.drop_succ_cons, List.drop_zero, List.take_succ_cons, List.take_zero, List.length_cons, List.length_nil, List.reverse_cons, List.reverse_nil, List.nil_append, List.cons_append, List.append_nil, List.getElem?_cons_zero, List.getElem?_cons_succ, List.set_cons_zero, List.set_cons_succ, Nat.add_sub_cancel_left, Nat.sub_self, Nat.add_zero, Nat.zero_add, Nat.le_add_right, Nat.le_refl, true_and, and_true, va_rf, zok, Nat.add_left_cancel_iff, Nat.add_eq_left, Nat.left_eq_add, eq_self, if_true, if_false, not_false_eq_true, not_true_eq_false, false_implies, true_implies, Nat.reduceEqDiff, Nat.reduceAdd, Nat.reduceLT, Nat.reduceLeDiff, reduceIte, e_icmpt (c2 := fun x y => y ≤ x) cle]
      exact loop2 (6 ^ k) 0 E rfl h9 (fun _ _ => rfl)
    | succ d ih =>
      intro k hd
      apply hA5
      have cle : ¬ nI m ≤ nI k := nI_ge (show k < m by omega) (by omega)
      have k6 : nI (6 ^ k) * 6 = nI (6 ^ (k + 1)) := by rw [Nat.pow_succ]; exact pk_mul _ 6
      simp -implicitDefEqProofs only [B_X6_rowsOf_5, e_cut, e_iload, e_aload, e_istore, e_astore, e_iinc, e_const, e_lconst, e_bin, e_bin0, e_un, e_ladd, e_dupi, e_dupr, e_dup2, e_pop, e_sw, e_sw0, e_sw1, e_get, e_put, e_ald, e_ast, e_aald, e_aast, e_copy, e_new, e_newa, e_anewa, e_min, e_abs, e_oinit, e_callI, e_callV, e_callS, e_iret, e_zret, e_lret, e_vret, e_tl1, e_tl0, e_tl2, e_tl3, z10, Bool.false_eq_true, e_argi, e_argr, e_argn, zld_c, zst_n, zst_c, zpick_n, zpick_c, List.drop_succ_cons, List.drop_zero, List.take_succ_cons, List.take_zero, List.length_cons, List.length_nil, List.reverse_cons, List.reverse_nil, List.nil_append, List.cons_append, List.append_nil, List.getElem?_cons_zero, List.getElem?_cons_succ, List.set_cons_zero, List.set_cons_succ, Nat.add_sub_cancel_left, Nat.sub_self, Nat.add_zero, Nat.zero_add, Nat.le_add_right, Nat.le_refl, true_and, and_true, va_rf, zok, Nat.add_left_cancel_iff, Nat.add_eq_left, Nat.left_eq_add, eq_self, if_true, if_false, not_false_eq_true, not_true_eq_false, false_implies, true_implies, Nat.reduceEqDiff, Nat.reduceAdd, Nat.reduceLT, Nat.reduceLeDiff, reduceIte]
      refine ⟨S, rfl, hS, ?_⟩
      rw [← hm]
      simp -implicitDefEqProofs only [e_cut, e_iload, e_aload, e_istore, e_astore, e_iinc, e_const, e_lconst, e_bin, e_bin0, e_un, e_ladd, e_dupi, e_dupr, e_dup2, e_pop, e_sw, e_sw0, e_sw1, e_get, e_put, e_ald, e_ast, e_aald, e_aast, e_copy, e_new, e_newa, e_anewa, e_min, e_abs, e_oinit, e_callI, e_callV, e_callS, e_iret, e_zret, e_lret, e_vret, e_tl1, e_tl0, e_tl2, e_tl3, z10, Bool.false_eq_true, e_argi, e_argr, e_argn, zld_c, zst_n, zst_c, zpick_n, zpick_c, List.drop_succ_cons, List.drop_zero, List.take_succ_cons, List.take_zero, List.length_cons, List.length_nil, List.reverse_cons, List.reverse_nil, List.nil_append, List.cons_append, List.append_nil, List.getElem?_cons_zero, List.getElem?_cons_succ, List.set_cons_zero, List.set_cons_succ, Nat.add_sub_cancel_left, Nat.sub_self, Nat.add_zero, Nat.zero_add, Nat.le_add_right, Nat.le_refl, true_and, and_true, va_rf, zok, Nat.add_left_cancel_iff, Nat.add_eq_left, Nat.left_eq_add, eq_self, if_true, if_false, not_false_eq_true, not_true_eq_false, false_implies, true_implies, Nat.reduceEqDiff, Nat.reduceAdd, Nat.reduceLT, Nat.reduceLeDiff, reduceIte, e_icmpf (c2 := fun x y => y ≤ x) cle, k6, nI_1]
      exact ih (k + 1) (by omega)
  simp -implicitDefEqProofs only [B_X6_rowsOf_0, e_cut, e_iload, e_aload, e_istore, e_astore, e_iinc, e_const, e_lconst, e_bin, e_bin0, e_un, e_ladd, e_dupi, e_dupr, e_dup2, e_pop, e_sw, e_sw0, e_sw1, e_get, e_put, e_ald, e_ast, e_aald, e_aast, e_copy, e_new, e_newa, e_anewa, e_min, e_abs, e_oinit, e_callI, e_callV, e_callS, e_iret, e_zret, e_lret, e_vret, e_tl1, e_tl0, e_tl2, e_tl3, z10, Bool.false_eq_true, e_argi, e_argr, e_argn, zld_c, zst_n, zst_c, zpick_n, zpick_c, List.drop_succ_cons, List.drop_zero, List.take_succ_cons, List.take_zero, List.length_cons, List.length_nil, List.reverse_cons, List.reverse_nil, List.nil_append, List.cons_append, List.append_nil, List.getElem?_cons_zero, List.getElem?_cons_succ, List.set_cons_zero, List.set_cons_succ, Nat.add_sub_cancel_left, Nat.sub_self, Nat.add_zero, Nat.zero_add, Nat.le_add_right, Nat.le_refl, true_and, and_true, va_rf, zok, Nat.add_left_cancel_iff, Nat.add_eq_left, Nat.left_eq_add, eq_self, if_true, if_false, not_false_eq_true, not_true_eq_false, false_implies, true_implies, Nat.reduceEqDiff, Nat.reduceAdd, Nat.reduceLT, Nat.reduceLeDiff, reduceIte]
  exact loop1 m 0 rfl
set_option maxRecDepth 100000 in
set_option maxHeartbeats 4000000 in
theorem S_X6_rowsOf_72 {p : Program} {e : Env} {s : State} {m : MethodId} {args : Array Value} {below : List Frame} {meth : Method} {c : Code} {D : va_G} {cy : zY} {b n0 : Nat} {P : zPo} (la : Launch) (X : zX p la e (rm_X6_rowsOf) s m args below meth c 7 D cy b n0 cX6_rowsOf wsX6_rowsOf RX6) (hr : meth.sig.returnType = (some .int)) (h_X6_doesGo : zMet la yX6_doesGo wsX6_doesGo rm_X6_doesGo 0 0 sp_X6_doesGo) (h_X6_manyOf : zMet la yX6_manyOf wsX6_manyOf rm_X6_manyOf 0 0 sp_X6_manyOf) : zS p la e (rm_X6_rowsOf) s m args below meth c (MQ below (zQ D b (n0 + 0) P) args s 0 0 (fun q => b ≤ q)) 7 D b n0 72 (B_X6_rowsOf_72 b n0 cy P (zAt p la e (rm_X6_rowsOf) s m args below meth c (MQ below (zQ D b (n0 + 0) P) args s 0 0 (fun q => b ≤ q)) 7 D b n0)) := by
  unfold B_X6_rowsOf_72
  exact (s_iinc X dX6_rowsOf_72 (by decide) (by decide) (s_goto X dX6_rowsOf_75 (by decide) (s_cut (by decide) zS_at)))
set_option maxRecDepth 100000 in
set_option maxHeartbeats 4000000 in
theorem S_X6_rowsOf_67 {p : Program} {e : Env} {s : State} {m : MethodId} {args : Array Value} {below : List Frame} {meth : Method} {c : Code} {D : va_G} {cy : zY} {b n0 : Nat} {P : zPo} (la : Launch) (X : zX p la e (rm_X6_rowsOf) s m args below meth c 7 D cy b n0 cX6_rowsOf wsX6_rowsOf RX6) (hr : meth.sig.returnType = (some .int)) (h_X6_doesGo : zMet la yX6_doesGo wsX6_doesGo rm_X6_doesGo 0 0 sp_X6_doesGo) (h_X6_manyOf : zMet la yX6_manyOf wsX6_manyOf rm_X6_manyOf 0 0 sp_X6_manyOf) : zS p la e (rm_X6_rowsOf) s m args below meth c (MQ below (zQ D b (n0 + 0) P) args s 0 0 (fun q => b ≤ q)) 7 D b n0 67 (B_X6_rowsOf_67 b n0 cy P (zAt p la e (rm_X6_rowsOf) s m args below meth c (MQ below (zQ D b (n0 + 0) P) args s 0 0 (fun q => b ≤ q)) 7 D b n0)) := by
  unfold B_X6_rowsOf_67
  exact (s_istore X dX6_rowsOf_67 (by decide) (s_iinc X dX6_rowsOf_69 (by decide) (by decide) (S_X6_rowsOf_72 la X hr h_X6_doesGo h_X6_manyOf)))
set_option maxRecDepth 100000 in
set_option maxHeartbeats 4000000 in
theorem S_X6_rowsOf_34 {p : Program} {e : Env} {s : State} {m : MethodId} {args : Array Value} {below : List Frame} {meth : Method} {c : Code} {D : va_G} {cy : zY} {b n0 : Nat} {P : zPo} (la : Launch) (X : zX p la e (rm_X6_rowsOf) s m args below meth c 7 D cy b n0 cX6_rowsOf wsX6_rowsOf RX6) (hr : meth.sig.returnType = (some .int)) (h_X6_doesGo : zMet la yX6_doesGo wsX6_doesGo rm_X6_doesGo 0 0 sp_X6_doesGo) (h_X6_manyOf : zMet la yX6_manyOf wsX6_manyOf rm_X6_manyOf 0 0 sp_X6_manyOf) : zS p la e (rm_X6_rowsOf) s m args below meth c (MQ below (zQ D b (n0 + 0) P) args s 0 0 (fun q => b ≤ q)) 7 D b n0 34 (B_X6_rowsOf_34 b n0 cy P (zAt p la e (rm_X6_rowsOf) s m args below meth c (MQ below (zQ D b (n0 + 0) P) args s 0 0 (fun q => b ≤ q)) 7 D b n0)) := by
  unfold B_X6_rowsOf_34
  exact (s_iload X dX6_rowsOf_34 (s_iload_n X dX6_rowsOf_36 rfl (s_icmp_ge X dX6_rowsOf_37 (by decide) (s_aload_n X dX6_rowsOf_78 rfl (s_aload_n X dX6_rowsOf_79 rfl (s_iload X dX6_rowsOf_80 (s_iload_n X dX6_rowsOf_82 rfl (s_callS X h_X6_manyOf dX6_rowsOf_83 gX6_rowsOf_X6_manyOf rfl rfl rfl (by decide +kernel) ⟨by decide, by decide⟩ (s_iload_n X dX6_rowsOf_86 rfl (s_callV X h_X6_doesGo dX6_rowsOf_87 rfl gX6_rowsOf_X6_doesGo rfl rfl rfl (by decide +kernel) ⟨by decide, by decide⟩ (s_pop X dX6_rowsOf_90 (s_iload X dX6_rowsOf_91 (s_iret X dX6_rowsOf_93 hr)))))))))) (s_aload_n X dX6_rowsOf_40 rfl (s_aload_n X dX6_rowsOf_41 rfl (s_iload X dX6_rowsOf_42 (s_iload_n X dX6_rowsOf_44 rfl (s_callS X h_X6_manyOf dX6_rowsOf_45 gX6_rowsOf_X6_manyOf rfl rfl rfl (by decide +kernel) ⟨by decide, by decide⟩ (s_iload_n X dX6_rowsOf_48 rfl (s_callV X h_X6_doesGo dX6_rowsOf_49 rfl gX6_rowsOf_X6_doesGo rfl rfl rfl (by decide +kernel) ⟨by decide, by decide⟩ (s_if_eq X dX6_rowsOf_52 (by decide) (S_X6_rowsOf_72 la X hr h_X6_doesGo h_X6_manyOf) (s_iload X dX6_rowsOf_55 (s_if_ne X dX6_rowsOf_57 (by decide) (s_iload X dX6_rowsOf_65 (S_X6_rowsOf_67 la X hr h_X6_doesGo h_X6_manyOf)) (s_iload X dX6_rowsOf_60 (s_goto X dX6_rowsOf_62 (by decide) (S_X6_rowsOf_67 la X hr h_X6_doesGo h_X6_manyOf))))))))))))))))
set_option maxRecDepth 100000 in
set_option maxHeartbeats 4000000 in
theorem S_X6_rowsOf_5 {p : Program} {e : Env} {s : State} {m : MethodId} {args : Array Value} {below : List Frame} {meth : Method} {c : Code} {D : va_G} {cy : zY} {b n0 : Nat} {P : zPo} (la : Launch) (X : zX p la e (rm_X6_rowsOf) s m args below meth c 7 D cy b n0 cX6_rowsOf wsX6_rowsOf RX6) (hr : meth.sig.returnType = (some .int)) (h_X6_doesGo : zMet la yX6_doesGo wsX6_doesGo rm_X6_doesGo 0 0 sp_X6_doesGo) (h_X6_manyOf : zMet la yX6_manyOf wsX6_manyOf rm_X6_manyOf 0 0 sp_X6_manyOf) : zS p la e (rm_X6_rowsOf) s m args below meth c (MQ below (zQ D b (n0 + 0) P) args s 0 0 (fun q => b ≤ q)) 7 D b n0 5 (B_X6_rowsOf_5 b n0 cy P (zAt p la e (rm_X6_rowsOf) s m args below meth c (MQ below (zQ D b (n0 + 0) P) args s 0 0 (fun q => b ≤ q)) 7 D b n0)) := by
  unfold B_X6_rowsOf_5
  exact (s_iload X dX6_rowsOf_5 (s_iload_n X dX6_rowsOf_7 rfl (s_callS X h_X6_manyOf dX6_rowsOf_8 gX6_rowsOf_X6_manyOf rfl rfl rfl (by decide +kernel) ⟨by decide, by decide⟩ (s_icmp_ge X dX6_rowsOf_11 (by decide) (s_iconst X dX6_rowsOf_25 (by decide) (s_istore X dX6_rowsOf_26 (by decide) (s_iconst X dX6_rowsOf_28 (by decide) (s_istore X dX6_rowsOf_29 (by decide) (s_iconst X dX6_rowsOf_31 (by decide) (s_istore X dX6_rowsOf_32 (by decide) (s_cut (by decide) zS_at))))))) (s_iload_n X dX6_rowsOf_14 rfl (s_bipush X dX6_rowsOf_15 (by decide) (s_imul X dX6_rowsOf_17 (s_istore_n X dX6_rowsOf_18 rfl (by decide) (s_iinc X dX6_rowsOf_19 (by decide) (by decide) (s_goto X dX6_rowsOf_22 (by decide) (s_cut (by decide) zS_at)))))))))))
set_option maxRecDepth 100000 in
set_option maxHeartbeats 4000000 in
theorem S_X6_rowsOf_0 {p : Program} {e : Env} {s : State} {m : MethodId} {args : Array Value} {below : List Frame} {meth : Method} {c : Code} {D : va_G} {cy : zY} {b n0 : Nat} {P : zPo} (la : Launch) (X : zX p la e (rm_X6_rowsOf) s m args below meth c 7 D cy b n0 cX6_rowsOf wsX6_rowsOf RX6) (hr : meth.sig.returnType = (some .int)) (h_X6_doesGo : zMet la yX6_doesGo wsX6_doesGo rm_X6_doesGo 0 0 sp_X6_doesGo) (h_X6_manyOf : zMet la yX6_manyOf wsX6_manyOf rm_X6_manyOf 0 0 sp_X6_manyOf) : zS p la e (rm_X6_rowsOf) s m args below meth c (MQ below (zQ D b (n0 + 0) P) args s 0 0 (fun q => b ≤ q)) 7 D b n0 0 (B_X6_rowsOf_0 b n0 cy P (zAt p la e (rm_X6_rowsOf) s m args below meth c (MQ below (zQ D b (n0 + 0) P) args s 0 0 (fun q => b ≤ q)) 7 D b n0)) := by
  unfold B_X6_rowsOf_0
  exact (s_iconst X dX6_rowsOf_0 (by decide) (s_istore_n X dX6_rowsOf_1 rfl (by decide) (s_iconst X dX6_rowsOf_2 (by decide) (s_istore X dX6_rowsOf_3 (by decide) (s_cut (by decide) zS_at)))))
theorem w_X6_rowsOf (la : Launch) (h_X6_doesGo : zMet la yX6_doesGo wsX6_doesGo rm_X6_doesGo 0 0 sp_X6_doesGo) (h_X6_manyOf : zMet la yX6_manyOf wsX6_manyOf rm_X6_manyOf 0 0 sp_X6_manyOf) (sp : zSp) (vc : zVC_X6_rowsOf sp) : zMet la yX6_rowsOf wsX6_rowsOf (rm_X6_rowsOf) 0 0 sp :=
  z_of (cc := cX6_rowsOf) (maxL := 7) (ret := (some .int)) (by decide +kernel) rfl (fun p e s m args below meth c D cy b n as E P hsp X hr hin => by
    obtain ⟨h1, h2⟩ := vc b cy n as E P (zAt p la e (rm_X6_rowsOf) s m args below meth c (MQ below (zQ D b (n + 0) P) args s 0 0 (fun q => b ≤ q)) 7 D b n) (fun _ _ _ _ _ q => S_X6_rowsOf_5 la X hr h_X6_doesGo h_X6_manyOf _ _ _ _ _ q) (fun _ _ _ _ _ q => S_X6_rowsOf_34 la X hr h_X6_doesGo h_X6_manyOf _ _ _ _ _ q) hsp
    exact ⟨h1, S_X6_rowsOf_0 la X hr h_X6_doesGo h_X6_manyOf _ _ _ _ _ h2⟩)

theorem m_X6_rowsOf (la : Launch) : zMet la yX6_rowsOf wsX6_rowsOf rm_X6_rowsOf 0 0 sp_X6_rowsOf := w_X6_rowsOf la (m_X6_doesGo la) (m_X6_manyOf la) _ vc_X6_rowsOf
theorem zin_m1 (y : Int32) : (if ¬ y < -1 ∧ ¬ (5 : Int32) < y then (1 : Int32) else 0) = if y = -1 ∨ zisB 6 y = true then 1 else 0 := by
  have e1 : (-1 : Int32).toInt = -1 := by decide
  have e0 : (0 : Int32).toInt = 0 := by decide
  by_cases h0 : y < 0
  · have h1 := zisB_f1 (n := 6) h0
    by_cases h2 : y = -1
    · subst h2; decide
    · have h3 : y < -1 := by
        rw [fa_lt', e0] at h0
        rw [fa_eq', e1] at h2
        rw [fa_lt', e1]; omega
      rw [if_neg (show ¬ (y = -1 ∨ zisB 6 y = true) from fun h => h.elim h2 h1), if_neg (fun h => h.1 h3)]
  · obtain ⟨j, hj, rfl⟩ := nI_of h0
    have t := nI_toInt hj
    have hm : ¬ nI j = -1 := fun h => by rw [h] at h0; exact h0 (by decide)
    by_cases h5 : j ≤ 5
    · have g1 : ¬ nI j < -1 := fun h => by rw [fa_lt', e1, t] at h; omega
      have g2 : ¬ (5 : Int32) < nI j := fun h => by have := (nI_ltI (a := 5) (b := j) (by omega) hj).mp h; omega
      rw [if_pos (show nI j = -1 ∨ zisB 6 (nI j) = true from Or.inr (zisB_v (by omega) (by omega))), if_pos ⟨g1, g2⟩]
    · rw [if_neg (show ¬ (nI j = -1 ∨ zisB 6 (nI j) = true) from fun h => h.elim hm (zisB_f2 (nI_le (by omega) hj))), if_neg (fun h => h.2 (nI_lt (a := 5) (by omega) hj))]
def sp_X6_row : zSp := fun b cy as N E P => ∃ x i : Int32, zPM (op_row x i) [.int x, .int i] b cy as N E P
abbrev rm_X6_row : Room := { frames := 4, cells := 0, slots := 0, locals := 123 }
def B_X6_row_61 (b n0 : Nat) (cy : zY) (P : zPo) (A : Nat → zC) : zC :=
  z_iret 0 0 P
def B_X6_row_59 (b n0 : Nat) (cy : zY) (P : zPo) (A : Nat → zC) : zC :=
  z_const (-9) (B_X6_row_61 b n0 cy P A)
def B_X6_row_17 (b n0 : Nat) (cy : zY) (P : zPo) (A : Nat → zC) : zC :=
  z_const (-1) (z_iret 0 0 P)
def B_X6_row_0 (b n0 : Nat) (cy : zY) (P : zPo) (A : Nat → zC) : zC :=
  z_aload 0 (z_iload 1 (z_callV b n0 0 0 cy 6 1 0 0 sp_X6_isSet (z_if (fun x => x = 0) (B_X6_row_17 b n0 cy P A) (z_iload 2 (z_const (-1) (z_const (5) (z_callS b n0 0 0 cy 3 0 0 sp_X6_in (z_if (fun x => x = 0) (B_X6_row_17 b n0 cy P A) (z_aload 0 (z_aload 0 (z_get b n0 6 14 (z_iload 1 (z_callV b n0 0 0 cy 6 2 0 0 sp_X6_rowsOf (z_istore 3 (z_iload 2 (z_const (-1) (z_icmp (fun x y => x = y) (z_iload 3 (B_X6_row_61 b n0 cy P A)) (z_iload 3 (z_if (fun x => x ≤ 0) (B_X6_row_59 b n0 cy P A) (z_iload 2 (z_iload 1 (z_callS b n0 0 0 cy 1 0 0 sp_X6_manyOf (z_icmp (fun x y => y ≤ x) (B_X6_row_59 b n0 cy P A) (z_aload 0 (z_get b n0 6 17 (z_iload 2 (z_ald b n0 (cy 1) (B_X6_row_61 b n0 cy P A))))))))))))))))))))))))))))
def zVC_X6_row (sp : zSp) : Prop := ∀ (b : Nat) (cy : zY) (n : Nat) (as : List Value) (E : zE) (P : zPo) (A : Nat → zC), sp b cy as n E P → zgood as 4 ∧ B_X6_row_0 b n cy P A (lv_args 0 as) [] 0 0 E

set_option maxRecDepth 100000 in
set_option maxHeartbeats 4000000 in
theorem vc_X6_row : zVC_X6_row sp_X6_row := by
  intro b cy N as E P A hsp
  obtain ⟨x, y, K, ⟨T, D, C, I, S, tr⟩, rfl, hmd, hok, hK, hN, hP⟩ := hsp
  refine ⟨⟨Nat.le_of_ble_eq_true rfl, zg1 rfl (zg1 rfl (zg1 rfl (zg0)))⟩, ?_⟩
  have N0 : 159 < N := by omega
  have N6 : 166 < N := by omega
  obtain ⟨lt, q, st, so, va, fa, e0⟩ := hmd.o
  replace e0 : E 159 = zM0 b tr (nI T.1) lt q st so va fa (nI S.1) := e0
  have hR := hmd.mr hok hN
  obtain ⟨f, hW, hCa⟩ := hmd.wr
  have hE := hW.2.2.1
  obtain ⟨h8, h9⟩ : (∃ g : Nat → Int32, E 168 = .inl (cy 1, 52, .inl g)) ∧ (∃ g : Nat → Int32, E 169 = .inl (cy 1, 6, .inl g)) := by obtain ⟨_, _, _, _, _, _, _, _, _, a, c, _⟩ := hmd; exact ⟨a, c⟩
  obtain ⟨hn, hlo, _, _, _, ⟨hmk, hs99, hth, hm10, _⟩, _⟩ := id hok
  replace hn : D.1 ≤ 6 := hn
  obtain ⟨v0, v4, v10, v16⟩ := zCm0 hW.2.2.2
  have N9 : 169 < N := by omega
  simp only [op_row] at hP
  simp -implicitDefEqProofs only [B_X6_row_0, B_X6_row_17, e_cut, e_iload, e_aload, e_istore, e_astore, e_iinc, e_const, e_lconst, e_bin, e_bin0, e_un, e_ladd, e_dupi, e_dupr, e_dup2, e_pop, e_sw, e_sw0, e_sw1, e_get, e_put, e_ald, e_ast, e_aald, e_aast, e_copy, e_new, e_newa, e_anewa, e_min, e_abs, e_oinit, e_callI, e_callV, e_callS, e_iret, e_zret, e_lret, e_vret, e_tl1, e_tl0, e_tl2, e_tl3, z10, Bool.false_eq_true, e_argi, e_argr, e_argn, zld_c, zst_n, zst_c, zpick_n, zpick_c, List.drop_succ_cons, List.drop_zero, List.take_succ_cons, List.take_zero, List.length_cons, List.length_nil, List.reverse_cons, List.reverse_nil, List.nil_append, List.cons_append, List.append_nil, List.getElem?_cons_zero, List.getElem?_cons_succ, List.set_cons_zero, List.set_cons_succ, Nat.add_sub_cancel_left, Nat.sub_self, Nat.add_zero, Nat.zero_add, Nat.le_add_right, Nat.le_refl, true_and, and_true, va_rf, zok, Nat.add_left_cancel_iff, Nat.add_eq_left, Nat.left_eq_add, eq_self, if_true, if_false, not_false_eq_true, not_true_eq_false, false_implies, true_implies, Nat.reduceEqDiff, Nat.reduceAdd, Nat.reduceLT, Nat.reduceLeDiff, reduceIte, zM0, e0, N0]
  refine ⟨_, _, _, C.1, x, rfl, hR, hW.ar, hmk.2.1, ?_⟩
  by_cases q1 : zsub (C.1 1) x = true
  · rw [if_pos q1]
    simp -implicitDefEqProofs only [e_cut, e_iload, e_aload, e_istore, e_astore, e_iinc, e_const, e_lconst, e_bin, e_bin0, e_un, e_ladd, e_dupi, e_dupr, e_dup2, e_pop, e_sw, e_sw0, e_sw1, e_get, e_put, e_ald, e_ast, e_aald, e_aast, e_copy, e_new, e_newa, e_anewa, e_min, e_abs, e_oinit, e_callI, e_callV, e_callS, e_iret, e_zret, e_lret, e_vret, e_tl1, e_tl0, e_tl2, e_tl3, z10, Bool.false_eq_true, e_argi, e_argr, e_argn, zld_c, zst_n, zst_c, zpick_n, zpick_c, List.drop_succ_cons, List.drop_zero, List.take_succ_cons, List.take_zero, List.length_cons, List.length_nil, List.reverse_cons, List.reverse_nil, List.nil_append, List.cons_append, List.append_nil, List.getElem?_cons_zero, List.getElem?_cons_succ, List.set_cons_zero, List.set_cons_succ, Nat.add_sub_cancel_left, Nat.sub_self, Nat.add_zero, Nat.zero_add, Nat.le_add_right, Nat.le_refl, true_and, and_true, va_rf, zok, Nat.add_left_cancel_iff, Nat.add_eq_left, Nat.left_eq_add, eq_self, if_true, if_false, not_false_eq_true, not_true_eq_false, false_implies, true_implies, Nat.reduceEqDiff, Nat.reduceAdd, Nat.reduceLT, Nat.reduceLeDiff, reduceIte, e_iff (c1 := fun x => x = 0) (x := 1) (by decide)]
    refine ⟨y, -1, 5, rfl, ?_⟩
    rw [zin_m1]
    by_cases q2 : y = -1 ∨ zisB 6 y = true
    · rw [if_pos q2]
      rw [if_pos ⟨q1, q2⟩] at hP
      obtain ⟨s, hs, rfl, hsM⟩ := zsub_t hmk.l64 q1
      rw [zcl_i (show s < 2 ^ 31 by omega)] at hP
      simp -implicitDefEqProofs only [e_cut, e_iload, e_aload, e_istore, e_astore, e_iinc, e_const, e_lconst, e_bin, e_bin0, e_un, e_ladd, e_dupi, e_dupr, e_dup2, e_pop, e_sw, e_sw0, e_sw1, e_get, e_put, e_ald, e_ast, e_aald, e_aast, e_copy, e_new, e_newa, e_anewa, e_min, e_abs, e_oinit, e_callI, e_callV, e_callS, e_iret, e_zret, e_lret, e_vret, e_tl1, e_tl0, e_tl2, e_tl3, z10, Bool.false_eq_true, e_argi, e_argr, e_argn, zld_c, zst_n, zst_c, zpick_n, zpick_c, List.drop_succ_cons, List.drop_zero, List.take_succ_cons, List.take_zero, List.length_cons, List.length_nil, List.reverse_cons, List.reverse_nil, List.nil_append, List.cons_append, List.append_nil, List.getElem?_cons_zero, List.getElem?_cons_succ, List.set_cons_zero, List.set_cons_succ, Nat.add_sub_cancel_left, Nat.sub_self, Nat.add_zero, Nat.zero_add, Nat.le_add_right, Nat.le_refl, true_and, and_true, va_rf, zok, Nat.add_left_cancel_iff, Nat.add_eq_left, Nat.left_eq_add, eq_self, if_true, if_false, not_false_eq_true, not_true_eq_false, false_implies, true_implies, Nat.reduceEqDiff, Nat.reduceAdd, Nat.reduceLT, Nat.reduceLeDiff, reduceIte, e_iff (c1 := fun x => x = 0) (x := 1) (by decide), zM0, e0, N0]
      refine ⟨166, D.1, _, _, C.1, s, rfl, hR, hW.ar, hmk, N6, by omega, hs, hsM, h9, fun E1 g g9 hg hk => ?_⟩
      have f0 := (hk 159 (by omega)).trans e0
      have hz31 : zrows D.1 C.1 s 6 (C.1 1) 0 < 2 ^ 31 := zrows_lt hn (by omega)
      replace hP := hP E1 (hmd.cur hE hn ((hk _ (by omega)).trans hE) hCa (fun _ _ => rfl) (fun j _ _ a => hk j a) (by rw [hk _ (by omega)]; exact h8) ⟨g, g9⟩) (fun j hj => hk j (by omega))
      by_cases c1 : y = -1
      · rw [if_pos c1] at hP
        simp -implicitDefEqProofs only [e_cut, e_iload, e_aload, e_istore, e_astore, e_iinc, e_const, e_lconst, e_bin, e_bin0, e_un, e_ladd, e_dupi, e_dupr, e_dup2, e_pop, e_sw, e_sw0, e_sw1, e_get, e_put, e_ald, e_ast, e_aald, e_aast, e_copy, e_new, e_newa, e_anewa, e_min, e_abs, e_oinit, e_callI, e_callV, e_callS, e_iret, e_zret, e_lret, e_vret, e_tl1, e_tl0, e_tl2, e_tl3, z10, Bool.false_eq_true, e_argi, e_argr, e_argn, zld_c, zst_n, zst_c, zpick_n, zpick_c, List.drop_succ_cons, List.drop_zero, List.take_succ_cons, List.take_zero, List.length_cons, List.length_nil, List.reverse_cons, List.reverse_nil, List.nil_append, List.cons_append, List.append_nil, List.getElem?_cons_zero, List.getElem?_cons_succ, List.set_cons_zero, List.set_cons_succ, Nat.add_sub_cancel_left, Nat.sub_self, Nat.add_zero, Nat.zero_add, Nat.le_add_right, Nat.le_refl, true_and, and_true, va_rf, zok, Nat.add_left_cancel_iff, Nat.add_eq_left, Nat.left_eq_add, eq_self, if_true, if_false, not_false_eq_true, not_true_eq_false, false_implies, true_implies, Nat.reduceEqDiff, Nat.reduceAdd, Nat.reduceLT, Nat.reduceLeDiff, reduceIte, e_icmpt (c2 := fun x y => x = y) c1, B_X6_row_61]
        exact hP
      · rw [if_neg c1] at hP
        have q3 : zisB 6 y = true := q2.resolve_left c1
        obtain ⟨j, hj, rfl⟩ := zisB_u q3 (by omega)
        rw [zcl_i (show j < 2 ^ 31 by omega)] at hP
        have kz : (nI (zrows D.1 C.1 s 6 (C.1 1) 0) ≤ 0) = (zrows D.1 C.1 s 6 (C.1 1) 0 ≤ 0) := propext (nI_leI (b := 0) hz31 (by omega))
        have ij : vp_in (nI j) 6 := vp_in_nI hj (by omega)
        have cj : (nI j).toNatClampNeg = j := nI_clamp (by omega)
        by_cases c2 : zrows D.1 C.1 s 6 (C.1 1) 0 ≤ 0
        · rw [zrat_none (by omega)] at hP
          simp -implicitDefEqProofs only [e_cut, e_iload, e_aload, e_istore, e_astore, e_iinc, e_const, e_lconst, e_bin, e_bin0, e_un, e_ladd, e_dupi, e_dupr, e_dup2, e_pop, e_sw, e_sw0, e_sw1, e_get, e_put, e_ald, e_ast, e_aald, e_aast, e_copy, e_new, e_newa, e_anewa, e_min, e_abs, e_oinit, e_callI, e_callV, e_callS, e_iret, e_zret, e_lret, e_vret, e_tl1, e_tl0, e_tl2, e_tl3, z10, Bool.false_eq_true, e_argi, e_argr, e_argn, zld_c, zst_n, zst_c, zpick_n, zpick_c, List.drop_succ_cons, List.drop_zero, List.take_succ_cons, List.take_zero, List.length_cons, List.length_nil, List.reverse_cons, List.reverse_nil, List.nil_append, List.cons_append, List.append_nil, List.getElem?_cons_zero, List.getElem?_cons_succ, List.set_cons_zero, List.set_cons_succ, Nat.add_sub_cancel_left, Nat.sub_self, Nat.add_zero, Nat.zero_add, Nat.le_add_right, Nat.le_refl, true_and, and_true, va_rf, zok, Nat.add_left_cancel_iff, Nat.add_eq_left, Nat.left_eq_add, eq_self, if_true, if_false, not_false_eq_true, not_true_eq_false, false_implies, true_implies, Nat.reduceEqDiff, Nat.reduceAdd, Nat.reduceLT, Nat.reduceLeDiff, reduceIte, e_icmpf (c2 := fun x y => x = y) c1, e_ift (c1 := fun x => x ≤ 0) (x := nI (zrows D.1 C.1 s 6 (C.1 1) 0)) (kz.mpr c2), B_X6_row_59, B_X6_row_61]
          exact hP
        · have hgt := hg (by omega) j
          simp -implicitDefEqProofs only [e_cut, e_iload, e_aload, e_istore, e_astore, e_iinc, e_const, e_lconst, e_bin, e_bin0, e_un, e_ladd, e_dupi, e_dupr, e_dup2, e_pop, e_sw, e_sw0, e_sw1, e_get, e_put, e_ald, e_ast, e_aald, e_aast, e_copy, e_new, e_newa, e_anewa, e_min, e_abs, e_oinit, e_callI, e_callV, e_callS, e_iret, e_zret, e_lret, e_vret, e_tl1, e_tl0, e_tl2, e_tl3, z10, Bool.false_eq_true, e_argi, e_argr, e_argn, zld_c, zst_n, zst_c, zpick_n, zpick_c, List.drop_succ_cons, List.drop_zero, List.take_succ_cons, List.take_zero, List.length_cons, List.length_nil, List.reverse_cons, List.reverse_nil, List.nil_append, List.cons_append, List.append_nil, List.getElem?_cons_zero, List.getElem?_cons_succ, List.set_cons_zero, List.set_cons_succ, Nat.add_sub_cancel_left, Nat.sub_self, Nat.add_zero, Nat.zero_add, Nat.le_add_right, Nat.le_refl, true_and, and_true, va_rf, zok, Nat.add_left_cancel_iff, Nat.add_eq_left, Nat.left_eq_add, eq_self, if_true, if_false, not_false_eq_true, not_true_eq_false, false_implies, true_implies, Nat.reduceEqDiff, Nat.reduceAdd, Nat.reduceLT, Nat.reduceLeDiff, reduceIte, e_icmpf (c2 := fun x y => x = y) c1, e_iff (c1 := fun x => x ≤ 0) (x := nI (zrows D.1 C.1 s 6 (C.1 1) 0)) (fun h => c2 (kz.mp h))]
          refine ⟨s, rfl, hs, ?_⟩
          have hp6 := zpop_le hs
          have kp : (nI (zpop s) ≤ nI j) = (zpop s ≤ j) := propext (nI_leI (by omega) (by omega))
          rcases hgt with ⟨h1, h2⟩ | ⟨h1, v, h2, h3⟩
          · rw [h1] at hP
            simp -implicitDefEqProofs only [e_cut, e_iload, e_aload, e_istore, e_astore, e_iinc, e_const, e_lconst, e_bin, e_bin0, e_un, e_ladd, e_dupi, e_dupr, e_dup2, e_pop, e_sw, e_sw0, e_sw1, e_get, e_put, e_ald, e_ast, e_aald, e_aast, e_copy, e_new, e_newa, e_anewa, e_min, e_abs, e_oinit, e_callI, e_callV, e_callS, e_iret, e_zret, e_lret, e_vret, e_tl1, e_tl0, e_tl2, e_tl3, z10, Bool.false_eq_true, e_argi, e_argr, e_argn, zld_c, zst_n, zst_c, zpick_n, zpick_c, List.drop_succ_cons, List.drop_zero, List.take_succ_cons, List.take_zero, List.length_cons, List.length_nil, List.reverse_cons, List.reverse_nil, List.nil_append, List.cons_append, List.append_nil, List.getElem?_cons_zero, List.getElem?_cons_succ, List.set_cons_zero, List.set_cons_succ, Nat.add_sub_cancel_left, Nat.sub_self, Nat.add_zero, Nat.zero_add, Nat.le_add_right, Nat.le_refl, true_and, and_true, va_rf, zok, Nat.add_left_cancel_iff, Nat.add_eq_left, Nat.left_eq_add, eq_self, if_true, if_false, not_false_eq_true, not_true_eq_false, false_implies, true_implies, Nat.reduceEqDiff, Nat.reduceAdd, Nat.reduceLT, Nat.reduceLeDiff, reduceIte, e_icmpt (c2 := fun x y => y ≤ x) (kp.mpr h2), B_X6_row_59, B_X6_row_61]
            exact hP
          · rw [h2] at hP
            simp -implicitDefEqProofs only [e_cut, e_iload, e_aload, e_istore, e_astore, e_iinc, e_const, e_lconst, e_bin, e_bin0, e_un, e_ladd, e_dupi, e_dupr, e_dup2, e_pop, e_sw, e_sw0, e_sw1, e_get, e_put, e_ald, e_ast, e_aald, e_aast, e_copy, e_new, e_newa, e_anewa, e_min, e_abs, e_oinit, e_callI, e_callV, e_callS, e_iret, e_zret, e_lret, e_vret, e_tl1, e_tl0, e_tl2, e_tl3, z10, Bool.false_eq_true, e_argi, e_argr, e_argn, zld_c, zst_n, zst_c, zpick_n, zpick_c, List.drop_succ_cons, List.drop_zero, List.take_succ_cons, List.take_zero, List.length_cons, List.length_nil, List.reverse_cons, List.reverse_nil, List.nil_append, List.cons_append, List.append_nil, List.getElem?_cons_zero, List.getElem?_cons_succ, List.set_cons_zero, List.set_cons_succ, Nat.add_sub_cancel_left, Nat.sub_self, Nat.add_zero, Nat.zero_add, Nat.le_add_right, Nat.le_refl, true_and, and_true, va_rf, zok, Nat.add_left_cancel_iff, Nat.add_eq_left, Nat.left_eq_add, eq_self, if_true, if_false, not_false_eq_true, not_true_eq_false, false_implies, true_implies, Nat.reduceEqDiff, Nat.reduceAdd, Nat.reduceLT, Nat.reduceLeDiff, reduceIte, e_icmpf (c2 := fun x y => y ≤ x) (fun h => absurd (kp.mp h) (by omega)), zM0, f0, N0, N9, g9, ij, cj, h3, B_X6_row_61]
            exact hP
    · rw [if_neg q2]
      rw [if_neg (fun h => q2 h.2)] at hP
      simp -implicitDefEqProofs only [e_cut, e_iload, e_aload, e_istore, e_astore, e_iinc, e_const, e_lconst, e_bin, e_bin0, e_un, e_ladd, e_dupi, e_dupr, e_dup2, e_pop, e_sw, e_sw0, e_sw1, e_get, e_put, e_ald, e_ast, e_aald, e_aast, e_copy, e_new, e_newa, e_anewa, e_min, e_abs, e_oinit, e_callI, e_callV, e_callS, e_iret, e_zret, e_lret, e_vret, e_tl1, e_tl0, e_tl2, e_tl3, z10, Bool.false_eq_true, e_argi, e_argr, e_argn, zld_c, zst_n, zst_c, zpick_n, zpick_c, List.drop_succ_cons, List.drop_zero, List.take_succ_cons, List.take_zero, List.length_cons, List.length_nil, List.reverse_cons, List.reverse_nil, List.nil_append, List.cons_append, List.append_nil, List.getElem?_cons_zero, List.getElem?_cons_succ, List.set_cons_zero, List.set_cons_succ, Nat.add_sub_cancel_left, Nat.sub_self, Nat.add_zero, Nat.zero_add, Nat.le_add_right, Nat.le_refl, true_and, and_true, va_rf, zok, Nat.add_left_cancel_iff, Nat.add_eq_left, Nat.left_eq_add, eq_self, if_true, if_false, not_false_eq_true, not_true_eq_false, false_implies, true_implies, Nat.reduceEqDiff, Nat.reduceAdd, Nat.reduceLT, Nat.reduceLeDiff, reduceIte, e_ift (c1 := fun x => x = 0) (x := 0) rfl]
      exact hP E hmd (fun _ _ => rfl)
  · rw [if_neg q1]
    rw [if_neg (fun h => q1 h.1)] at hP
    simp -implicitDefEqProofs only [e_cut, e_iload, e_aload, e_istore, e_astore, e_iinc, e_const, e_lconst, e_bin, e_bin0, e_un, e_ladd, e_dupi, e_dupr, e_dup2, e_pop, e_sw, e_sw0, e_sw1, e_get, e_put, e_ald, e_ast, e_aald, e_aast, e_copy, e_new, e_newa, e_anewa, e_min, e_abs, e_oinit, e_callI, e_callV, e_callS, e_iret, e_zret, e_lret, e_vret, e_tl1, e_tl0, e_tl2, e_tl3, z10, Bool.false_eq_true, e_argi, e_argr, e_argn, zld_c, zst_n, zst_c, zpick_n, zpick_c, List.drop_succ_cons, List.drop_zero, List.take_succ_cons, List.take_zero, List.length_cons, List.length_nil, List.reverse_cons, List.reverse_nil, List.nil_append, List.cons_append, List.append_nil, List.getElem?_cons_zero, List.getElem?_cons_succ, List.set_cons_zero, List.set_cons_succ, Nat.add_sub_cancel_left, Nat.sub_self, Nat.add_zero, Nat.zero_add, Nat.le_add_right, Nat.le_refl, true_and, and_true, va_rf, zok, Nat.add_left_cancel_iff, Nat.add_eq_left, Nat.left_eq_add, eq_self, if_true, if_false, not_false_eq_true, not_true_eq_false, false_implies, true_implies, Nat.reduceEqDiff, Nat.reduceAdd, Nat.reduceLT, Nat.reduceLeDiff, reduceIte, e_ift (c1 := fun x => x = 0) (x := 0) rfl]
    exact hP E hmd (fun _ _ => rfl)
set_option maxRecDepth 20000 in
theorem f_X6_row_29 : Cond.fieldLink RX6 29 (TX6 14).1 (TX6 14).2.1 (TX6 14).2.2.1 ∈ wsX6_row := by decide +kernel
set_option maxRecDepth 20000 in
theorem k_X6_row_6 : ∀ w ∈ u_ws RX6 TX6 21, w ∈ wsX6_row := fun _ h => List.mem_cons_of_mem _ (List.mem_append_right _ h)
set_option maxRecDepth 20000 in
theorem f_X6_row_39 : Cond.fieldLink RX6 39 (TX6 17).1 (TX6 17).2.1 (TX6 17).2.2.1 ∈ wsX6_row := by decide +kernel
set_option maxRecDepth 100000 in
set_option maxHeartbeats 4000000 in
theorem S_X6_row_61 {p : Program} {e : Env} {s : State} {m : MethodId} {args : Array Value} {below : List Frame} {meth : Method} {c : Code} {D : va_G} {cy : zY} {b n0 : Nat} {P : zPo} (la : Launch) (X : zX p la e (rm_X6_row) s m args below meth c 4 D cy b n0 cX6_row wsX6_row RX6) (hr : meth.sig.returnType = (some .int)) (h_X6_in : zMet la yX6_in wsX6_in rm_X6_in 0 0 sp_X6_in) (h_X6_isSet : zMet la yX6_isSet wsX6_isSet rm_X6_isSet 0 0 sp_X6_isSet) (h_X6_manyOf : zMet la yX6_manyOf wsX6_manyOf rm_X6_manyOf 0 0 sp_X6_manyOf) (h_X6_rowsOf : zMet la yX6_rowsOf wsX6_rowsOf rm_X6_rowsOf 0 0 sp_X6_rowsOf) : zS p la e (rm_X6_row) s m args below meth c (MQ below (zQ D b (n0 + 0) P) args s 0 0 (fun q => b ≤ q)) 4 D b n0 61 (B_X6_row_61 b n0 cy P (zAt p la e (rm_X6_row) s m args below meth c (MQ below (zQ D b (n0 + 0) P) args s 0 0 (fun q => b ≤ q)) 4 D b n0)) := by
  unfold B_X6_row_61
  exact (s_iret X dX6_row_61 hr)
set_option maxRecDepth 100000 in
set_option maxHeartbeats 4000000 in
theorem S_X6_row_59 {p : Program} {e : Env} {s : State} {m : MethodId} {args : Array Value} {below : List Frame} {meth : Method} {c : Code} {D : va_G} {cy : zY} {b n0 : Nat} {P : zPo} (la : Launch) (X : zX p la e (rm_X6_row) s m args below meth c 4 D cy b n0 cX6_row wsX6_row RX6) (hr : meth.sig.returnType = (some .int)) (h_X6_in : zMet la yX6_in wsX6_in rm_X6_in 0 0 sp_X6_in) (h_X6_isSet : zMet la yX6_isSet wsX6_isSet rm_X6_isSet 0 0 sp_X6_isSet) (h_X6_manyOf : zMet la yX6_manyOf wsX6_manyOf rm_X6_manyOf 0 0 sp_X6_manyOf) (h_X6_rowsOf : zMet la yX6_rowsOf wsX6_rowsOf rm_X6_rowsOf 0 0 sp_X6_rowsOf) : zS p la e (rm_X6_row) s m args below meth c (MQ below (zQ D b (n0 + 0) P) args s 0 0 (fun q => b ≤ q)) 4 D b n0 59 (B_X6_row_59 b n0 cy P (zAt p la e (rm_X6_row) s m args below meth c (MQ below (zQ D b (n0 + 0) P) args s 0 0 (fun q => b ≤ q)) 4 D b n0)) := by
  unfold B_X6_row_59
  exact (s_bipush X dX6_row_59 (by decide) (S_X6_row_61 la X hr h_X6_in h_X6_isSet h_X6_manyOf h_X6_rowsOf))
set_option maxRecDepth 100000 in
set_option maxHeartbeats 4000000 in
theorem S_X6_row_17 {p : Program} {e : Env} {s : State} {m : MethodId} {args : Array Value} {below : List Frame} {meth : Method} {c : Code} {D : va_G} {cy : zY} {b n0 : Nat} {P : zPo} (la : Launch) (X : zX p la e (rm_X6_row) s m args below meth c 4 D cy b n0 cX6_row wsX6_row RX6) (hr : meth.sig.returnType = (some .int)) (h_X6_in : zMet la yX6_in wsX6_in rm_X6_in 0 0 sp_X6_in) (h_X6_isSet : zMet la yX6_isSet wsX6_isSet rm_X6_isSet 0 0 sp_X6_isSet) (h_X6_manyOf : zMet la yX6_manyOf wsX6_manyOf rm_X6_manyOf 0 0 sp_X6_manyOf) (h_X6_rowsOf : zMet la yX6_rowsOf wsX6_rowsOf rm_X6_rowsOf 0 0 sp_X6_rowsOf) : zS p la e (rm_X6_row) s m args below meth c (MQ below (zQ D b (n0 + 0) P) args s 0 0 (fun q => b ≤ q)) 4 D b n0 17 (B_X6_row_17 b n0 cy P (zAt p la e (rm_X6_row) s m args below meth c (MQ below (zQ D b (n0 + 0) P) args s 0 0 (fun q => b ≤ q)) 4 D b n0)) := by
  unfold B_X6_row_17
  exact (s_iconst X dX6_row_17 (by decide) (s_iret X dX6_row_18 hr))
set_option maxRecDepth 100000 in
set_option maxHeartbeats 4000000 in
theorem S_X6_row_0 {p : Program} {e : Env} {s : State} {m : MethodId} {args : Array Value} {below : List Frame} {meth : Method} {c : Code} {D : va_G} {cy : zY} {b n0 : Nat} {P : zPo} (la : Launch) (X : zX p la e (rm_X6_row) s m args below meth c 4 D cy b n0 cX6_row wsX6_row RX6) (hr : meth.sig.returnType = (some .int)) (h_X6_in : zMet la yX6_in wsX6_in rm_X6_in 0 0 sp_X6_in) (h_X6_isSet : zMet la yX6_isSet wsX6_isSet rm_X6_isSet 0 0 sp_X6_isSet) (h_X6_manyOf : zMet la yX6_manyOf wsX6_manyOf rm_X6_manyOf 0 0 sp_X6_manyOf) (h_X6_rowsOf : zMet la yX6_rowsOf wsX6_rowsOf rm_X6_rowsOf 0 0 sp_X6_rowsOf) : zS p la e (rm_X6_row) s m args below meth c (MQ below (zQ D b (n0 + 0) P) args s 0 0 (fun q => b ≤ q)) 4 D b n0 0 (B_X6_row_0 b n0 cy P (zAt p la e (rm_X6_row) s m args below meth c (MQ below (zQ D b (n0 + 0) P) args s 0 0 (fun q => b ≤ q)) 4 D b n0)) := by
  unfold B_X6_row_0
  exact (s_aload_n X dX6_row_0 rfl (s_iload_n X dX6_row_1 rfl (s_callV X h_X6_isSet dX6_row_2 rfl gX6_row_X6_isSet rfl rfl rfl (by decide +kernel) ⟨by decide, by decide⟩ (s_if_eq X dX6_row_5 (by decide) (S_X6_row_17 la X hr h_X6_in h_X6_isSet h_X6_manyOf h_X6_rowsOf) (s_iload_n X dX6_row_8 rfl (s_iconst X dX6_row_9 (by decide) (s_iconst X dX6_row_10 (by decide) (s_callS X h_X6_in dX6_row_11 gX6_row_X6_in rfl rfl rfl (by decide +kernel) ⟨by decide, by decide⟩ (s_if_ne X dX6_row_14 (by decide) (s_aload_n X dX6_row_19 rfl (s_aload_n X dX6_row_20 rfl (s_get X dX6_row_21 rfl k_X6_row_6 (by decide) f_X6_row_29 (s_iload_n X dX6_row_24 rfl (s_callV X h_X6_rowsOf dX6_row_25 rfl gX6_row_X6_rowsOf rfl rfl rfl (by decide +kernel) ⟨by decide, by decide⟩ (s_istore_n X dX6_row_28 rfl (by decide) (s_iload_n X dX6_row_29 rfl (s_iconst X dX6_row_30 (by decide) (s_icmp_ne X dX6_row_31 (by decide) (s_iload_n X dX6_row_38 rfl (s_if_le X dX6_row_39 (by decide) (S_X6_row_59 la X hr h_X6_in h_X6_isSet h_X6_manyOf h_X6_rowsOf) (s_iload_n X dX6_row_42 rfl (s_iload_n X dX6_row_43 rfl (s_callS X h_X6_manyOf dX6_row_44 gX6_row_X6_manyOf rfl rfl rfl (by decide +kernel) ⟨by decide, by decide⟩ (s_icmp_ge X dX6_row_47 (by decide) (S_X6_row_59 la X hr h_X6_in h_X6_isSet h_X6_manyOf h_X6_rowsOf) (s_aload_n X dX6_row_50 rfl (s_get X dX6_row_51 rfl k_X6_row_6 (by decide) f_X6_row_39 (s_iload_n X dX6_row_54 rfl (s_iald X dX6_row_55 (s_goto X dX6_row_56 (by decide) (S_X6_row_61 la X hr h_X6_in h_X6_isSet h_X6_manyOf h_X6_rowsOf)))))))))))) (s_iload_n X dX6_row_34 rfl (s_goto X dX6_row_35 (by decide) (S_X6_row_61 la X hr h_X6_in h_X6_isSet h_X6_manyOf h_X6_rowsOf)))))))))))) (S_X6_row_17 la X hr h_X6_in h_X6_isSet h_X6_manyOf h_X6_rowsOf))))))))))
theorem w_X6_row (la : Launch) (h_X6_in : zMet la yX6_in wsX6_in rm_X6_in 0 0 sp_X6_in) (h_X6_isSet : zMet la yX6_isSet wsX6_isSet rm_X6_isSet 0 0 sp_X6_isSet) (h_X6_manyOf : zMet la yX6_manyOf wsX6_manyOf rm_X6_manyOf 0 0 sp_X6_manyOf) (h_X6_rowsOf : zMet la yX6_rowsOf wsX6_rowsOf rm_X6_rowsOf 0 0 sp_X6_rowsOf) (sp : zSp) (vc : zVC_X6_row sp) : zMet la yX6_row wsX6_row (rm_X6_row) 0 0 sp :=
  z_of (cc := cX6_row) (maxL := 4) (ret := (some .int)) (by decide +kernel) rfl (fun p e s m args below meth c D cy b n as E P hsp X hr hin => by
    obtain ⟨h1, h2⟩ := vc b cy n as E P (zAt p la e (rm_X6_row) s m args below meth c (MQ below (zQ D b (n + 0) P) args s 0 0 (fun q => b ≤ q)) 4 D b n) hsp
    exact ⟨h1, S_X6_row_0 la X hr h_X6_in h_X6_isSet h_X6_manyOf h_X6_rowsOf _ _ _ _ _ h2⟩)

theorem m_X6_row (la : Launch) : zMet la yX6_row wsX6_row rm_X6_row 0 0 sp_X6_row := w_X6_row la (m_X6_in la) (m_X6_isSet la) (m_X6_manyOf la) (m_X6_rowsOf la) _ vc_X6_row

