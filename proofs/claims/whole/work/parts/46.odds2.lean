theorem zgcd_eq : ∀ (k a c : Nat), c < 2 ^ k → zgcd (2 * k) a c = Nat.gcd a c := by
  intro k
  induction k with
  | zero =>
    intro a c h
    have : c = 0 := by have h1 : (2 : Nat) ^ 0 = 1 := rfl; omega
    rw [this, Nat.gcd_zero_right]; rfl
  | succ k ih =>
    intro a c h
    rw [show 2 * (k + 1) = 2 * k + 1 + 1 by omega, zgcd]
    by_cases e : c = 0
    · rw [if_pos e, e, Nat.gcd_zero_right]
    · rw [if_neg e, zgcd]
      have h1 : Nat.gcd a c = Nat.gcd c (a % c) := by rw [Nat.gcd_comm a c, Nat.gcd_rec c a, Nat.gcd_comm]
      by_cases e2 : a % c = 0
      · rw [if_pos e2, h1, e2, Nat.gcd_zero_right]
      · rw [if_neg e2, ih, h1]
        · rw [Nat.gcd_comm c (a % c), Nat.gcd_rec (a % c) c, Nat.gcd_comm]
        · have h2 : a % c < c := Nat.mod_lt _ (by omega)
          have h3 : c % (a % c) < a % c := Nat.mod_lt _ (by omega)
          have h4 : (2 : Nat) ^ (k + 1) = 2 * 2 ^ k := by rw [Nat.pow_succ, Nat.mul_comm]
          have h5 : c % (a % c) = c - (a % c) * (c / (a % c)) := by rw [Nat.mod_def]
          have h6 : 1 ≤ c / (a % c) := (Nat.le_div_iff_mul_le (by omega)).mpr (by omega)
          have h7 : a % c * 1 ≤ (a % c) * (c / (a % c)) := Nat.mul_le_mul_left _ h6
          omega
def sp_X6_odds : zSp := fun b cy as N E P => ∃ x y p w : Int32, zPM (op_odds x y p w) [.int x, .int y, .int p, .int w] b cy as N E P
abbrev rm_X6_odds : Room := { frames := 4, cells := 0, slots := 0, locals := 104 }
def B_X6_odds_205 (b n0 : Nat) (cy : zY) (P : zPo) (A : Nat → zC) : zC :=
  z_iret 0 0 P
def B_X6_odds_164 (b n0 : Nat) (cy : zY) (P : zPo) (A : Nat → zC) : zC :=
  z_iload 9 (z_if (fun x => x = 0) (z_iload 4 (z_if (fun x => x = 0) (z_iload 6 (z_iload 8 (z_bin0 (fun x y => x / y) (B_X6_odds_205 b n0 cy P A)))) (z_iload 7 (z_iload 8 (z_bin0 (fun x y => x / y) (B_X6_odds_205 b n0 cy P A)))))) (z_iload 8 (z_iload 9 (z_bin0 (fun x y => x - x / y * y) (z_istore 10 (z_iload 9 (z_istore 8 (z_iload 10 (z_istore 9 (z_cut [4, 6, 7, 8, 9] (A 164)))))))))))
def B_X6_odds_150 (b n0 : Nat) (cy : zY) (P : zPo) (A : Nat → zC) : zC :=
  z_iinc 8 (1) (z_cut [0, 1, 2, 3, 4, 5, 6, 7, 8] (A 81))
def B_X6_odds_81 (b n0 : Nat) (cy : zY) (P : zPo) (A : Nat → zC) : zC :=
  z_iload 8 (z_aload 0 (z_get b n0 6 3 (z_const (0) (z_ald b n0 (cy 1) (z_icmp (fun x y => y ≤ x) (z_iload 6 (z_istore 8 (z_iload 7 (z_istore 9 (z_cut [4, 6, 7, 8, 9] (A 164)))))) (z_iload 8 (z_iload 1 (z_icmp (fun x y => x = y) (B_X6_odds_150 b n0 cy P A) (z_iload 8 (z_iload 2 (z_icmp (fun x y => x = y) (B_X6_odds_150 b n0 cy P A) (z_aload 0 (z_aload 0 (z_get b n0 6 14 (z_iload 8 (z_callV b n0 0 0 cy 6 2 0 0 sp_X6_isAboard (z_if (fun x => x = 0) (B_X6_odds_150 b n0 cy P A) (z_aload 0 (z_get b n0 6 14 (z_const (16) (z_const (6) (z_iload 8 (z_bin (fun x y => x * y) (z_bin (fun x y => x + y) (z_iload 1 (z_bin (fun x y => x + y) (z_ald b n0 (cy 1) (z_iload 5 (z_icmp (fun x y => x ≤ y) (B_X6_odds_150 b n0 cy P A) (z_iload 6 (z_iload 3 (z_bin (fun x y => x * y) (z_istore 6 (z_iload 7 (z_const (10) (z_bin (fun x y => x * y) (z_istore 7 (B_X6_odds_150 b n0 cy P A))))))))))))))))))))))))))))))))))))))
def B_X6_odds_72 (b n0 : Nat) (cy : zY) (P : zPo) (A : Nat → zC) : zC :=
  z_istore 6 (z_const (10) (z_istore 7 (z_const (0) (z_istore 8 (z_cut [0, 1, 2, 3, 4, 5, 6, 7, 8] (A 81))))))
def B_X6_odds_41 (b n0 : Nat) (cy : zY) (P : zPo) (A : Nat → zC) : zC :=
  z_const (-1) (z_iret 0 0 P)
def B_X6_odds_0 (b n0 : Nat) (cy : zY) (P : zPo) (A : Nat → zC) : zC :=
  z_aload 0 (z_iload 1 (z_callV b n0 0 0 cy 6 1 0 0 sp_X6_isHere (z_if (fun x => x = 0) (B_X6_odds_41 b n0 cy P A) (z_aload 0 (z_iload 2 (z_callV b n0 0 0 cy 6 1 0 0 sp_X6_isHere (z_if (fun x => x = 0) (B_X6_odds_41 b n0 cy P A) (z_iload 1 (z_iload 2 (z_icmp (fun x y => x = y) (B_X6_odds_41 b n0 cy P A) (z_iload 3 (z_const (0) (z_const (10) (z_callS b n0 0 0 cy 3 0 0 sp_X6_in (z_if (fun x => x = 0) (B_X6_odds_41 b n0 cy P A) (z_iload 4 (z_const (0) (z_const (1) (z_callS b n0 0 0 cy 3 0 0 sp_X6_in (z_if (fun x => x = 0) (B_X6_odds_41 b n0 cy P A) (z_aload 0 (z_get b n0 6 14 (z_const (16) (z_const (6) (z_iload 2 (z_bin (fun x y => x * y) (z_bin (fun x y => x + y) (z_iload 1 (z_bin (fun x y => x + y) (z_ald b n0 (cy 1) (z_istore 5 (z_iload 5 (z_if (fun x => x ≤ 0) (z_const (0) (B_X6_odds_72 b n0 cy P A)) (z_const (10) (z_iload 3 (z_bin (fun x y => x - y) (B_X6_odds_72 b n0 cy P A)))))))))))))))))))))))))))))))))))))
def zVC_X6_odds (sp : zSp) : Prop := ∀ (b : Nat) (cy : zY) (n : Nat) (as : List Value) (E : zE) (P : zPo) (A : Nat → zC), (∀ l st k u E, B_X6_odds_81 b n cy P A l st k u E → A 81 l st k u E) → (∀ l st k u E, B_X6_odds_164 b n cy P A l st k u E → A 164 l st k u E) → sp b cy as n E P → zgood as 11 ∧ B_X6_odds_0 b n cy P A (lv_args 0 as) [] 0 0 E

set_option maxRecDepth 100000 in
set_option maxHeartbeats 4000000 in
theorem vc_X6_odds : zVC_X6_odds sp_X6_odds := by
  intro b cy N as E P A hA81 hA164 hsp
  obtain ⟨x, y, pp, w, K, ⟨T, D, C, I, S, tr⟩, rfl, hmd, hok, hK, hN, hP⟩ := hsp
  refine ⟨⟨Nat.le_of_ble_eq_true rfl, zg1 rfl (zg1 rfl (zg1 rfl (zg1 rfl (zg1 rfl (zg0)))))⟩, ?_⟩
  have N0 : 159 < N := by omega
  have N6 : 166 < N := by omega
  obtain ⟨lt, q, st, so, va, fa, e0⟩ := hmd.o
  replace e0 : E 159 = zM0 b tr (nI T.1) lt q st so va fa (nI S.1) := e0
  have hR := hmd.mr hok hN
  obtain ⟨f, hW, hCa⟩ := hmd.wr
  have hE := hW.2.2.1
  obtain ⟨h8, h9⟩ : (∃ g : Nat → Int32, E 168 = .inl (cy 1, 52, .inl g)) ∧ (∃ g : Nat → Int32, E 169 = .inl (cy 1, 6, .inl g)) := by obtain ⟨_, _, _, _, _, _, _, _, _, a, c, _⟩ := hmd; exact ⟨a, c⟩
  obtain ⟨hn, hlo, _, _, _, ⟨hmk, hs99, hth, hm10, _⟩, _⟩ := id hok
  replace hn : D.1 ≤ 6 := hn
  obtain ⟨v0, v4, v10, v16⟩ := zCm0 hW.2.2.2
  have N1 : 161 < N := by omega
  obtain ⟨_, _, ⟨rf, r1, r2⟩, _⟩ := id hmd
  replace r1 : E 161 = .inl (cy 1, 2, .inl rf) := r1
  replace r2 : rf 0 = nI D.1 := r2
  have hin : vp_in 0 2 := (vp_in_nI (show 0 < 2 by omega) (by omega) : vp_in (nI 0) 2)
  have hcl : (0 : Int32).toNatClampNeg = 0 := by decide
  have z10' : ∀ y : Int32, (if ¬ y < 0 ∧ ¬ (10 : Int32) < y then (1 : Int32) else 0) = if zisB 11 y = true then 1 else 0 := fun y => zin_iff (k := 10) (by omega) y
  replace hP := hP E hmd (fun _ _ => rfl)
  simp only [op_odds, zisA_f] at hP
  simp -implicitDefEqProofs only [B_X6_odds_0, B_X6_odds_41, e_cut, e_iload, e_aload, e_istore, e_astore, e_iinc, e_const, e_lconst, e_bin, e_bin0, e_un, e_ladd, e_dupi, e_dupr, e_dup2, e_pop, e_sw, e_sw0, e_sw1, e_get, e_put, e_ald, e_ast, e_aald, e_aast, e_copy, e_new, e_newa, e_anewa, e_min, e_abs, e_oinit, e_callI, e_callV, e_callS, e_iret, e_zret, e_lret, e_vret, e_tl1, e_tl0, e_tl2, e_tl3, z10, Bool.false_eq_true, e_argi, e_argr, e_argn, zld_c, zst_n, zst_c, zpick_n, zpick_c, List.drop_succ_cons, List.drop_zero, List.take_succ_cons, List.take_zero, List.length_cons, List.length_nil, List.reverse_cons, List.reverse_nil, List.nil_append, List.cons_append, List.append_nil, List.getElem?_cons_zero, List.getElem?_cons_succ, List.set_cons_zero, List.set_cons_succ, Nat.add_sub_cancel_left, Nat.sub_self, Nat.add_zero, Nat.zero_add, Nat.le_add_right, Nat.le_refl, true_and, and_true, va_rf, zok, Nat.add_left_cancel_iff, Nat.add_eq_left, Nat.left_eq_add, eq_self, if_true, if_false, not_false_eq_true, not_true_eq_false, false_implies, true_implies, Nat.reduceEqDiff, Nat.reduceAdd, Nat.reduceLT, Nat.reduceLeDiff, reduceIte, zM0, e0, N0]
  refine ⟨_, _, _, C.1, x, rfl, hR, hW.ar, hmk.l64, ?_⟩
  by_cases q1 : zisB D.1 x = true ∧ (C.1 1).testBit (zcl x) = true
  · rw [if_pos q1]
    simp -implicitDefEqProofs only [e_cut, e_iload, e_aload, e_istore, e_astore, e_iinc, e_const, e_lconst, e_bin, e_bin0, e_un, e_ladd, e_dupi, e_dupr, e_dup2, e_pop, e_sw, e_sw0, e_sw1, e_get, e_put, e_ald, e_ast, e_aald, e_aast, e_copy, e_new, e_newa, e_anewa, e_min, e_abs, e_oinit, e_callI, e_callV, e_callS, e_iret, e_zret, e_lret, e_vret, e_tl1, e_tl0, e_tl2, e_tl3, z10, Bool.false_eq_true, e_argi, e_argr, e_argn, zld_c, zst_n, zst_c, zpick_n, zpick_c, List.drop_succ_cons, List.drop_zero, List.take_succ_cons, List.take_zero, List.length_cons, List.length_nil, List.reverse_cons, List.reverse_nil, List.nil_append, List.cons_append, List.append_nil, List.getElem?_cons_zero, List.getElem?_cons_succ, List.set_cons_zero, List.set_cons_succ, Nat.add_sub_cancel_left, Nat.sub_self, Nat.add_zero, Nat.zero_add, Nat.le_add_right, Nat.le_refl, true_and, and_true, va_rf, zok, Nat.add_left_cancel_iff, Nat.add_eq_left, Nat.left_eq_add, eq_self, if_true, if_false, not_false_eq_true, not_true_eq_false, false_implies, true_implies, Nat.reduceEqDiff, Nat.reduceAdd, Nat.reduceLT, Nat.reduceLeDiff, reduceIte, e_iff (c1 := fun x => x = 0) (x := 1) (by decide), zM0, e0, N0]
    refine ⟨_, _, _, C.1, y, rfl, hR, hW.ar, hmk.l64, ?_⟩
    by_cases q2 : zisB D.1 y = true ∧ (C.1 1).testBit (zcl y) = true
    · rw [if_pos q2]
      simp -implicitDefEqProofs only [e_cut, e_iload, e_aload, e_istore, e_astore, e_iinc, e_const, e_lconst, e_bin, e_bin0, e_un, e_ladd, e_dupi, e_dupr, e_dup2, e_pop, e_sw, e_sw0, e_sw1, e_get, e_put, e_ald, e_ast, e_aald, e_aast, e_copy, e_new, e_newa, e_anewa, e_min, e_abs, e_oinit, e_callI, e_callV, e_callS, e_iret, e_zret, e_lret, e_vret, e_tl1, e_tl0, e_tl2, e_tl3, z10, Bool.false_eq_true, e_argi, e_argr, e_argn, zld_c, zst_n, zst_c, zpick_n, zpick_c, List.drop_succ_cons, List.drop_zero, List.take_succ_cons, List.take_zero, List.length_cons, List.length_nil, List.reverse_cons, List.reverse_nil, List.nil_append, List.cons_append, List.append_nil, List.getElem?_cons_zero, List.getElem?_cons_succ, List.set_cons_zero, List.set_cons_succ, Nat.add_sub_cancel_left, Nat.sub_self, Nat.add_zero, Nat.zero_add, Nat.le_add_right, Nat.le_refl, true_and, and_true, va_rf, zok, Nat.add_left_cancel_iff, Nat.add_eq_left, Nat.left_eq_add, eq_self, if_true, if_false, not_false_eq_true, not_true_eq_false, false_implies, true_implies, Nat.reduceEqDiff, Nat.reduceAdd, Nat.reduceLT, Nat.reduceLeDiff, reduceIte, e_iff (c1 := fun x => x = 0) (x := 1) (by decide)]
      by_cases q3 : x = y
      · rw [if_neg (fun h => h.1.2.2 q3)] at hP
        simp -implicitDefEqProofs only [e_cut, e_iload, e_aload, e_istore, e_astore, e_iinc, e_const, e_lconst, e_bin, e_bin0, e_un, e_ladd, e_dupi, e_dupr, e_dup2, e_pop, e_sw, e_sw0, e_sw1, e_get, e_put, e_ald, e_ast, e_aald, e_aast, e_copy, e_new, e_newa, e_anewa, e_min, e_abs, e_oinit, e_callI, e_callV, e_callS, e_iret, e_zret, e_lret, e_vret, e_tl1, e_tl0, e_tl2, e_tl3, z10, Bool.false_eq_true, e_argi, e_argr, e_argn, zld_c, zst_n, zst_c, zpick_n, zpick_c, List.drop_succ_cons, List.drop_zero, List.take_succ_cons, List.take_zero, List.length_cons, List.length_nil, List.reverse_cons, List.reverse_nil, List.nil_append, List.cons_append, List.append_nil, List.getElem?_cons_zero, List.getElem?_cons_succ, List.set_cons_zero, List.set_cons_succ, Nat.add_sub_cancel_left, Nat.sub_self, Nat.add_zero, Nat.zero_add, Nat.le_add_right, Nat.le_refl, true_and, and_true, va_rf, zok, Nat.add_left_cancel_iff, Nat.add_eq_left, Nat.left_eq_add, eq_self, if_true, if_false, not_false_eq_true, not_true_eq_false, false_implies, true_implies, Nat.reduceEqDiff, Nat.reduceAdd, Nat.reduceLT, Nat.reduceLeDiff, reduceIte, e_icmpt (c2 := fun x y => x = y) q3]
        exact hP
      · simp -implicitDefEqProofs only [e_cut, e_iload, e_aload, e_istore, e_astore, e_iinc, e_const, e_lconst, e_bin, e_bin0, e_un, e_ladd, e_dupi, e_dupr, e_dup2, e_pop, e_sw, e_sw0, e_sw1, e_get, e_put, e_ald, e_ast, e_aald, e_aast, e_copy, e_new, e_newa, e_anewa, e_min, e_abs, e_oinit, e_callI, e_callV, e_callS, e_iret, e_zret, e_lret, e_vret, e_tl1, e_tl0, e_tl2, e_tl3, z10, Bool.false_eq_true, e_argi, e_argr, e_argn, zld_c, zst_n, zst_c, zpick_n, zpick_c, List.drop_succ_cons, List.drop_zero, List.take_succ_cons, List.take_zero, List.length_cons, List.length_nil, List.reverse_cons, List.reverse_nil, List.nil_append, List.cons_append, List.append_nil, List.getElem?_cons_zero, List.getElem?_cons_succ, List.set_cons_zero, List.set_cons_succ, Nat.add_sub_cancel_left, Nat.sub_self, Nat.add_zero, Nat.zero_add, Nat.le_add_right, Nat.le_refl, true_and, and_true, va_rf, zok, Nat.add_left_cancel_iff, Nat.add_eq_left, Nat.left_eq_add, eq_self, if_true, if_false, not_false_eq_true, not_true_eq_false, false_implies, true_implies, Nat.reduceEqDiff, Nat.reduceAdd, Nat.reduceLT, Nat.reduceLeDiff, reduceIte, e_icmpf (c2 := fun x y => x = y) q3]
        refine ⟨pp, 0, 10, rfl, ?_⟩
        rw [z10']
        by_cases q4 : zisB 11 pp = true
        · rw [if_pos q4]
          simp -implicitDefEqProofs only [e_cut, e_iload, e_aload, e_istore, e_astore, e_iinc, e_const, e_lconst, e_bin, e_bin0, e_un, e_ladd, e_dupi, e_dupr, e_dup2, e_pop, e_sw, e_sw0, e_sw1, e_get, e_put, e_ald, e_ast, e_aald, e_aast, e_copy, e_new, e_newa, e_anewa, e_min, e_abs, e_oinit, e_callI, e_callV, e_callS, e_iret, e_zret, e_lret, e_vret, e_tl1, e_tl0, e_tl2, e_tl3, z10, Bool.false_eq_true, e_argi, e_argr, e_argn, zld_c, zst_n, zst_c, zpick_n, zpick_c, List.drop_succ_cons, List.drop_zero, List.take_succ_cons, List.take_zero, List.length_cons, List.length_nil, List.reverse_cons, List.reverse_nil, List.nil_append, List.cons_append, List.append_nil, List.getElem?_cons_zero, List.getElem?_cons_succ, List.set_cons_zero, List.set_cons_succ, Nat.add_sub_cancel_left, Nat.sub_self, Nat.add_zero, Nat.zero_add, Nat.le_add_right, Nat.le_refl, true_and, and_true, va_rf, zok, Nat.add_left_cancel_iff, Nat.add_eq_left, Nat.left_eq_add, eq_self, if_true, if_false, not_false_eq_true, not_true_eq_false, false_implies, true_implies, Nat.reduceEqDiff, Nat.reduceAdd, Nat.reduceLT, Nat.reduceLeDiff, reduceIte, e_iff (c1 := fun x => x = 0) (x := 1) (by decide)]
          refine ⟨w, 0, 1, rfl, ?_⟩
          rw [zin01]
          by_cases q5 : zisB 2 w = true
          · rw [if_pos q5]
            rw [if_pos ⟨⟨q1, q2, q3⟩, q4, q5⟩] at hP
            obtain ⟨r, hr, rfl⟩ := zisB_t q1.1 hn
            obtain ⟨s, hs, rfl⟩ := zisB_t q2.1 hn
            obtain ⟨o, ho, rfl⟩ := zisB_u q4 (by omega)
            have hr6 : r < 6 := by omega
            have hs6 : s < 6 := by omega
            rw [zcl_i (show r < 2 ^ 31 by omega), zcl_i (show s < 2 ^ 31 by omega), zcl_i (show o < 2 ^ 31 by omega)] at hP
            have k16 : (16 : Int32) = nI 16 := rfl
            have k6 : (6 : Int32) = nI 6 := rfl
            have l36 := hmk.2.2.2.2.2.1
            have l2b := hmk.2.2.2.1
            have jin : ∀ k, k < 6 → vp_in (nI (16 + 6 * k + r)) 1719 := fun k hk => vp_in_nI (by omega) (by omega)
            have jcl : ∀ k, k < 6 → (nI (16 + 6 * k + r)).toNatClampNeg = 16 + 6 * k + r := fun k hk => nI_clamp (by omega)
            have jv : ∀ k, k < 6 → f (16 + 6 * k + r) = nI (C.1 (16 + 6 * k + r)) := fun k hk => by have := v16 (6 * k + r) (by omega); rwa [← Nat.add_assoc] at this
            have jb : ∀ k, k < 6 → C.1 (16 + 6 * k + r) < 2 ^ 31 := fun k hk => by have := l36 (6 * k + r) (by omega); rw [← Nat.add_assoc] at this; omega
            have b1 := zolo_le (c := C.1) (r := r) (q := s) hn
            have b2 := zoup_le (c := C.1) (r := r) (q := s) (x := o) hn (by omega)
            -- the odds made short
            have loop2 : ∀ (U L : Nat), U = zoup D.1 C.1 r s o → L = zolo D.1 C.1 r s → ∀ (d a : Nat), a < 2 ^ 31 → d < 2 ^ 31 → Nat.gcd a d = Nat.gcd U L → A 164 [(4, .int w), (6, .int (nI U)), (7, .int (nI L)), (8, .int (nI a)), (9, .int (nI d))] [] 0 0 E := by
              intro U L hU hL d
              induction d using Nat.strongRecOn with
              | ind d ih =>
                intro a ha hd hg
                apply hA164
                by_cases e : d = 0
                · subst e
                  rw [Nat.gcd_zero_right] at hg
                  have hz : zgcd 64 (zolo D.1 C.1 r s) (zoup D.1 C.1 r s o) = a := by
                    have h1 := zgcd_eq 32 (zolo D.1 C.1 r s) (zoup D.1 C.1 r s o) (by omega)
                    rw [show 2 * 32 = 64 from rfl] at h1
                    rw [h1, ← hU, ← hL, Nat.gcd_comm, ← hg]
                  have ha0 : 0 < a := by rw [hg]; exact Nat.gcd_pos_of_pos_right _ (by rw [hL]; exact b1.2)
                  have nz : ¬ nI a = 0 := nI_ne0 ha0 ha
                  have z00 : (nI 0 = 0) = True := eq_true rfl
                  simp only [zodds, hz] at hP
                  rw [← hU, ← hL] at hP
                  simp -implicitDefEqProofs only [B_X6_odds_164, B_X6_odds_205, e_cut, e_iload, e_aload, e_istore, e_astore, e_iinc, e_const, e_lconst, e_bin, e_bin0, e_un, e_ladd, e_dupi, e_dupr, e_dup2, e_pop, e_sw, e_sw0, e_sw1, e_get, e_put, e_ald, e_ast, e_aald, e_aast, e_copy, e_new, e_newa, e_anewa, e_min, e_abs, e_oinit, e_callI, e_callV, e_callS, e_iret, e_zret, e_lret, e_vret, e_tl1, e_tl0, e_tl2, e_tl3, z10, Bool.false_eq_true, e_argi, e_argr, e_argn, zld_c, zst_n, zst_c, zpick_n, zpick_c, List.drop_succ_cons, List.drop_zero, List.take_succ_cons, List.take_zero, List.length_cons, List.length_nil, List.reverse_cons, List.reverse_nil, List.nil_append, List.cons_append, List.append_nil, List.getElem?_cons_zero, List.getElem?_cons_succ, List.set_cons_zero, List.set_cons_succ, Nat.add_sub_cancel_left, Nat.sub_self, Nat.add_zero, Nat.zero_add, Nat.le_add_right, Nat.le_refl, true_and, and_true, va_rf, zok, Nat.add_left_cancel_iff, Nat.add_eq_left, Nat.left_eq_add, eq_self, if_true, if_false, not_false_eq_true, not_true_eq_false, false_implies, true_implies, Nat.reduceEqDiff, Nat.reduceAdd, Nat.reduceLT, Nat.reduceLeDiff, reduceIte, z00, e_if, nz, pk_div (show U < 2 ^ 31 by omega) ha0 ha, pk_div (show L < 2 ^ 31 by omega) ha0 ha]
                  refine ⟨fun c1 => ?_, fun c1 => ?_⟩
                  · rw [if_pos c1] at hP; exact hP
                  · rw [if_neg c1] at hP; exact hP
                · have nz : ¬ nI d = 0 := nI_ne0 (by omega) hd
                  have h1 := Nat.mod_lt a (show 0 < d by omega)
                  have h9 := ih (a % d) h1 d hd (by omega) (by rw [← hg, Nat.gcd_comm a d, Nat.gcd_rec d a, Nat.gcd_comm])
                  simp -implicitDefEqProofs only [B_X6_odds_164, e_cut, e_iload, e_aload, e_istore, e_astore, e_iinc, e_const, e_lconst, e_bin, e_bin0, e_un, e_ladd, e_dupi, e_dupr, e_dup2, e_pop, e_sw, e_sw0, e_sw1, e_get, e_put, e_ald, e_ast, e_aald, e_aast, e_copy, e_new, e_newa, e_anewa, e_min, e_abs, e_oinit, e_callI, e_callV, e_callS, e_iret, e_zret, e_lret, e_vret, e_tl1, e_tl0, e_tl2, e_tl3, z10, Bool.false_eq_true, e_argi, e_argr, e_argn, zld_c, zst_n, zst_c, zpick_n, zpick_c, List.drop_succ_cons, List.drop_zero, List.take_succ_cons, List.take_zero, List.length_cons, List.length_nil, List.reverse_cons, List.reverse_nil, List.nil_append, List.cons_append, List.append_nil, List.getElem?_cons_zero, List.getElem?_cons_succ, List.set_cons_zero, List.set_cons_succ, Nat.add_sub_cancel_left, Nat.sub_self, Nat.add_zero, Nat.zero_add, Nat.le_add_right, Nat.le_refl, true_and, and_true, va_rf, zok, Nat.add_left_cancel_iff, Nat.add_eq_left, Nat.left_eq_add, eq_self, if_true, if_false, not_false_eq_true, not_true_eq_false, false_implies, true_implies, Nat.reduceEqDiff, Nat.reduceAdd, Nat.reduceLT, Nat.reduceLeDiff, reduceIte, e_iff (c1 := fun x => x = 0) (x := nI d) nz, nz, pk_rem ha (show 0 < d by omega) hd]
                  exact h9
            -- who is ahead
            generalize hg : (fun t => if t ≠ r ∧ (C.1 1).testBit t = true ∧ C.1 (16 + 6 * s + r) < C.1 (16 + 6 * t + r) then 1 else 0) = g
            have hah : zahead D.1 C.1 r s = zsum g D.1 := by rw [← hg]; rfl
            have loop1 : ∀ (u0 : Nat), (u0 * o ^ zsum g D.1 = zoup D.1 C.1 r s o) → ∀ (d k : Nat), d + k = D.1 → A 81 [(0, .ref (b + 159)), (1, .int (nI r)), (2, .int (nI s)), (3, .int (nI o)), (4, .int w), (5, .int (nI (C.1 (16 + 6 * s + r)))), (6, .int (nI (u0 * o ^ zsum g k))), (7, .int (nI (10 * 10 ^ zsum g k))), (8, .int (nI k))] [] 0 0 E := by
              intro u0 hu0 d
              induction d with
              | zero =>
                intro k hd
                obtain rfl : k = D.1 := by omega
                apply hA81
                have cle : nI D.1 ≤ nI D.1 := nI_le (Nat.le_refl _) (by omega)
                have hlo' : 10 * 10 ^ zsum g D.1 = zolo D.1 C.1 r s := by unfold zolo; rw [hah]
                rw [hu0, hlo']
                simp -implicitDefEqProofs only [B_X6_odds_81, e_cut, e_iload, e_aload, e_istore, e_astore, e_iinc, e_const, e_lconst, e_bin, e_bin0, e_un, e_ladd, e_dupi, e_dupr, e_dup2, e_pop, e_sw, e_sw0, e_sw1, e_get, e_put, e_ald, e_ast, e_aald, e_aast, e_copy, e_new, e_newa, e_anewa, e_min, e_abs, e_oinit, e_callI, e_callV, e_callS, e_iret, e_zret, e_lret, e_vret, e_tl1, e_tl0, e_tl2, e_tl3, z10, Bool.false_eq_true, e_argi, e_argr, e_argn, zld_c, zst_n, zst_c, zpick_n, zpick_c, List.drop_succ_cons, List.drop_zero, List.take_succ_cons, List.take_zero, List.length_cons, List.length_nil, List.reverse_cons, List.reverse_nil, List.nil_append, List.cons_append, List.append_nil, List.getElem?_cons_zero, List.getElem?_cons_succ, List.set_cons_zero, List.set_cons_succ, Nat.add_sub_cancel_left, Nat.sub_self, Nat.add_zero, Nat.zero_add, Nat.le_add_right, Nat.le_refl, true_and, and_true, va_rf, zok, Nat.add_left_cancel_iff, Nat.add_eq_left, Nat.left_eq_add, eq_self, if_true, if_false, not_false_eq_true, not_true_eq_false, false_implies, true_implies, Nat.reduceEqDiff, Nat.reduceAdd, Nat.reduceLT, Nat.reduceLeDiff, reduceIte, e_icmpt (c2 := fun x y => y ≤ x) cle, zM0, e0, N0, N1, r1, r2, hin, hcl]
                exact loop2 _ _ rfl rfl _ _ (by omega) (by omega) rfl
              | succ d ih =>
                intro k hd
                have hk : k < D.1 := by omega
                have hk6 : k < 6 := by omega
                apply hA81
                have cle : ¬ nI D.1 ≤ nI k := nI_ge hk (by omega)
                have h9 := ih (k + 1) (by omega)
                rw [zsum] at h9
                have kr : (nI k = nI r) = (k = r) := propext (nI_eq (by omega) (by omega))
                have ks : (nI k = nI s) = (k = s) := propext (nI_eq (by omega) (by omega))
                have kl : (nI (C.1 (16 + 6 * k + r)) ≤ nI (C.1 (16 + 6 * s + r))) = (C.1 (16 + 6 * k + r) ≤ C.1 (16 + 6 * s + r)) := propext (nI_leI (jb k hk6) (jb s hs6))
                have ko : nI (u0 * o ^ zsum g k) * nI o = nI (u0 * o ^ (zsum g k + 1)) := by rw [pk_mul, Nat.pow_succ, Nat.mul_assoc]
                have k10 : nI (10 * 10 ^ zsum g k) * 10 = nI (10 * 10 ^ (zsum g k + 1)) := by
                  have := pk_mul (10 * 10 ^ zsum g k) 10
                  rw [Nat.pow_succ, ← Nat.mul_assoc]; exact this
                have no : g k = 0 → B_X6_odds_150 b N cy P A [(0, .ref (b + 159)), (1, .int (nI r)), (2, .int (nI s)), (3, .int (nI o)), (4, .int w), (5, .int (nI (C.1 (16 + 6 * s + r)))), (6, .int (nI (u0 * o ^ zsum g k))), (7, .int (nI (10 * 10 ^ zsum g k))), (8, .int (nI k))] [] 0 0 E := fun h => by
                  rw [h, Nat.add_zero] at h9
                  simp -implicitDefEqProofs only [B_X6_odds_150, e_cut, e_iload, e_aload, e_istore, e_astore, e_iinc, e_const, e_lconst, e_bin, e_bin0, e_un, e_ladd, e_dupi, e_dupr, e_dup2, e_pop, e_sw, e_sw0, e_sw1, e_get, e_put, e_ald, e_ast, e_aald, e_aast, e_copy, e_new, e_newa, e_anewa, e_min, e_abs, e_oinit, e_callI, e_callV, e_callS, e_iret, e_zret, e_lret, e_vret, e_tl1, e_tl0, e_tl2, e_tl3, z10, Bool.false_eq_true, e_argi, e_argr, e_argn, zld_c, zst_n, zst_c, zpick_n, zpick_c, List.drop_succ_cons, List.drop_zero, List.take_succ_cons, List.take_zero, List.length_cons, List.length_nil, List.reverse_cons, List.reverse_nil, List.nil_append, List.cons_append, List.append_nil, List.getElem?_cons_zero, List.getElem?_cons_succ, List.set_cons_zero, List.set_cons_succ, Nat.add_sub_cancel_left, Nat.sub_self, Nat.add_zero, Nat.zero_add, Nat.le_add_right, Nat.le_refl, true_and, and_true, va_rf, zok, Nat.add_left_cancel_iff, Nat.add_eq_left, Nat.left_eq_add, eq_self, if_true, if_false, not_false_eq_true, not_true_eq_false, false_implies, true_implies, Nat.reduceEqDiff, Nat.reduceAdd, Nat.reduceLT, Nat.reduceLeDiff, reduceIte, nI_1]
                  exact h9
                simp -implicitDefEqProofs only [B_X6_odds_81, e_cut, e_iload, e_aload, e_istore, e_astore, e_iinc, e_const, e_lconst, e_bin, e_bin0, e_un, e_ladd, e_dupi, e_dupr, e_dup2, e_pop, e_sw, e_sw0, e_sw1, e_get, e_put, e_ald, e_ast, e_aald, e_aast, e_copy, e_new, e_newa, e_anewa, e_min, e_abs, e_oinit, e_callI, e_callV, e_callS, e_iret, e_zret, e_lret, e_vret, e_tl1, e_tl0, e_tl2, e_tl3, z10, Bool.false_eq_true, e_argi, e_argr, e_argn, zld_c, zst_n, zst_c, zpick_n, zpick_c, List.drop_succ_cons, List.drop_zero, List.take_succ_cons, List.take_zero, List.length_cons, List.length_nil, List.reverse_cons, List.reverse_nil, List.nil_append, List.cons_append, List.append_nil, List.getElem?_cons_zero, List.getElem?_cons_succ, List.set_cons_zero, List.set_cons_succ, Nat.add_sub_cancel_left, Nat.sub_self, Nat.add_zero, Nat.zero_add, Nat.le_add_right, Nat.le_refl, true_and, and_true, va_rf, zok, Nat.add_left_cancel_iff, Nat.add_eq_left, Nat.left_eq_add, eq_self, if_true, if_false, not_false_eq_true, not_true_eq_false, false_implies, true_implies, Nat.reduceEqDiff, Nat.reduceAdd, Nat.reduceLT, Nat.reduceLeDiff, reduceIte, cle, e_icmp, zM0, e0, N0, N1, N6, r1, r2, hin, hcl, kr, ks]
                refine ⟨fun c1 => no (by rw [← hg]; simp [c1]), fun c1 => ⟨fun c2 => no (by rw [← hg]; simp [c2]), fun c2 => ?_⟩⟩
                refine ⟨166, k, D.1, C.1, rfl, hW.ar, N6, hk6, hmk.l64, ?_⟩
                by_cases c3 : (C.1 1).testBit k = true
                · simp -implicitDefEqProofs only [e_cut, e_iload, e_aload, e_istore, e_astore, e_iinc, e_const, e_lconst, e_bin, e_bin0, e_un, e_ladd, e_dupi, e_dupr, e_dup2, e_pop, e_sw, e_sw0, e_sw1, e_get, e_put, e_ald, e_ast, e_aald, e_aast, e_copy, e_new, e_newa, e_anewa, e_min, e_abs, e_oinit, e_callI, e_callV, e_callS, e_iret, e_zret, e_lret, e_vret, e_tl1, e_tl0, e_tl2, e_tl3, z10, Bool.false_eq_true, e_argi, e_argr, e_argn, zld_c, zst_n, zst_c, zpick_n, zpick_c, List.drop_succ_cons, List.drop_zero, List.take_succ_cons, List.take_zero, List.length_cons, List.length_nil, List.reverse_cons, List.reverse_nil, List.nil_append, List.cons_append, List.append_nil, List.getElem?_cons_zero, List.getElem?_cons_succ, List.set_cons_zero, List.set_cons_succ, Nat.add_sub_cancel_left, Nat.sub_self, Nat.add_zero, Nat.zero_add, Nat.le_add_right, Nat.le_refl, true_and, and_true, va_rf, zok, Nat.add_left_cancel_iff, Nat.add_eq_left, Nat.left_eq_add, eq_self, if_true, if_false, not_false_eq_true, not_true_eq_false, false_implies, true_implies, Nat.reduceEqDiff, Nat.reduceAdd, Nat.reduceLT, Nat.reduceLeDiff, reduceIte, c3, e_iff (c1 := fun x => x = 0) (x := 1) (by decide), e_icmp, zM0, e0, N0, N6, hE, k16, k6, zix6, jin k hk6, jcl k hk6, jv k hk6, kl]
                  refine ⟨fun c4 => no (by rw [← hg]; simp only; rw [if_neg (by omega)]), fun c4 => ?_⟩
                  rw [show g k = 1 by rw [← hg]; simp only; rw [if_pos ⟨c1, c3, by omega⟩]] at h9
                  simp -implicitDefEqProofs only [B_X6_odds_150, e_cut, e_iload, e_aload, e_istore, e_astore, e_iinc, e_const, e_lconst, e_bin, e_bin0, e_un, e_ladd, e_dupi, e_dupr, e_dup2, e_pop, e_sw, e_sw0, e_sw1, e_get, e_put, e_ald, e_ast, e_aald, e_aast, e_copy, e_new, e_newa, e_anewa, e_min, e_abs, e_oinit, e_callI, e_callV, e_callS, e_iret, e_zret, e_lret, e_vret, e_tl1, e_tl0, e_tl2, e_tl3, z10, Bool.false_eq_true, e_argi, e_argr, e_argn, zld_c, zst_n, zst_c, zpick_n, zpick_c, List.drop_succ_cons, List.drop_zero, List.take_succ_cons, List.take_zero, List.length_cons, List.length_nil, List.reverse_cons, List.reverse_nil, List.nil_append, List.cons_append, List.append_nil, List.getElem?_cons_zero, List.getElem?_cons_succ, List.set_cons_zero, List.set_cons_succ, Nat.add_sub_cancel_left, Nat.sub_self, Nat.add_zero, Nat.zero_add, Nat.le_add_right, Nat.le_refl, true_and, and_true, va_rf, zok, Nat.add_left_cancel_iff, Nat.add_eq_left, Nat.left_eq_add, eq_self, if_true, if_false, not_false_eq_true, not_true_eq_false, false_implies, true_implies, Nat.reduceEqDiff, Nat.reduceAdd, Nat.reduceLT, Nat.reduceLeDiff, reduceIte, ko, k10, nI_1]
                  exact h9
                · simp -implicitDefEqProofs only [e_cut, e_iload, e_aload, e_istore, e_astore, e_iinc, e_const, e_lconst, e_bin, e_bin0, e_un, e_ladd, e_dupi, e_dupr, e_dup2, e_pop, e_sw, e_sw0, e_sw1, e_get, e_put, e_ald, e_ast, e_aald, e_aast, e_copy, e_new, e_newa, e_anewa, e_min, e_abs, e_oinit, e_callI, e_callV, e_callS, e_iret, e_zret, e_lret, e_vret, e_tl1, e_tl0, e_tl2, e_tl3, z10, Bool.false_eq_true, e_argi, e_argr, e_argn, zld_c, zst_n, zst_c, zpick_n, zpick_c, List.drop_succ_cons, List.drop_zero, List.take_succ_cons, List.take_zero, List.length_cons, List.length_nil, List.reverse_cons, List.reverse_nil, List.nil_append, List.cons_append, List.append_nil, List.getElem?_cons_zero, List.getElem?_cons_succ, List.set_cons_zero, List.set_cons_succ, Nat.add_sub_cancel_left, Nat.sub_self, Nat.add_zero, Nat.zero_add, Nat.le_add_right, Nat.le_refl, true_and, and_true, va_rf, zok, Nat.add_left_cancel_iff, Nat.add_eq_left, Nat.left_eq_add, eq_self, if_true, if_false, not_false_eq_true, not_true_eq_false, false_implies, true_implies, Nat.reduceEqDiff, Nat.reduceAdd, Nat.reduceLT, Nat.reduceLeDiff, reduceIte, c3, e_ift (c1 := fun x => x = 0) (x := 0) rfl]
                  exact no (by rw [← hg]; simp [c3])
            have kv0 : (nI (C.1 (16 + 6 * s + r)) ≤ 0) = (C.1 (16 + 6 * s + r) ≤ 0) := propext (nI_leI (b := 0) (jb s hs6) (by omega))
            have go : ∀ u0 : Nat, (u0 * o ^ zsum g D.1 = zoup D.1 C.1 r s o) → A 81 [(0, .ref (b + 159)), (1, .int (nI r)), (2, .int (nI s)), (3, .int (nI o)), (4, .int w), (5, .int (nI (C.1 (16 + 6 * s + r)))), (6, .int (nI u0)), (7, .int 10), (8, .int 0)] [] 0 0 E := fun u0 h => by
              have := loop1 u0 h D.1 0 rfl
              rw [show zsum g 0 = 0 from rfl, Nat.pow_zero, Nat.pow_zero, Nat.mul_one] at this
              exact this
            have t10 : (10 : Int32) - nI o = nI (10 - o) := pk_sub (a := 10) (by omega)
            simp -implicitDefEqProofs only [B_X6_odds_72, e_cut, e_iload, e_aload, e_istore, e_astore, e_iinc, e_const, e_lconst, e_bin, e_bin0, e_un, e_ladd, e_dupi, e_dupr, e_dup2, e_pop, e_sw, e_sw0, e_sw1, e_get, e_put, e_ald, e_ast, e_aald, e_aast, e_copy, e_new, e_newa, e_anewa, e_min, e_abs, e_oinit, e_callI, e_callV, e_callS, e_iret, e_zret, e_lret, e_vret, e_tl1, e_tl0, e_tl2, e_tl3, z10, Bool.false_eq_true, e_argi, e_argr, e_argn, zld_c, zst_n, zst_c, zpick_n, zpick_c, List.drop_succ_cons, List.drop_zero, List.take_succ_cons, List.take_zero, List.length_cons, List.length_nil, List.reverse_cons, List.reverse_nil, List.nil_append, List.cons_append, List.append_nil, List.getElem?_cons_zero, List.getElem?_cons_succ, List.set_cons_zero, List.set_cons_succ, Nat.add_sub_cancel_left, Nat.sub_self, Nat.add_zero, Nat.zero_add, Nat.le_add_right, Nat.le_refl, true_and, and_true, va_rf, zok, Nat.add_left_cancel_iff, Nat.add_eq_left, Nat.left_eq_add, eq_self, if_true, if_false, not_false_eq_true, not_true_eq_false, false_implies, true_implies, Nat.reduceEqDiff, Nat.reduceAdd, Nat.reduceLT, Nat.reduceLeDiff, reduceIte, e_iff (c1 := fun x => x = 0) (x := 1) (by decide), zM0, e0, N0, N6, hE, k16, k6, zix6, jin s hs6, jcl s hs6, jv s hs6]
            by_cases c1 : C.1 (16 + 6 * s + r) ≤ 0
            · simp -implicitDefEqProofs only [e_cut, e_iload, e_aload, e_istore, e_astore, e_iinc, e_const, e_lconst, e_bin, e_bin0, e_un, e_ladd, e_dupi, e_dupr, e_dup2, e_pop, e_sw, e_sw0, e_sw1, e_get, e_put, e_ald, e_ast, e_aald, e_aast, e_copy, e_new, e_newa, e_anewa, e_min, e_abs, e_oinit, e_callI, e_callV, e_callS, e_iret, e_zret, e_lret, e_vret, e_tl1, e_tl0, e_tl2, e_tl3, z10, Bool.false_eq_true, e_argi, e_argr, e_argn, zld_c, zst_n, zst_c, zpick_n, zpick_c, List.drop_succ_cons, List.drop_zero, List.take_succ_cons, List.take_zero, List.length_cons, List.length_nil, List.reverse_cons, List.reverse_nil, List.nil_append, List.cons_append, List.append_nil, List.getElem?_cons_zero, List.getElem?_cons_succ, List.set_cons_zero, List.set_cons_succ, Nat.add_sub_cancel_left, Nat.sub_self, Nat.add_zero, Nat.zero_add, Nat.le_add_right, Nat.le_refl, true_and, and_true, va_rf, zok, Nat.add_left_cancel_iff, Nat.add_eq_left, Nat.left_eq_add, eq_self, if_true, if_false, not_false_eq_true, not_true_eq_false, false_implies, true_implies, Nat.reduceEqDiff, Nat.reduceAdd, Nat.reduceLT, Nat.reduceLeDiff, reduceIte, e_ift (c1 := fun x => x ≤ 0) (x := nI (C.1 (16 + 6 * s + r))) (kv0.mpr c1)]
              refine go 0 ?_
              unfold zoup
              rw [if_pos (by omega), Nat.zero_mul]
            · simp -implicitDefEqProofs only [e_cut, e_iload, e_aload, e_istore, e_astore, e_iinc, e_const, e_lconst, e_bin, e_bin0, e_un, e_ladd, e_dupi, e_dupr, e_dup2, e_pop, e_sw, e_sw0, e_sw1, e_get, e_put, e_ald, e_ast, e_aald, e_aast, e_copy, e_new, e_newa, e_anewa, e_min, e_abs, e_oinit, e_callI, e_callV, e_callS, e_iret, e_zret, e_lret, e_vret, e_tl1, e_tl0, e_tl2, e_tl3, z10, Bool.false_eq_true, e_argi, e_argr, e_argn, zld_c, zst_n, zst_c, zpick_n, zpick_c, List.drop_succ_cons, List.drop_zero, List.take_succ_cons, List.take_zero, List.length_cons, List.length_nil, List.reverse_cons, List.reverse_nil, List.nil_append, List.cons_append, List.append_nil, List.getElem?_cons_zero, List.getElem?_cons_succ, List.set_cons_zero, List.set_cons_succ, Nat.add_sub_cancel_left, Nat.sub_self, Nat.add_zero, Nat.zero_add, Nat.le_add_right, Nat.le_refl, true_and, and_true, va_rf, zok, Nat.add_left_cancel_iff, Nat.add_eq_left, Nat.left_eq_add, eq_self, if_true, if_false, not_false_eq_true, not_true_eq_false, false_implies, true_implies, Nat.reduceEqDiff, Nat.reduceAdd, Nat.reduceLT, Nat.reduceLeDiff, reduceIte, e_iff (c1 := fun x => x ≤ 0) (x := nI (C.1 (16 + 6 * s + r))) (fun h => c1 (kv0.mp h)), t10]
              refine go (10 - o) ?_
              unfold zoup
              rw [if_neg (by omega), hah]
          · rw [if_neg q5]
            rw [if_neg (fun h => q5 h.2.2)] at hP
            simp -implicitDefEqProofs only [e_cut, e_iload, e_aload, e_istore, e_astore, e_iinc, e_const, e_lconst, e_bin, e_bin0, e_un, e_ladd, e_dupi, e_dupr, e_dup2, e_pop, e_sw, e_sw0, e_sw1, e_get, e_put, e_ald, e_ast, e_aald, e_aast, e_copy, e_new, e_newa, e_anewa, e_min, e_abs, e_oinit, e_callI, e_callV, e_callS, e_iret, e_zret, e_lret, e_vret, e_tl1, e_tl0, e_tl2, e_tl3, z10, Bool.false_eq_true, e_argi, e_argr, e_argn, zld_c, zst_n, zst_c, zpick_n, zpick_c, List.drop_succ_cons, List.drop_zero, List.take_succ_cons, List.take_zero, List.length_cons, List.length_nil, List.reverse_cons, List.reverse_nil, List.nil_append, List.cons_append, List.append_nil, List.getElem?_cons_zero, List.getElem?_cons_succ, List.set_cons_zero, List.set_cons_succ, Nat.add_sub_cancel_left, Nat.sub_self, Nat.add_zero, Nat.zero_add, Nat.le_add_right, Nat.le_refl, true_and, and_true, va_rf, zok, Nat.add_left_cancel_iff, Nat.add_eq_left, Nat.left_eq_add, eq_self, if_true, if_false, not_false_eq_true, not_true_eq_false, false_implies, true_implies, Nat.reduceEqDiff, Nat.reduceAdd, Nat.reduceLT, Nat.reduceLeDiff, reduceIte, e_ift (c1 := fun x => x = 0) (x := 0) rfl]
            exact hP
        · rw [if_neg q4]
          rw [if_neg (fun h => q4 h.2.1)] at hP
          simp -implicitDefEqProofs only [e_cut, e_iload, e_aload, e_istore, e_astore, e_iinc, e_const, e_lconst, e_bin, e_bin0, e_un, e_ladd, e_dupi, e_dupr, e_dup2, e_pop, e_sw, e_sw0, e_sw1, e_get, e_put, e_ald, e_ast, e_aald, e_aast, e_copy, e_new, e_newa, e_anewa, e_min, e_abs, e_oinit, e_callI, e_callV, e_callS, e_iret, e_zret, e_lret, e_vret, e_tl1, e_tl0, e_tl2, e_tl3, z10, Bool.false_eq_true, e_argi, e_argr, e_argn, zld_c, zst_n, zst_c, zpick_n, zpick_c, List.drop_succ_cons, List.drop_zero, List.take_succ_cons, List.take_zero, List.length_cons, List.length_nil, List.reverse_cons, List.reverse_nil, List.nil_append, List.cons_append, List.append_nil, List.getElem?_cons_zero, List.getElem?_cons_succ, List.set_cons_zero, List.set_cons_succ, Nat.add_sub_cancel_left, Nat.sub_self, Nat.add_zero, Nat.zero_add, Nat.le_add_right, Nat.le_refl, true_and, and_true, va_rf, zok, Nat.add_left_cancel_iff, Nat.add_eq_left, Nat.left_eq_add, eq_self, if_true, if_false, not_false_eq_true, not_true_eq_false, false_implies, true_implies, Nat.reduceEqDiff, Nat.reduceAdd, Nat.reduceLT, Nat.reduceLeDiff, reduceIte, e_ift (c1 := fun x => x = 0) (x := 0) rfl]
          exact hP
    · rw [if_neg q2]
      rw [if_neg (fun h => q2 h.1.2.1)] at hP
      simp -implicitDefEqProofs only [e_cut, e_iload, e_aload, e_istore, e_astore, e_iinc, e_const, e_lconst, e_bin, e_bin0, e_un, e_ladd, e_dupi, e_dupr, e_dup2, e_pop, e_sw, e_sw0, e_sw1, e_get, e_put, e_ald, e_ast, e_aald, e_aast, e_copy, e_new, e_newa, e_anewa, e_min, e_abs, e_oinit, e_callI, e_callV, e_callS, e_iret, e_zret, e_lret, e_vret, e_tl1, e_tl0, e_tl2, e_tl3, z10, Bool.false_eq_true, e_argi, e_argr, e_argn, zld_c, zst_n, zst_c, zpick_n, zpick_c, List.drop_succ_cons, List.drop_zero, List.take_succ_cons, List.take_zero, List.length_cons, List.length_nil, List.reverse_cons, List.reverse_nil, List.nil_append, List.cons_append, List.append_nil, List.getElem?_cons_zero, List.getElem?_cons_succ, List.set_cons_zero, List.set_cons_succ, Nat.add_sub_cancel_left, Nat.sub_self, Nat.add_zero, Nat.zero_add, Nat.le_add_right, Nat.le_refl, true_and, and_true, va_rf, zok, Nat.add_left_cancel_iff, Nat.add_eq_left, Nat.left_eq_add, eq_self, if_true, if_false, not_false_eq_true, not_true_eq_false, false_implies, true_implies, Nat.reduceEqDiff, Nat.reduceAdd, Nat.reduceLT, Nat.reduceLeDiff, reduceIte, e_ift (c1 := fun x => x = 0) (x := 0) rfl]
      exact hP
  · rw [if_neg q1]
    rw [if_neg (fun h => q1 h.1.1)] at hP
    simp -implicitDefEqProofs only [e_cut, e_iload, e_aload, e_istore, e_astore, e_iinc, e_const, e_lconst, e_bin, e_bin0, e_un, e_ladd, e_dupi, e_dupr, e_dup2, e_pop, e_sw, e_sw0, e_sw1, e_get, e_put, e_ald, e_ast, e_aald, e_aast, e_copy, e_new, e_newa, e_anewa, e_min, e_abs, e_oinit, e_callI, e_callV, e_callS, e_iret, e_zret, e_lret, e_vret, e_tl1, e_tl0, e_tl2, e_tl3, z10, Bool.false_eq_true, e_argi, e_argr, e_argn, zld_c, zst_n, zst_c, zpick_n, zpick_c, List.drop_succ_cons, List.drop_zero, List.take_succ_cons, List.take_zero, List.length_cons, List.length_nil, List.reverse_cons, List.reverse_nil, List.nil_append, List.cons_append, List.append_nil, List.getElem?_cons_zero, List.getElem?_cons_succ, List.set_cons_zero, List.set_cons_succ, Nat.add_sub_cancel_left, Nat.sub_self, Nat.add_zero, Nat.zero_add, Nat.le_add_right, Nat.le_refl, true_and, and_true, va_rf, zok, Nat.add_left_cancel_iff, Nat.add_eq_left, Nat.left_eq_add, eq_self, if_true, if_false, not_false_eq_true, not_true_eq_false, false_implies, true_implies, Nat.reduceEqDiff, Nat.reduceAdd, Nat.reduceLT, Nat.reduceLeDiff, reduceIte, e_ift (c1 := fun x => x = 0) (x := 0) rfl]
    exact hP
set_option maxRecDepth 20000 in
theorem f_X6_odds_13 : Cond.fieldLink RX6 13 (TX6 3).1 (TX6 3).2.1 (TX6 3).2.2.1 ∈ wsX6_odds := by decide +kernel
set_option maxRecDepth 20000 in
theorem k_X6_odds_6 : ∀ w ∈ u_ws RX6 TX6 21, w ∈ wsX6_odds := fun _ h => List.mem_cons_of_mem _ (List.mem_append_right _ h)
set_option maxRecDepth 20000 in
theorem f_X6_odds_29 : Cond.fieldLink RX6 29 (TX6 14).1 (TX6 14).2.1 (TX6 14).2.2.1 ∈ wsX6_odds := by decide +kernel
set_option maxRecDepth 100000 in
set_option maxHeartbeats 4000000 in
theorem S_X6_odds_205 {p : Program} {e : Env} {s : State} {m : MethodId} {args : Array Value} {below : List Frame} {meth : Method} {c : Code} {D : va_G} {cy : zY} {b n0 : Nat} {P : zPo} (la : Launch) (X : zX p la e (rm_X6_odds) s m args below meth c 11 D cy b n0 cX6_odds wsX6_odds RX6) (hr : meth.sig.returnType = (some .int)) (h_X6_in : zMet la yX6_in wsX6_in rm_X6_in 0 0 sp_X6_in) (h_X6_isAboard : zMet la yX6_isAboard wsX6_isAboard rm_X6_isAboard 0 0 sp_X6_isAboard) (h_X6_isHere : zMet la yX6_isHere wsX6_isHere rm_X6_isHere 0 0 sp_X6_isHere) : zS p la e (rm_X6_odds) s m args below meth c (MQ below (zQ D b (n0 + 0) P) args s 0 0 (fun q => b ≤ q)) 11 D b n0 205 (B_X6_odds_205 b n0 cy P (zAt p la e (rm_X6_odds) s m args below meth c (MQ below (zQ D b (n0 + 0) P) args s 0 0 (fun q => b ≤ q)) 11 D b n0)) := by
  unfold B_X6_odds_205
  exact (s_iret X dX6_odds_205 hr)
set_option maxRecDepth 100000 in
set_option maxHeartbeats 4000000 in
theorem S_X6_odds_164 {p : Program} {e : Env} {s : State} {m : MethodId} {args : Array Value} {below : List Frame} {meth : Method} {c : Code} {D : va_G} {cy : zY} {b n0 : Nat} {P : zPo} (la : Launch) (X : zX p la e (rm_X6_odds) s m args below meth c 11 D cy b n0 cX6_odds wsX6_odds RX6) (hr : meth.sig.returnType = (some .int)) (h_X6_in : zMet la yX6_in wsX6_in rm_X6_in 0 0 sp_X6_in) (h_X6_isAboard : zMet la yX6_isAboard wsX6_isAboard rm_X6_isAboard 0 0 sp_X6_isAboard) (h_X6_isHere : zMet la yX6_isHere wsX6_isHere rm_X6_isHere 0 0 sp_X6_isHere) : zS p la e (rm_X6_odds) s m args below meth c (MQ below (zQ D b (n0 + 0) P) args s 0 0 (fun q => b ≤ q)) 11 D b n0 164 (B_X6_odds_164 b n0 cy P (zAt p la e (rm_X6_odds) s m args below meth c (MQ below (zQ D b (n0 + 0) P) args s 0 0 (fun q => b ≤ q)) 11 D b n0)) := by
  unfold B_X6_odds_164
  exact (s_iload X dX6_odds_164 (s_if_eq X dX6_odds_166 (by decide) (s_iload X dX6_odds_187 (s_if_ne X dX6_odds_189 (by decide) (s_iload X dX6_odds_200 (s_iload X dX6_odds_202 (s_idiv X dX6_odds_204 (S_X6_odds_205 la X hr h_X6_in h_X6_isAboard h_X6_isHere)))) (s_iload X dX6_odds_192 (s_iload X dX6_odds_194 (s_idiv X dX6_odds_196 (s_goto X dX6_odds_197 (by decide) (S_X6_odds_205 la X hr h_X6_in h_X6_isAboard h_X6_isHere))))))) (s_iload X dX6_odds_169 (s_iload X dX6_odds_171 (s_irem X dX6_odds_173 (s_istore X dX6_odds_174 (by decide) (s_iload X dX6_odds_176 (s_istore X dX6_odds_178 (by decide) (s_iload X dX6_odds_180 (s_istore X dX6_odds_182 (by decide) (s_goto X dX6_odds_184 (by decide) (s_cut (by decide) zS_at))))))))))))
set_option maxRecDepth 100000 in
set_option maxHeartbeats 4000000 in
theorem S_X6_odds_150 {p : Program} {e : Env} {s : State} {m : MethodId} {args : Array Value} {below : List Frame} {meth : Method} {c : Code} {D : va_G} {cy : zY} {b n0 : Nat} {P : zPo} (la : Launch) (X : zX p la e (rm_X6_odds) s m args below meth c 11 D cy b n0 cX6_odds wsX6_odds RX6) (hr : meth.sig.returnType = (some .int)) (h_X6_in : zMet la yX6_in wsX6_in rm_X6_in 0 0 sp_X6_in) (h_X6_isAboard : zMet la yX6_isAboard wsX6_isAboard rm_X6_isAboard 0 0 sp_X6_isAboard) (h_X6_isHere : zMet la yX6_isHere wsX6_isHere rm_X6_isHere 0 0 sp_X6_isHere) : zS p la e (rm_X6_odds) s m args below meth c (MQ below (zQ D b (n0 + 0) P) args s 0 0 (fun q => b ≤ q)) 11 D b n0 150 (B_X6_odds_150 b n0 cy P (zAt p la e (rm_X6_odds) s m args below meth c (MQ below (zQ D b (n0 + 0) P) args s 0 0 (fun q => b ≤ q)) 11 D b n0)) := by
  unfold B_X6_odds_150
  exact (s_iinc X dX6_odds_150 (by decide) (by decide) (s_goto X dX6_odds_153 (by decide) (s_cut (by decide) zS_at)))
set_option maxRecDepth 100000 in
set_option maxHeartbeats 4000000 in
theorem S_X6_odds_81 {p : Program} {e : Env} {s : State} {m : MethodId} {args : Array Value} {below : List Frame} {meth : Method} {c : Code} {D : va_G} {cy : zY} {b n0 : Nat} {P : zPo} (la : Launch) (X : zX p la e (rm_X6_odds) s m args below meth c 11 D cy b n0 cX6_odds wsX6_odds RX6) (hr : meth.sig.returnType = (some .int)) (h_X6_in : zMet la yX6_in wsX6_in rm_X6_in 0 0 sp_X6_in) (h_X6_isAboard : zMet la yX6_isAboard wsX6_isAboard rm_X6_isAboard 0 0 sp_X6_isAboard) (h_X6_isHere : zMet la yX6_isHere wsX6_isHere rm_X6_isHere 0 0 sp_X6_isHere) : zS p la e (rm_X6_odds) s m args below meth c (MQ below (zQ D b (n0 + 0) P) args s 0 0 (fun q => b ≤ q)) 11 D b n0 81 (B_X6_odds_81 b n0 cy P (zAt p la e (rm_X6_odds) s m args below meth c (MQ below (zQ D b (n0 + 0) P) args s 0 0 (fun q => b ≤ q)) 11 D b n0)) := by
  unfold B_X6_odds_81
  exact (s_iload X dX6_odds_81 (s_aload_n X dX6_odds_83 rfl (s_get X dX6_odds_84 rfl k_X6_odds_6 (by decide) f_X6_odds_13 (s_iconst X dX6_odds_87 (by decide) (s_iald X dX6_odds_88 (s_icmp_ge X dX6_odds_89 (by decide) (s_iload X dX6_odds_156 (s_istore X dX6_odds_158 (by decide) (s_iload X dX6_odds_160 (s_istore X dX6_odds_162 (by decide) (s_cut (by decide) zS_at))))) (s_iload X dX6_odds_92 (s_iload_n X dX6_odds_94 rfl (s_icmp_eq X dX6_odds_95 (by decide) (S_X6_odds_150 la X hr h_X6_in h_X6_isAboard h_X6_isHere) (s_iload X dX6_odds_98 (s_iload_n X dX6_odds_100 rfl (s_icmp_eq X dX6_odds_101 (by decide) (S_X6_odds_150 la X hr h_X6_in h_X6_isAboard h_X6_isHere) (s_aload_n X dX6_odds_104 rfl (s_aload_n X dX6_odds_105 rfl (s_get X dX6_odds_106 rfl k_X6_odds_6 (by decide) f_X6_odds_29 (s_iload X dX6_odds_109 (s_callV X h_X6_isAboard dX6_odds_111 rfl gX6_odds_X6_isAboard rfl rfl rfl (by decide +kernel) ⟨by decide, by decide⟩ (s_if_eq X dX6_odds_114 (by decide) (S_X6_odds_150 la X hr h_X6_in h_X6_isAboard h_X6_isHere) (s_aload_n X dX6_odds_117 rfl (s_get X dX6_odds_118 rfl k_X6_odds_6 (by decide) f_X6_odds_29 (s_bipush X dX6_odds_121 (by decide) (s_bipush X dX6_odds_123 (by decide) (s_iload X dX6_odds_125 (s_imul X dX6_odds_127 (s_iadd X dX6_odds_128 (s_iload_n X dX6_odds_129 rfl (s_iadd X dX6_odds_130 (s_iald X dX6_odds_131 (s_iload X dX6_odds_132 (s_icmp_le X dX6_odds_134 (by decide) (S_X6_odds_150 la X hr h_X6_in h_X6_isAboard h_X6_isHere) (s_iload X dX6_odds_137 (s_iload_n X dX6_odds_139 rfl (s_imul X dX6_odds_140 (s_istore X dX6_odds_141 (by decide) (s_iload X dX6_odds_143 (s_bipush X dX6_odds_145 (by decide) (s_imul X dX6_odds_147 (s_istore X dX6_odds_148 (by decide) (S_X6_odds_150 la X hr h_X6_in h_X6_isAboard h_X6_isHere)))))))))))))))))))))))))))))))))))))))
set_option maxRecDepth 100000 in
set_option maxHeartbeats 4000000 in
theorem S_X6_odds_72 {p : Program} {e : Env} {s : State} {m : MethodId} {args : Array Value} {below : List Frame} {meth : Method} {c : Code} {D : va_G} {cy : zY} {b n0 : Nat} {P : zPo} (la : Launch) (X : zX p la e (rm_X6_odds) s m args below meth c 11 D cy b n0 cX6_odds wsX6_odds RX6) (hr : meth.sig.returnType = (some .int)) (h_X6_in : zMet la yX6_in wsX6_in rm_X6_in 0 0 sp_X6_in) (h_X6_isAboard : zMet la yX6_isAboard wsX6_isAboard rm_X6_isAboard 0 0 sp_X6_isAboard) (h_X6_isHere : zMet la yX6_isHere wsX6_isHere rm_X6_isHere 0 0 sp_X6_isHere) : zS p la e (rm_X6_odds) s m args below meth c (MQ below (zQ D b (n0 + 0) P) args s 0 0 (fun q => b ≤ q)) 11 D b n0 72 (B_X6_odds_72 b n0 cy P (zAt p la e (rm_X6_odds) s m args below meth c (MQ below (zQ D b (n0 + 0) P) args s 0 0 (fun q => b ≤ q)) 11 D b n0)) := by
  unfold B_X6_odds_72
  exact (s_istore X dX6_odds_72 (by decide) (s_bipush X dX6_odds_74 (by decide) (s_istore X dX6_odds_76 (by decide) (s_iconst X dX6_odds_78 (by decide) (s_istore X dX6_odds_79 (by decide) (s_cut (by decide) zS_at))))))
set_option maxRecDepth 100000 in
set_option maxHeartbeats 4000000 in
theorem S_X6_odds_41 {p : Program} {e : Env} {s : State} {m : MethodId} {args : Array Value} {below : List Frame} {meth : Method} {c : Code} {D : va_G} {cy : zY} {b n0 : Nat} {P : zPo} (la : Launch) (X : zX p la e (rm_X6_odds) s m args below meth c 11 D cy b n0 cX6_odds wsX6_odds RX6) (hr : meth.sig.returnType = (some .int)) (h_X6_in : zMet la yX6_in wsX6_in rm_X6_in 0 0 sp_X6_in) (h_X6_isAboard : zMet la yX6_isAboard wsX6_isAboard rm_X6_isAboard 0 0 sp_X6_isAboard) (h_X6_isHere : zMet la yX6_isHere wsX6_isHere rm_X6_isHere 0 0 sp_X6_isHere) : zS p la e (rm_X6_odds) s m args below meth c (MQ below (zQ D b (n0 + 0) P) args s 0 0 (fun q => b ≤ q)) 11 D b n0 41 (B_X6_odds_41 b n0 cy P (zAt p la e (rm_X6_odds) s m args below meth c (MQ below (zQ D b (n0 + 0) P) args s 0 0 (fun q => b ≤ q)) 11 D b n0)) := by
  unfold B_X6_odds_41
  exact (s_iconst X dX6_odds_41 (by decide) (s_iret X dX6_odds_42 hr))
set_option maxRecDepth 100000 in
set_option maxHeartbeats 4000000 in
theorem S_X6_odds_0 {p : Program} {e : Env} {s : State} {m : MethodId} {args : Array Value} {below : List Frame} {meth : Method} {c : Code} {D : va_G} {cy : zY} {b n0 : Nat} {P : zPo} (la : Launch) (X : zX p la e (rm_X6_odds) s m args below meth c 11 D cy b n0 cX6_odds wsX6_odds RX6) (hr : meth.sig.returnType = (some .int)) (h_X6_in : zMet la yX6_in wsX6_in rm_X6_in 0 0 sp_X6_in) (h_X6_isAboard : zMet la yX6_isAboard wsX6_isAboard rm_X6_isAboard 0 0 sp_X6_isAboard) (h_X6_isHere : zMet la yX6_isHere wsX6_isHere rm_X6_isHere 0 0 sp_X6_isHere) : zS p la e (rm_X6_odds) s m args below meth c (MQ below (zQ D b (n0 + 0) P) args s 0 0 (fun q => b ≤ q)) 11 D b n0 0 (B_X6_odds_0 b n0 cy P (zAt p la e (rm_X6_odds) s m args below meth c (MQ below (zQ D b (n0 + 0) P) args s 0 0 (fun q => b ≤ q)) 11 D b n0)) := by
  unfold B_X6_odds_0
  exact (s_aload_n X dX6_odds_0 rfl (s_iload_n X dX6_odds_1 rfl (s_callV X h_X6_isHere dX6_odds_2 rfl gX6_odds_X6_isHere rfl rfl rfl (by decide +kernel) ⟨by decide, by decide⟩ (s_if_eq X dX6_odds_5 (by decide) (S_X6_odds_41 la X hr h_X6_in h_X6_isAboard h_X6_isHere) (s_aload_n X dX6_odds_8 rfl (s_iload_n X dX6_odds_9 rfl (s_callV X h_X6_isHere dX6_odds_10 rfl gX6_odds_X6_isHere rfl rfl rfl (by decide +kernel) ⟨by decide, by decide⟩ (s_if_eq X dX6_odds_13 (by decide) (S_X6_odds_41 la X hr h_X6_in h_X6_isAboard h_X6_isHere) (s_iload_n X dX6_odds_16 rfl (s_iload_n X dX6_odds_17 rfl (s_icmp_eq X dX6_odds_18 (by decide) (S_X6_odds_41 la X hr h_X6_in h_X6_isAboard h_X6_isHere) (s_iload_n X dX6_odds_21 rfl (s_iconst X dX6_odds_22 (by decide) (s_bipush X dX6_odds_23 (by decide) (s_callS X h_X6_in dX6_odds_25 gX6_odds_X6_in rfl rfl rfl (by decide +kernel) ⟨by decide, by decide⟩ (s_if_eq X dX6_odds_28 (by decide) (S_X6_odds_41 la X hr h_X6_in h_X6_isAboard h_X6_isHere) (s_iload X dX6_odds_31 (s_iconst X dX6_odds_33 (by decide) (s_iconst X dX6_odds_34 (by decide) (s_callS X h_X6_in dX6_odds_35 gX6_odds_X6_in rfl rfl rfl (by decide +kernel) ⟨by decide, by decide⟩ (s_if_ne X dX6_odds_38 (by decide) (s_aload_n X dX6_odds_43 rfl (s_get X dX6_odds_44 rfl k_X6_odds_6 (by decide) f_X6_odds_29 (s_bipush X dX6_odds_47 (by decide) (s_bipush X dX6_odds_49 (by decide) (s_iload_n X dX6_odds_51 rfl (s_imul X dX6_odds_52 (s_iadd X dX6_odds_53 (s_iload_n X dX6_odds_54 rfl (s_iadd X dX6_odds_55 (s_iald X dX6_odds_56 (s_istore X dX6_odds_57 (by decide) (s_iload X dX6_odds_59 (s_if_le X dX6_odds_61 (by decide) (s_iconst X dX6_odds_71 (by decide) (S_X6_odds_72 la X hr h_X6_in h_X6_isAboard h_X6_isHere)) (s_bipush X dX6_odds_64 (by decide) (s_iload_n X dX6_odds_66 rfl (s_isub X dX6_odds_67 (s_goto X dX6_odds_68 (by decide) (S_X6_odds_72 la X hr h_X6_in h_X6_isAboard h_X6_isHere)))))))))))))))))) (S_X6_odds_41 la X hr h_X6_in h_X6_isAboard h_X6_isHere))))))))))))))))))))))
theorem w_X6_odds (la : Launch) (h_X6_in : zMet la yX6_in wsX6_in rm_X6_in 0 0 sp_X6_in) (h_X6_isAboard : zMet la yX6_isAboard wsX6_isAboard rm_X6_isAboard 0 0 sp_X6_isAboard) (h_X6_isHere : zMet la yX6_isHere wsX6_isHere rm_X6_isHere 0 0 sp_X6_isHere) (sp : zSp) (vc : zVC_X6_odds sp) : zMet la yX6_odds wsX6_odds (rm_X6_odds) 0 0 sp :=
  z_of (cc := cX6_odds) (maxL := 11) (ret := (some .int)) (by decide +kernel) rfl (fun p e s m args below meth c D cy b n as E P hsp X hr hin => by
    obtain ⟨h1, h2⟩ := vc b cy n as E P (zAt p la e (rm_X6_odds) s m args below meth c (MQ below (zQ D b (n + 0) P) args s 0 0 (fun q => b ≤ q)) 11 D b n) (fun _ _ _ _ _ q => S_X6_odds_81 la X hr h_X6_in h_X6_isAboard h_X6_isHere _ _ _ _ _ q) (fun _ _ _ _ _ q => S_X6_odds_164 la X hr h_X6_in h_X6_isAboard h_X6_isHere _ _ _ _ _ q) hsp
    exact ⟨h1, S_X6_odds_0 la X hr h_X6_in h_X6_isAboard h_X6_isHere _ _ _ _ _ h2⟩)

theorem m_X6_odds (la : Launch) : zMet la yX6_odds wsX6_odds rm_X6_odds 0 0 sp_X6_odds := w_X6_odds la (m_X6_in la) (m_X6_isAboard la) (m_X6_isHere la) _ vc_X6_odds

