theorem e_bmul {K : zC} {l : zL} {r : List Value} {k u x y : Nat} {E : zE} : z_bin (fun x y => x * y) K l (.int (nI y) :: .int (nI x) :: r) k u E = K l (.int (nI (x * y)) :: r) k u E := by
  rw [e_bin, ← pk_mul]
theorem e_badd {K : zC} {l : zL} {r : List Value} {k u x y : Nat} {E : zE} : z_bin (fun x y => x + y) K l (.int (nI y) :: .int (nI x) :: r) k u E = K l (.int (nI (x + y)) :: r) k u E := by
  rw [e_bin, ← nI_add]
theorem e_bsub {K : zC} {l : zL} {r : List Value} {k u x y : Nat} {E : zE} (h : y ≤ x) : z_bin (fun x y => x - y) K l (.int (nI y) :: .int (nI x) :: r) k u E = K l (.int (nI (x - y)) :: r) k u E := by
  rw [e_bin, ← pk_sub h]
theorem e_baddl {K : zC} {l : zL} {r : List Value} {k u y : Nat} {E : zE} : z_bin (fun x y => x + y) K l (.int (nI y) :: .int 16 :: r) k u E = K l (.int (nI (16 + y)) :: r) k u E := e_badd (x := 16)
theorem e_bmull {K : zC} {l : zL} {r : List Value} {k u y : Nat} {E : zE} : z_bin (fun x y => x * y) K l (.int (nI y) :: .int 6 :: r) k u E = K l (.int (nI (6 * y)) :: r) k u E := e_bmul (x := 6)
theorem e_bshr {K : zC} {l : zL} {r : List Value} {k u : Nat} {x y : Int32} {E : zE} : z_bin (fun x y => x >>> (y &&& 31)) K l (.int y :: .int x :: r) k u E = K l (.int (x >>> (y &&& 31)) :: r) k u E := rfl
theorem e_band {K : zC} {l : zL} {r : List Value} {k u : Nat} {x y : Int32} {E : zE} : z_bin (fun x y => x &&& y) K l (.int y :: .int x :: r) k u E = K l (.int (x &&& y) :: r) k u E := rfl
theorem e_ift {c1 : Int32 → Prop} {Kt Kf : zC} {l : zL} {r : List Value} {k u : Nat} {E : zE} {x : Int32} (h : c1 x) : z_if c1 Kt Kf l (.int x :: r) k u E = Kt l r k u E := by
  rw [e_if]; exact propext ⟨fun a => a.1 h, fun a => ⟨fun _ => a, fun c => absurd h c⟩⟩
theorem e_iff {c1 : Int32 → Prop} {Kt Kf : zC} {l : zL} {r : List Value} {k u : Nat} {E : zE} {x : Int32} (h : ¬ c1 x) : z_if c1 Kt Kf l (.int x :: r) k u E = Kf l r k u E := by
  rw [e_if]; exact propext ⟨fun a => a.2 h, fun a => ⟨fun c => absurd c h, fun _ => a⟩⟩
theorem e_icmpt {c2 : Int32 → Int32 → Prop} {Kt Kf : zC} {l : zL} {r : List Value} {k u : Nat} {E : zE} {x y : Int32} (h : c2 x y) : z_icmp c2 Kt Kf l (.int y :: .int x :: r) k u E = Kt l r k u E := by
  rw [e_icmp]; exact propext ⟨fun a => a.1 h, fun a => ⟨fun _ => a, fun c => absurd h c⟩⟩
theorem e_icmpf {c2 : Int32 → Int32 → Prop} {Kt Kf : zC} {l : zL} {r : List Value} {k u : Nat} {E : zE} {x y : Int32} (h : ¬ c2 x y) : z_icmp c2 Kt Kf l (.int y :: .int x :: r) k u E = Kf l r k u E := by
  rw [e_icmp]; exact propext ⟨fun a => a.2 h, fun a => ⟨fun c => absurd c h, fun _ => a⟩⟩
def sp_X6_byRing : zSp := fun b cy as N E P => ∃ (n : Nat) (lo la c : Nat → Nat) (i r M : Nat), as = [.ref (b + 159), .ref (b + i), .int (nI r), .int (nI M)] ∧ zMR b cy N E n lo la ∧ zAr cy E i n c ∧ zMok n c ∧ i < N ∧ r < 6 ∧ M < 64 ∧ P (some (.int (zrv (zring n c M r)))) E
abbrev rm_X6_byRing : Room := { frames := 1, cells := 0, slots := 0, locals := 40 }
def B_X6_byRing_96 (b n0 : Nat) (cy : zY) (P : zPo) (A : Nat → zC) : zC :=
  z_istore 4 (z_iinc 5 (1) (z_cut [0, 1, 2, 3, 4, 5] (A 7)))
def B_X6_byRing_94 (b n0 : Nat) (cy : zY) (P : zPo) (A : Nat → zC) : zC :=
  z_iload 4 (B_X6_byRing_96 b n0 cy P A)
def B_X6_byRing_89 (b n0 : Nat) (cy : zY) (P : zPo) (A : Nat → zC) : zC :=
  z_iload 5 (B_X6_byRing_96 b n0 cy P A)
def B_X6_byRing_58 (b n0 : Nat) (cy : zY) (P : zPo) (A : Nat → zC) : zC :=
  z_istore 7 (z_iload 7 (z_if (fun x => x = 0) (B_X6_byRing_94 b n0 cy P A) (z_iload 4 (z_const (-9) (z_icmp (fun x y => x = y) (B_X6_byRing_89 b n0 cy P A) (z_iload 6 (z_aload 1 (z_const (16) (z_const (6) (z_iload 4 (z_bin (fun x y => x * y) (z_bin (fun x y => x + y) (z_iload 2 (z_bin (fun x y => x + y) (z_ald b n0 (cy 1) (z_icmp (fun x y => x ≤ y) (B_X6_byRing_94 b n0 cy P A) (B_X6_byRing_89 b n0 cy P A)))))))))))))))))
def B_X6_byRing_57 (b n0 : Nat) (cy : zY) (P : zPo) (A : Nat → zC) : zC :=
  z_const (0) (B_X6_byRing_58 b n0 cy P A)
def B_X6_byRing_7 (b n0 : Nat) (cy : zY) (P : zPo) (A : Nat → zC) : zC :=
  z_iload 5 (z_aload 0 (z_get b n0 6 3 (z_const (0) (z_ald b n0 (cy 1) (z_icmp (fun x y => y ≤ x) (z_iload 4 (z_iret 0 0 P)) (z_aload 1 (z_const (16) (z_const (6) (z_iload 5 (z_bin (fun x y => x * y) (z_bin (fun x y => x + y) (z_iload 2 (z_bin (fun x y => x + y) (z_ald b n0 (cy 1) (z_istore 6 (z_iload 5 (z_iload 2 (z_icmp (fun x y => x = y) (B_X6_byRing_57 b n0 cy P A) (z_iload 3 (z_iload 5 (z_bin (fun x y => x >>> (y &&& 31)) (z_const (1) (z_bin (fun x y => x &&& y) (z_const (1) (z_icmp (fun x y => x = y) (z_iload 6 (z_if (fun x => x ≤ 0) (B_X6_byRing_57 b n0 cy P A) (z_const (1) (B_X6_byRing_58 b n0 cy P A)))) (B_X6_byRing_57 b n0 cy P A))))))))))))))))))))))))))
def B_X6_byRing_0 (b n0 : Nat) (cy : zY) (P : zPo) (A : Nat → zC) : zC :=
  z_const (-9) (z_istore 4 (z_const (0) (z_istore 5 (z_cut [0, 1, 2, 3, 4, 5] (A 7)))))
def zVC_X6_byRing (sp : zSp) : Prop := ∀ (b : Nat) (cy : zY) (n : Nat) (as : List Value) (E : zE) (P : zPo) (A : Nat → zC), (∀ l st k u E, B_X6_byRing_7 b n cy P A l st k u E → A 7 l st k u E) → sp b cy as n E P → zgood as 8 ∧ B_X6_byRing_0 b n cy P A (lv_args 0 as) [] 0 0 E

theorem zix6 {q r : Nat} : nI 16 + nI 6 * nI q + nI r = nI (16 + 6 * q + r) := by rw [pk_mul, nI_add, nI_add]
set_option maxRecDepth 100000 in
set_option maxHeartbeats 4000000 in
theorem vc_X6_byRing : zVC_X6_byRing sp_X6_byRing := by
  intro b cy N as E P A hA hsp
  obtain ⟨n, lo, la, c, i, r, M, rfl, hR, ⟨L, g, hL, hL2, hE, hc⟩, hok, hi, hr, hM, hP⟩ := hsp
  refine ⟨⟨Nat.le_of_ble_eq_true rfl, zg1 rfl (zg1 rfl (zg1 rfl (zg1 rfl (zg0))))⟩, ?_⟩
  obtain ⟨⟨tr, ty, lt, qq, st, so, va, fa, se, e0⟩, ⟨rf, e1, e1'⟩, _, _, hn, hlo, hN⟩ := id hR
  have N0 : 159 < N := by omega
  have N1 : 161 < N := by omega
  have hin : vp_in 0 2 := (vp_in_nI (show 0 < 2 by omega) (by omega) : vp_in (nI 0) 2)
  have hcl : (0 : Int32).toNatClampNeg = 0 := by decide
  have k16 : (16 : Int32) = nI 16 := rfl
  have k6 : (6 : Int32) = nI 6 := rfl
  obtain ⟨_, _, _, c16⟩ := zCm0 hc
  have l36 := hok.2.2.2.2.2.1
  have l2 := hok.2.2.2.1
  have jin : ∀ q, q < 6 → vp_in (nI (16 + 6 * q + r)) L := fun q hq => vp_in_nI (by omega) (by omega)
  have jcl : ∀ q, q < 6 → (nI (16 + 6 * q + r)).toNatClampNeg = 16 + 6 * q + r := fun q hq => nI_clamp (by omega)
  have jv : ∀ q, q < 6 → g (16 + 6 * q + r) = nI (c (16 + 6 * q + r)) := fun q hq => by have := c16 (6 * q + r) (by omega); rwa [← Nat.add_assoc] at this
  have jb : ∀ q, q < 6 → c (16 + 6 * q + r) < 2 ^ 31 := fun q hq => by have := l36 (6 * q + r) (by omega); rw [← Nat.add_assoc] at this; omega
  unfold zring at hP
  generalize hok1 : (fun q => decide (q ≠ r) && M.testBit q && decide (0 < c (16 + 6 * q + r))) = ok at hP
  generalize hbt1 : (fun q f => decide (c (16 + 6 * f + r) < c (16 + 6 * q + r))) = bt at hP
  have loop : ∀ (d k : Nat) (hd : d + k = n), A 7 [(0, .ref (b + 159)), (1, .ref (b + i)), (2, .int (nI r)), (3, .int (nI M)), (4, .int (zrv (zfo ok bt k))), (5, .int (nI k))] [] 0 0 E := by
    intro d
    induction d with
    | zero =>
      intro k hd
      obtain rfl : k = n := by omega
      apply hA
      have cle : nI k ≤ nI k := nI_le (Nat.le_refl _) (by omega)
      simp -implicitDefEqProofs only [B_X6_byRing_7, e_cut, e_iload, e_aload, e_istore, e_astore, e_iinc, e_const, e_lconst, e_bmul, e_badd, e_bsub, e_baddl, e_bmull, e_bshr, e_band, e_bin0, e_un, e_ladd, e_dupi, e_dupr, e_dup2, e_pop, e_sw, e_sw0, e_sw1, e_get, e_put, e_ald, e_ast, e_aald, e_aast, e_copy, e_new, e_newa, e_anewa, e_min, e_abs, e_oinit, e_callI, e_callV, e_callS, e_iret, e_zret, e_lret, e_vret, e_tl1, e_tl0, e_tl2, e_tl3, z10, Bool.false_eq_true, e_argi, e_argr, e_argn, zld_c, zst_n, zst_c, zpick_n, zpick_c, List.drop_succ_cons, List.drop_zero, List.take_succ_cons, List.take_zero, List.length_cons, List.length_nil, List.reverse_cons, List.reverse_nil, List.nil_append, List.cons_append, List.append_nil, List.getElem?_cons_zero, List.getElem?_cons_succ, List.set_cons_zero, List.set_cons_succ, Nat.add_sub_cancel_left, Nat.sub_self, Nat.add_zero, Nat.zero_add, Nat.le_add_right, Nat.le_refl, true_and, and_true, va_rf, zok, Nat.add_left_cancel_iff, Nat.add_eq_left, Nat.left_eq_add, eq_self, if_true, if_false, not_false_eq_true, not_true_eq_false, false_implies, true_implies, Nat.reduceEqDiff, Nat.reduceAdd, Nat.reduceLT, Nat.reduceLeDiff, reduceIte, e_icmpt (c2 := fun x y => y ≤ x) cle, zM0, e0, N0, N1, e1, e1', hin, hcl]
      exact hP
    | succ d ih =>
      intro k hd
      have hk : k < n := by omega
      have hk6 : k < 6 := by omega
      apply hA
      have cle : ¬ nI n ≤ nI k := nI_ge hk (by omega)
      have kv0 : (nI (c (16 + 6 * k + r)) ≤ 0) = (c (16 + 6 * k + r) ≤ 0) := propext (nI_leI (b := 0) (jb k hk6) (by omega))
      have tb : ((if M.testBit k = true then (1 : Int32) else 0) = 1) = (M.testBit k = true) := by cases M.testBit k <;> decide
      have b0 : ok k = false → B_X6_byRing_58 b N cy P A [(0, .ref (b + 159)), (1, .ref (b + i)), (2, .int (nI r)), (3, .int (nI M)), (4, .int (zrv (zfo ok bt k))), (5, .int (nI k)), (6, .int (nI (c (16 + 6 * k + r))))] [.int 0] 0 0 E := fun h => by
        have h9 := ih (k + 1) (by omega)
        rw [zfo_no h] at h9
        simp -implicitDefEqProofs only [B_X6_byRing_58, B_X6_byRing_94, B_X6_byRing_96, e_cut, e_iload, e_aload, e_istore, e_astore, e_iinc, e_const, e_lconst, e_bmul, e_badd, e_bsub, e_baddl, e_bmull, e_bshr, e_band, e_bin0, e_un, e_ladd, e_dupi, e_dupr, e_dup2, e_pop, e_sw, e_sw0, e_sw1, e_get, e_put, e_ald, e_ast, e_aald, e_aast, e_copy, e_new, e_newa, e_anewa, e_min, e_abs, e_oinit, e_callI, e_callV, e_callS, e_iret, e_zret, e_lret, e_vret, e_tl1, e_tl0, e_tl2, e_tl3, z10, Bool.false_eq_true, e_argi, e_argr, e_argn, zld_c, zst_n, zst_c, zpick_n, zpick_c, List.drop_succ_cons, List.drop_zero, List.take_succ_cons, List.take_zero, List.length_cons, List.length_nil, List.reverse_cons, List.reverse_nil, List.nil_append, List.cons_append, List.append_nil, List.getElem?_cons_zero, List.getElem?_cons_succ, List.set_cons_zero, List.set_cons_succ, Nat.add_sub_cancel_left, Nat.sub_self, Nat.add_zero, Nat.zero_add, Nat.le_add_right, Nat.le_refl, true_and, and_true, va_rf, zok, Nat.add_left_cancel_iff, Nat.add_eq_left, Nat.left_eq_add, eq_self, if_true, if_false, not_false_eq_true, not_true_eq_false, false_implies, true_implies, Nat.reduceEqDiff, Nat.reduceAdd, Nat.reduceLT, Nat.reduceLeDiff, reduceIte, e_ift (c1 := fun x => x = 0) (x := 0) rfl, nI_1]
        exact h9
      have b1 : ok k = true → B_X6_byRing_58 b N cy P A [(0, .ref (b + 159)), (1, .ref (b + i)), (2, .int (nI r)), (3, .int (nI M)), (4, .int (zrv (zfo ok bt k))), (5, .int (nI k)), (6, .int (nI (c (16 + 6 * k + r))))] [.int 1] 0 0 E := fun h => by
        have h9 := ih (k + 1) (by omega)
        have h10 : ¬ (1 : Int32) = 0 := by decide
        cases hz : zfo ok bt k with
        | none =>
          rw [zfo_n h hz] at h9
          simp -implicitDefEqProofs only [zrv, B_X6_byRing_58, B_X6_byRing_89, B_X6_byRing_96, e_cut, e_iload, e_aload, e_istore, e_astore, e_iinc, e_const, e_lconst, e_bmul, e_badd, e_bsub, e_baddl, e_bmull, e_bshr, e_band, e_bin0, e_un, e_ladd, e_dupi, e_dupr, e_dup2, e_pop, e_sw, e_sw0, e_sw1, e_get, e_put, e_ald, e_ast, e_aald, e_aast, e_copy, e_new, e_newa, e_anewa, e_min, e_abs, e_oinit, e_callI, e_callV, e_callS, e_iret, e_zret, e_lret, e_vret, e_tl1, e_tl0, e_tl2, e_tl3, z10, Bool.false_eq_true, e_argi, e_argr, e_argn, zld_c, zst_n, zst_c, zpick_n, zpick_c, List.drop_succ_cons, List.drop_zero, List.take_succ_cons, List.take_zero, List.length_cons, List.length_nil, List.reverse_cons, List.reverse_nil, List.nil_append, List.cons_append, List.append_nil, List.getElem?_cons_zero, List.getElem?_cons_succ, List.set_cons_zero, List.set_cons_succ, Nat.add_sub_cancel_left, Nat.sub_self, Nat.add_zero, Nat.zero_add, Nat.le_add_right, Nat.le_refl, true_and, and_true, va_rf, zok, Nat.add_left_cancel_iff, Nat.add_eq_left, Nat.left_eq_add, eq_self, if_true, if_false, not_false_eq_true, not_true_eq_false, false_implies, true_implies, Nat.reduceEqDiff, Nat.reduceAdd, Nat.reduceLT, Nat.reduceLeDiff, reduceIte, e_iff (c1 := fun x => x = 0) (x := 1) h10, e_icmpt (c2 := fun x y => x = y) (x := -9) (y := -9) rfl, nI_1]
          exact h9
        | some f0 =>
          have hf0 := (zfo_lt hz).1
          have hf6 : f0 < 6 := by omega
          simp -implicitDefEqProofs only [zrv, B_X6_byRing_58, B_X6_byRing_89, B_X6_byRing_94, B_X6_byRing_96, e_cut, e_iload, e_aload, e_istore, e_astore, e_iinc, e_const, e_lconst, e_bmul, e_badd, e_bsub, e_baddl, e_bmull, e_bshr, e_band, e_bin0, e_un, e_ladd, e_dupi, e_dupr, e_dup2, e_pop, e_sw, e_sw0, e_sw1, e_get, e_put, e_ald, e_ast, e_aald, e_aast, e_copy, e_new, e_newa, e_anewa, e_min, e_abs, e_oinit, e_callI, e_callV, e_callS, e_iret, e_zret, e_lret, e_vret, e_tl1, e_tl0, e_tl2, e_tl3, z10, Bool.false_eq_true, e_argi, e_argr, e_argn, zld_c, zst_n, zst_c, zpick_n, zpick_c, List.drop_succ_cons, List.drop_zero, List.take_succ_cons, List.take_zero, List.length_cons, List.length_nil, List.reverse_cons, List.reverse_nil, List.nil_append, List.cons_append, List.append_nil, List.getElem?_cons_zero, List.getElem?_cons_succ, List.set_cons_zero, List.set_cons_succ, Nat.add_sub_cancel_left, Nat.sub_self, Nat.add_zero, Nat.zero_add, Nat.le_add_right, Nat.le_refl, true_and, and_true, va_rf, zok, Nat.add_left_cancel_iff, Nat.add_eq_left, Nat.left_eq_add, eq_self, if_true, if_false, not_false_eq_true, not_true_eq_false, false_implies, true_implies, Nat.reduceEqDiff, Nat.reduceAdd, Nat.reduceLT, Nat.reduceLeDiff, reduceIte, e_icmp, e_iff (c1 := fun x => x = 0) (x := 1) h10, zrv_nn hf6, hE, hi, jin f0 hf6, jcl f0 hf6, jv f0 hf6, nI_1, nI_leI (jb k hk6) (jb f0 hf6)]
          refine ⟨fun c4 => ?_, fun c4 => ?_⟩
          · rw [zfo_w hz (by rw [← hbt1]; simp; exact c4), hz] at h9; exact h9
          · rw [zfo_y h hz (by rw [← hbt1]; simp; omega)] at h9; exact h9
      simp -implicitDefEqProofs only [B_X6_byRing_7, B_X6_byRing_57, e_cut, e_iload, e_aload, e_istore, e_astore, e_iinc, e_const, e_lconst, e_bmul, e_badd, e_bsub, e_baddl, e_bmull, e_bshr, e_band, e_bin0, e_un, e_ladd, e_dupi, e_dupr, e_dup2, e_pop, e_if, e_icmp, e_sw, e_sw0, e_sw1, e_get, e_put, e_ald, e_ast, e_aald, e_aast, e_copy, e_new, e_newa, e_anewa, e_min, e_abs, e_oinit, e_callI, e_callV, e_callS, e_iret, e_zret, e_lret, e_vret, e_tl1, e_tl0, e_tl2, e_tl3, z10, Bool.false_eq_true, e_argi, e_argr, e_argn, zld_c, zst_n, zst_c, zpick_n, zpick_c, List.drop_succ_cons, List.drop_zero, List.take_succ_cons, List.take_zero, List.length_cons, List.length_nil, List.reverse_cons, List.reverse_nil, List.nil_append, List.cons_append, List.append_nil, List.getElem?_cons_zero, List.getElem?_cons_succ, List.set_cons_zero, List.set_cons_succ, Nat.add_sub_cancel_left, Nat.sub_self, Nat.add_zero, Nat.zero_add, Nat.le_add_right, Nat.le_refl, true_and, and_true, va_rf, zok, Nat.add_left_cancel_iff, Nat.add_eq_left, Nat.left_eq_add, eq_self, if_true, if_false, not_false_eq_true, not_true_eq_false, false_implies, true_implies, Nat.reduceEqDiff, Nat.reduceAdd, Nat.reduceLT, Nat.reduceLeDiff, reduceIte, zM0, e0, N0, N1, e1, e1', hin, hcl, cle, hE, hi, nI_eq (show k < 2 ^ 31 by omega) (show r < 2 ^ 31 by omega), jin k hk6, jcl k hk6, jv k hk6, zbit hM hk6, kv0, tb]
      exact ⟨fun c1 => b0 (by rw [← hok1]; simp [c1]), fun c1 => ⟨fun c2 => ⟨fun c3 => b0 (by rw [← hok1]; simp; omega), fun c3 => b1 (by rw [← hok1]; simp [c1, c2]; omega)⟩, fun c2 => b0 (by rw [← hok1]; simp [c2])⟩⟩
  simp -implicitDefEqProofs only [B_X6_byRing_0, e_cut, e_iload, e_aload, e_istore, e_astore, e_iinc, e_const, e_lconst, e_bmul, e_badd, e_bsub, e_baddl, e_bmull, e_bshr, e_band, e_bin0, e_un, e_ladd, e_dupi, e_dupr, e_dup2, e_pop, e_if, e_icmp, e_sw, e_sw0, e_sw1, e_get, e_put, e_ald, e_ast, e_aald, e_aast, e_copy, e_new, e_newa, e_anewa, e_min, e_abs, e_oinit, e_callI, e_callV, e_callS, e_iret, e_zret, e_lret, e_vret, e_tl1, e_tl0, e_tl2, e_tl3, z10, Bool.false_eq_true, e_argi, e_argr, e_argn, zld_c, zst_n, zst_c, zpick_n, zpick_c, List.drop_succ_cons, List.drop_zero, List.take_succ_cons, List.take_zero, List.length_cons, List.length_nil, List.reverse_cons, List.reverse_nil, List.nil_append, List.cons_append, List.append_nil, List.getElem?_cons_zero, List.getElem?_cons_succ, List.set_cons_zero, List.set_cons_succ, Nat.add_sub_cancel_left, Nat.sub_self, Nat.add_zero, Nat.zero_add, Nat.le_add_right, Nat.le_refl, true_and, and_true, va_rf, zok, Nat.add_left_cancel_iff, Nat.add_eq_left, Nat.left_eq_add, eq_self, if_true, if_false, not_false_eq_true, not_true_eq_false, false_implies, true_implies, Nat.reduceEqDiff, Nat.reduceAdd, Nat.reduceLT, Nat.reduceLeDiff, reduceIte]
  exact loop n 0 rfl
set_option maxRecDepth 20000 in
theorem f_X6_byRing_13 : Cond.fieldLink RX6 13 (TX6 3).1 (TX6 3).2.1 (TX6 3).2.2.1 ∈ wsX6_byRing := by decide +kernel
set_option maxRecDepth 20000 in
theorem k_X6_byRing_6 : ∀ w ∈ u_ws RX6 TX6 21, w ∈ wsX6_byRing := fun _ h => List.mem_cons_of_mem _ (List.mem_append_right _ h)
set_option maxRecDepth 100000 in
set_option maxHeartbeats 4000000 in
theorem S_X6_byRing_96 {p : Program} {e : Env} {s : State} {m : MethodId} {args : Array Value} {below : List Frame} {meth : Method} {c : Code} {D : va_G} {cy : zY} {b n0 : Nat} {P : zPo} (la : Launch) (X : zX p la e (rm_X6_byRing) s m args below meth c 8 D cy b n0 cX6_byRing wsX6_byRing RX6) (hr : meth.sig.returnType = (some .int)) : zS p la e (rm_X6_byRing) s m args below meth c (MQ below (zQ D b (n0 + 0) P) args s 0 0 (fun q => b ≤ q)) 8 D b n0 96 (B_X6_byRing_96 b n0 cy P (zAt p la e (rm_X6_byRing) s m args below meth c (MQ below (zQ D b (n0 + 0) P) args s 0 0 (fun q => b ≤ q)) 8 D b n0)) := by
  unfold B_X6_byRing_96
  exact (s_istore X dX6_byRing_96 (by decide) (s_iinc X dX6_byRing_98 (by decide) (by decide) (s_goto X dX6_byRing_101 (by decide) (s_cut (by decide) zS_at))))
set_option maxRecDepth 100000 in
set_option maxHeartbeats 4000000 in
theorem S_X6_byRing_94 {p : Program} {e : Env} {s : State} {m : MethodId} {args : Array Value} {below : List Frame} {meth : Method} {c : Code} {D : va_G} {cy : zY} {b n0 : Nat} {P : zPo} (la : Launch) (X : zX p la e (rm_X6_byRing) s m args below meth c 8 D cy b n0 cX6_byRing wsX6_byRing RX6) (hr : meth.sig.returnType = (some .int)) : zS p la e (rm_X6_byRing) s m args below meth c (MQ below (zQ D b (n0 + 0) P) args s 0 0 (fun q => b ≤ q)) 8 D b n0 94 (B_X6_byRing_94 b n0 cy P (zAt p la e (rm_X6_byRing) s m args below meth c (MQ below (zQ D b (n0 + 0) P) args s 0 0 (fun q => b ≤ q)) 8 D b n0)) := by
  unfold B_X6_byRing_94
  exact (s_iload X dX6_byRing_94 (S_X6_byRing_96 la X hr))
set_option maxRecDepth 100000 in
set_option maxHeartbeats 4000000 in
theorem S_X6_byRing_89 {p : Program} {e : Env} {s : State} {m : MethodId} {args : Array Value} {below : List Frame} {meth : Method} {c : Code} {D : va_G} {cy : zY} {b n0 : Nat} {P : zPo} (la : Launch) (X : zX p la e (rm_X6_byRing) s m args below meth c 8 D cy b n0 cX6_byRing wsX6_byRing RX6) (hr : meth.sig.returnType = (some .int)) : zS p la e (rm_X6_byRing) s m args below meth c (MQ below (zQ D b (n0 + 0) P) args s 0 0 (fun q => b ≤ q)) 8 D b n0 89 (B_X6_byRing_89 b n0 cy P (zAt p la e (rm_X6_byRing) s m args below meth c (MQ below (zQ D b (n0 + 0) P) args s 0 0 (fun q => b ≤ q)) 8 D b n0)) := by
  unfold B_X6_byRing_89
  exact (s_iload X dX6_byRing_89 (s_goto X dX6_byRing_91 (by decide) (S_X6_byRing_96 la X hr)))
set_option maxRecDepth 100000 in
set_option maxHeartbeats 4000000 in
theorem S_X6_byRing_58 {p : Program} {e : Env} {s : State} {m : MethodId} {args : Array Value} {below : List Frame} {meth : Method} {c : Code} {D : va_G} {cy : zY} {b n0 : Nat} {P : zPo} (la : Launch) (X : zX p la e (rm_X6_byRing) s m args below meth c 8 D cy b n0 cX6_byRing wsX6_byRing RX6) (hr : meth.sig.returnType = (some .int)) : zS p la e (rm_X6_byRing) s m args below meth c (MQ below (zQ D b (n0 + 0) P) args s 0 0 (fun q => b ≤ q)) 8 D b n0 58 (B_X6_byRing_58 b n0 cy P (zAt p la e (rm_X6_byRing) s m args below meth c (MQ below (zQ D b (n0 + 0) P) args s 0 0 (fun q => b ≤ q)) 8 D b n0)) := by
  unfold B_X6_byRing_58
  exact (s_istore X dX6_byRing_58 (by decide) (s_iload X dX6_byRing_60 (s_if_eq X dX6_byRing_62 (by decide) (S_X6_byRing_94 la X hr) (s_iload X dX6_byRing_65 (s_bipush X dX6_byRing_67 (by decide) (s_icmp_eq X dX6_byRing_69 (by decide) (S_X6_byRing_89 la X hr) (s_iload X dX6_byRing_72 (s_aload_n X dX6_byRing_74 rfl (s_bipush X dX6_byRing_75 (by decide) (s_bipush X dX6_byRing_77 (by decide) (s_iload X dX6_byRing_79 (s_imul X dX6_byRing_81 (s_iadd X dX6_byRing_82 (s_iload_n X dX6_byRing_83 rfl (s_iadd X dX6_byRing_84 (s_iald X dX6_byRing_85 (s_icmp_le X dX6_byRing_86 (by decide) (S_X6_byRing_94 la X hr) (S_X6_byRing_89 la X hr))))))))))))))))))
set_option maxRecDepth 100000 in
set_option maxHeartbeats 4000000 in
theorem S_X6_byRing_57 {p : Program} {e : Env} {s : State} {m : MethodId} {args : Array Value} {below : List Frame} {meth : Method} {c : Code} {D : va_G} {cy : zY} {b n0 : Nat} {P : zPo} (la : Launch) (X : zX p la e (rm_X6_byRing) s m args below meth c 8 D cy b n0 cX6_byRing wsX6_byRing RX6) (hr : meth.sig.returnType = (some .int)) : zS p la e (rm_X6_byRing) s m args below meth c (MQ below (zQ D b (n0 + 0) P) args s 0 0 (fun q => b ≤ q)) 8 D b n0 57 (B_X6_byRing_57 b n0 cy P (zAt p la e (rm_X6_byRing) s m args below meth c (MQ below (zQ D b (n0 + 0) P) args s 0 0 (fun q => b ≤ q)) 8 D b n0)) := by
  unfold B_X6_byRing_57
  exact (s_iconst X dX6_byRing_57 (by decide) (S_X6_byRing_58 la X hr))
set_option maxRecDepth 100000 in
set_option maxHeartbeats 4000000 in
theorem S_X6_byRing_7 {p : Program} {e : Env} {s : State} {m : MethodId} {args : Array Value} {below : List Frame} {meth : Method} {c : Code} {D : va_G} {cy : zY} {b n0 : Nat} {P : zPo} (la : Launch) (X : zX p la e (rm_X6_byRing) s m args below meth c 8 D cy b n0 cX6_byRing wsX6_byRing RX6) (hr : meth.sig.returnType = (some .int)) : zS p la e (rm_X6_byRing) s m args below meth c (MQ below (zQ D b (n0 + 0) P) args s 0 0 (fun q => b ≤ q)) 8 D b n0 7 (B_X6_byRing_7 b n0 cy P (zAt p la e (rm_X6_byRing) s m args below meth c (MQ below (zQ D b (n0 + 0) P) args s 0 0 (fun q => b ≤ q)) 8 D b n0)) := by
  unfold B_X6_byRing_7
  exact (s_iload X dX6_byRing_7 (s_aload_n X dX6_byRing_9 rfl (s_get X dX6_byRing_10 rfl k_X6_byRing_6 (by decide) f_X6_byRing_13 (s_iconst X dX6_byRing_13 (by decide) (s_iald X dX6_byRing_14 (s_icmp_ge X dX6_byRing_15 (by decide) (s_iload X dX6_byRing_104 (s_iret X dX6_byRing_106 hr)) (s_aload_n X dX6_byRing_18 rfl (s_bipush X dX6_byRing_19 (by decide) (s_bipush X dX6_byRing_21 (by decide) (s_iload X dX6_byRing_23 (s_imul X dX6_byRing_25 (s_iadd X dX6_byRing_26 (s_iload_n X dX6_byRing_27 rfl (s_iadd X dX6_byRing_28 (s_iald X dX6_byRing_29 (s_istore X dX6_byRing_30 (by decide) (s_iload X dX6_byRing_32 (s_iload_n X dX6_byRing_34 rfl (s_icmp_eq X dX6_byRing_35 (by decide) (S_X6_byRing_57 la X hr) (s_iload_n X dX6_byRing_38 rfl (s_iload X dX6_byRing_39 (s_ishr X dX6_byRing_41 (s_iconst X dX6_byRing_42 (by decide) (s_iand X dX6_byRing_43 (s_iconst X dX6_byRing_44 (by decide) (s_icmp_ne X dX6_byRing_45 (by decide) (S_X6_byRing_57 la X hr) (s_iload X dX6_byRing_48 (s_if_le X dX6_byRing_50 (by decide) (S_X6_byRing_57 la X hr) (s_iconst X dX6_byRing_53 (by decide) (s_goto X dX6_byRing_54 (by decide) (S_X6_byRing_58 la X hr)))))))))))))))))))))))))))))))
set_option maxRecDepth 100000 in
set_option maxHeartbeats 4000000 in
theorem S_X6_byRing_0 {p : Program} {e : Env} {s : State} {m : MethodId} {args : Array Value} {below : List Frame} {meth : Method} {c : Code} {D : va_G} {cy : zY} {b n0 : Nat} {P : zPo} (la : Launch) (X : zX p la e (rm_X6_byRing) s m args below meth c 8 D cy b n0 cX6_byRing wsX6_byRing RX6) (hr : meth.sig.returnType = (some .int)) : zS p la e (rm_X6_byRing) s m args below meth c (MQ below (zQ D b (n0 + 0) P) args s 0 0 (fun q => b ≤ q)) 8 D b n0 0 (B_X6_byRing_0 b n0 cy P (zAt p la e (rm_X6_byRing) s m args below meth c (MQ below (zQ D b (n0 + 0) P) args s 0 0 (fun q => b ≤ q)) 8 D b n0)) := by
  unfold B_X6_byRing_0
  exact (s_bipush X dX6_byRing_0 (by decide) (s_istore X dX6_byRing_2 (by decide) (s_iconst X dX6_byRing_4 (by decide) (s_istore X dX6_byRing_5 (by decide) (s_cut (by decide) zS_at)))))
theorem w_X6_byRing (la : Launch) (sp : zSp) (vc : zVC_X6_byRing sp) : zMet la yX6_byRing wsX6_byRing (rm_X6_byRing) 0 0 sp :=
  z_of (cc := cX6_byRing) (maxL := 8) (ret := (some .int)) (by decide +kernel) rfl (fun p e s m args below meth c D cy b n as E P hsp X hr hin => by
    obtain ⟨h1, h2⟩ := vc b cy n as E P (zAt p la e (rm_X6_byRing) s m args below meth c (MQ below (zQ D b (n + 0) P) args s 0 0 (fun q => b ≤ q)) 8 D b n) (fun _ _ _ _ _ q => S_X6_byRing_7 la X hr _ _ _ _ _ q) hsp
    exact ⟨h1, S_X6_byRing_0 la X hr _ _ _ _ _ h2⟩)

theorem m_X6_byRing (la : Launch) : zMet la yX6_byRing wsX6_byRing rm_X6_byRing 0 0 sp_X6_byRing := w_X6_byRing la _ vc_X6_byRing
def sp_X6_byTwo : zSp := fun b cy as N E P => ∃ (n : Nat) (lo la c : Nat → Nat) (r : Nat), as = [.ref (b + 159), .int (nI r)] ∧ zMR b cy N E n lo la ∧ zAr cy E 166 n c ∧ zMok n c ∧ r < 6 ∧ P (some (.int (zrv (ztwo n c r)))) E
abbrev rm_X6_byTwo : Room := { frames := 2, cells := 0, slots := 0, locals := 62 }
def B_X6_byTwo_95 (b n0 : Nat) (cy : zY) (P : zPo) (A : Nat → zC) : zC :=
  z_istore 2 (z_iinc 3 (1) (z_cut [0, 1, 2, 3] (A 5)))
def B_X6_byTwo_94 (b n0 : Nat) (cy : zY) (P : zPo) (A : Nat → zC) : zC :=
  z_iload 2 (B_X6_byTwo_95 b n0 cy P A)
def B_X6_byTwo_90 (b n0 : Nat) (cy : zY) (P : zPo) (A : Nat → zC) : zC :=
  z_iload 3 (B_X6_byTwo_95 b n0 cy P A)
def B_X6_byTwo_58 (b n0 : Nat) (cy : zY) (P : zPo) (A : Nat → zC) : zC :=
  z_istore 5 (z_iload 5 (z_if (fun x => x = 0) (B_X6_byTwo_94 b n0 cy P A) (z_iload 2 (z_const (-9) (z_icmp (fun x y => x = y) (B_X6_byTwo_90 b n0 cy P A) (z_iload 4 (z_aload 0 (z_get b n0 6 14 (z_const (16) (z_const (6) (z_iload 1 (z_bin (fun x y => x * y) (z_bin (fun x y => x + y) (z_iload 2 (z_bin (fun x y => x + y) (z_ald b n0 (cy 1) (z_icmp (fun x y => x ≤ y) (B_X6_byTwo_94 b n0 cy P A) (B_X6_byTwo_90 b n0 cy P A))))))))))))))))))
def B_X6_byTwo_57 (b n0 : Nat) (cy : zY) (P : zPo) (A : Nat → zC) : zC :=
  z_const (0) (B_X6_byTwo_58 b n0 cy P A)
def B_X6_byTwo_5 (b n0 : Nat) (cy : zY) (P : zPo) (A : Nat → zC) : zC :=
  z_iload 3 (z_aload 0 (z_get b n0 6 3 (z_const (0) (z_ald b n0 (cy 1) (z_icmp (fun x y => y ≤ x) (z_iload 2 (z_iret 0 0 P)) (z_aload 0 (z_get b n0 6 14 (z_const (16) (z_const (6) (z_iload 1 (z_bin (fun x y => x * y) (z_bin (fun x y => x + y) (z_iload 3 (z_bin (fun x y => x + y) (z_ald b n0 (cy 1) (z_istore 4 (z_iload 3 (z_iload 1 (z_icmp (fun x y => x = y) (B_X6_byTwo_57 b n0 cy P A) (z_aload 0 (z_aload 0 (z_get b n0 6 14 (z_iload 3 (z_callV b n0 0 0 cy 6 2 0 0 sp_X6_isAboard (z_if (fun x => x = 0) (B_X6_byTwo_57 b n0 cy P A) (z_iload 4 (z_if (fun x => x ≤ 0) (B_X6_byTwo_57 b n0 cy P A) (z_const (1) (B_X6_byTwo_58 b n0 cy P A)))))))))))))))))))))))))))))
def B_X6_byTwo_0 (b n0 : Nat) (cy : zY) (P : zPo) (A : Nat → zC) : zC :=
  z_const (-9) (z_istore 2 (z_const (0) (z_istore 3 (z_cut [0, 1, 2, 3] (A 5)))))
def zVC_X6_byTwo (sp : zSp) : Prop := ∀ (b : Nat) (cy : zY) (n : Nat) (as : List Value) (E : zE) (P : zPo) (A : Nat → zC), (∀ l st k u E, B_X6_byTwo_5 b n cy P A l st k u E → A 5 l st k u E) → sp b cy as n E P → zgood as 6 ∧ B_X6_byTwo_0 b n cy P A (lv_args 0 as) [] 0 0 E

set_option maxRecDepth 100000 in
set_option maxHeartbeats 4000000 in
theorem vc_X6_byTwo : zVC_X6_byTwo sp_X6_byTwo := by
  intro b cy N as E P A hA hsp
  obtain ⟨n, lo, la, c, r, rfl, hR, hAr, hok, hr, hP⟩ := hsp
  refine ⟨⟨Nat.le_of_ble_eq_true rfl, zg1 rfl (zg1 rfl (zg0))⟩, ?_⟩
  obtain ⟨L, g, hL, hL2, hE, hc⟩ := id hAr
  obtain ⟨⟨tr, ty, lt, qq, st, so, va, fa, se, e0⟩, ⟨rf, e1, e1'⟩, _, _, hn, hlo, hN⟩ := id hR
  have N0 : 159 < N := by omega
  have N1 : 161 < N := by omega
  have N6 : 166 < N := by omega
  have hin : vp_in 0 2 := (vp_in_nI (show 0 < 2 by omega) (by omega) : vp_in (nI 0) 2)
  have hcl : (0 : Int32).toNatClampNeg = 0 := by decide
  have k16 : (16 : Int32) = nI 16 := rfl
  have k6 : (6 : Int32) = nI 6 := rfl
  obtain ⟨_, _, _, c16⟩ := zCm0 hc
  have l36 := hok.2.2.2.2.2.1
  have l2 := hok.2.2.2.1
  have jin : ∀ q, q < 6 → vp_in (nI (16 + 6 * r + q)) L := fun q hq => vp_in_nI (by omega) (by omega)
  have jcl : ∀ q, q < 6 → (nI (16 + 6 * r + q)).toNatClampNeg = 16 + 6 * r + q := fun q hq => nI_clamp (by omega)
  have jv : ∀ q, q < 6 → g (16 + 6 * r + q) = nI (c (16 + 6 * r + q)) := fun q hq => by have := c16 (6 * r + q) (by omega); rwa [← Nat.add_assoc] at this
  have jb : ∀ q, q < 6 → c (16 + 6 * r + q) < 2 ^ 31 := fun q hq => by have := l36 (6 * r + q) (by omega); rw [← Nat.add_assoc] at this; omega
  unfold ztwo at hP
  generalize hok1 : (fun q => decide (q ≠ r) && (c 1).testBit q && decide (0 < c (16 + 6 * r + q))) = ok at hP
  generalize hbt1 : (fun q f => decide (c (16 + 6 * r + f) < c (16 + 6 * r + q))) = bt at hP
  have loop : ∀ (d k : Nat) (hd : d + k = n), A 5 [(0, .ref (b + 159)), (1, .int (nI r)), (2, .int (zrv (zfo ok bt k))), (3, .int (nI k))] [] 0 0 E := by
    intro d
    induction d with
    | zero =>
      intro k hd
      obtain rfl : k = n := by omega
      apply hA
      have cle : nI k ≤ nI k := nI_le (Nat.le_refl _) (by omega)
      simp -implicitDefEqProofs only [B_X6_byTwo_5, e_cut, e_iload, e_aload, e_istore, e_astore, e_iinc, e_const, e_lconst, e_bmul, e_badd, e_bsub, e_baddl, e_bmull, e_bshr, e_band, e_bin0, e_un, e_ladd, e_dupi, e_dupr, e_dup2, e_pop, e_sw, e_sw0, e_sw1, e_get, e_put, e_ald, e_ast, e_aald, e_aast, e_copy, e_new, e_newa, e_anewa, e_min, e_abs, e_oinit, e_callI, e_callV, e_callS, e_iret, e_zret, e_lret, e_vret, e_tl1, e_tl0, e_tl2, e_tl3, z10, Bool.false_eq_true, e_argi, e_argr, e_argn, zld_c, zst_n, zst_c, zpick_n, zpick_c, List.drop_succ_cons, List.drop_zero, List.take_succ_cons, List.take_zero, List.length_cons, List.length_nil, List.reverse_cons, List.reverse_nil, List.nil_append, List.cons_append, List.append_nil, List.getElem?_cons_zero, List.getElem?_cons_succ, List.set_cons_zero, List.set_cons_succ, Nat.add_sub_cancel_left, Nat.sub_self, Nat.add_zero, Nat.zero_add, Nat.le_add_right, Nat.le_refl, true_and, and_true, va_rf, zok, Nat.add_left_cancel_iff, Nat.add_eq_left, Nat.left_eq_add, eq_self, if_true, if_false, not_false_eq_true, not_true_eq_false, false_implies, true_implies, Nat.reduceEqDiff, Nat.reduceAdd, Nat.reduceLT, Nat.reduceLeDiff, reduceIte, e_icmpt (c2 := fun x y => y ≤ x) cle, zM0, e0, N0, N1, e1, e1', hin, hcl]
      exact hP
    | succ d ih =>
      intro k hd
      have hk : k < n := by omega
      have hk6 : k < 6 := by omega
      apply hA
      have cle : ¬ nI n ≤ nI k := nI_ge hk (by omega)
      have kv0 : (nI (c (16 + 6 * r + k)) ≤ 0) = (c (16 + 6 * r + k) ≤ 0) := propext (nI_leI (b := 0) (jb k hk6) (by omega))
      have b0 : ok k = false → B_X6_byTwo_58 b N cy P A [(0, .ref (b + 159)), (1, .int (nI r)), (2, .int (zrv (zfo ok bt k))), (3, .int (nI k)), (4, .int (nI (c (16 + 6 * r + k))))] [.int 0] 0 0 E := fun h => by
        have h9 := ih (k + 1) (by omega)
        rw [zfo_no h] at h9
        simp -implicitDefEqProofs only [B_X6_byTwo_58, B_X6_byTwo_94, B_X6_byTwo_95, e_cut, e_iload, e_aload, e_istore, e_astore, e_iinc, e_const, e_lconst, e_bmul, e_badd, e_bsub, e_baddl, e_bmull, e_bshr, e_band, e_bin0, e_un, e_ladd, e_dupi, e_dupr, e_dup2, e_pop, e_sw, e_sw0, e_sw1, e_get, e_put, e_ald, e_ast, e_aald, e_aast, e_copy, e_new, e_newa, e_anewa, e_min, e_abs, e_oinit, e_callI, e_callV, e_callS, e_iret, e_zret, e_lret, e_vret, e_tl1, e_tl0, e_tl2, e_tl3, z10, Bool.false_eq_true, e_argi, e_argr, e_argn, zld_c, zst_n, zst_c, zpick_n, zpick_c, List.drop_succ_cons, List.drop_zero, List.take_succ_cons, List.take_zero, List.length_cons, List.length_nil, List.reverse_cons, List.reverse_nil, List.nil_append, List.cons_append, List.append_nil, List.getElem?_cons_zero, List.getElem?_cons_succ, List.set_cons_zero, List.set_cons_succ, Nat.add_sub_cancel_left, Nat.sub_self, Nat.add_zero, Nat.zero_add, Nat.le_add_right, Nat.le_refl, true_and, and_true, va_rf, zok, Nat.add_left_cancel_iff, Nat.add_eq_left, Nat.left_eq_add, eq_self, if_true, if_false, not_false_eq_true, not_true_eq_false, false_implies, true_implies, Nat.reduceEqDiff, Nat.reduceAdd, Nat.reduceLT, Nat.reduceLeDiff, reduceIte, e_ift (c1 := fun x => x = 0) (x := 0) rfl, nI_1]
        exact h9
      have b1 : ok k = true → B_X6_byTwo_58 b N cy P A [(0, .ref (b + 159)), (1, .int (nI r)), (2, .int (zrv (zfo ok bt k))), (3, .int (nI k)), (4, .int (nI (c (16 + 6 * r + k))))] [.int 1] 0 0 E := fun h => by
        have h9 := ih (k + 1) (by omega)
        have h10 : ¬ (1 : Int32) = 0 := by decide
        cases hz : zfo ok bt k with
        | none =>
          rw [zfo_n h hz] at h9
          simp -implicitDefEqProofs only [zrv, B_X6_byTwo_58, B_X6_byTwo_90, B_X6_byTwo_95, e_cut, e_iload, e_aload, e_istore, e_astore, e_iinc, e_const, e_lconst, e_bmul, e_badd, e_bsub, e_baddl, e_bmull, e_bshr, e_band, e_bin0, e_un, e_ladd, e_dupi, e_dupr, e_dup2, e_pop, e_sw, e_sw0, e_sw1, e_get, e_put, e_ald, e_ast, e_aald, e_aast, e_copy, e_new, e_newa, e_anewa, e_min, e_abs, e_oinit, e_callI, e_callV, e_callS, e_iret, e_zret, e_lret, e_vret, e_tl1, e_tl0, e_tl2, e_tl3, z10, Bool.false_eq_true, e_argi, e_argr, e_argn, zld_c, zst_n, zst_c, zpick_n, zpick_c, List.drop_succ_cons, List.drop_zero, List.take_succ_cons, List.take_zero, List.length_cons, List.length_nil, List.reverse_cons, List.reverse_nil, List.nil_append, List.cons_append, List.append_nil, List.getElem?_cons_zero, List.getElem?_cons_succ, List.set_cons_zero, List.set_cons_succ, Nat.add_sub_cancel_left, Nat.sub_self, Nat.add_zero, Nat.zero_add, Nat.le_add_right, Nat.le_refl, true_and, and_true, va_rf, zok, Nat.add_left_cancel_iff, Nat.add_eq_left, Nat.left_eq_add, eq_self, if_true, if_false, not_false_eq_true, not_true_eq_false, false_implies, true_implies, Nat.reduceEqDiff, Nat.reduceAdd, Nat.reduceLT, Nat.reduceLeDiff, reduceIte, e_iff (c1 := fun x => x = 0) (x := 1) h10, e_icmpt (c2 := fun x y => x = y) (x := -9) (y := -9) rfl, nI_1]
          exact h9
        | some f0 =>
          have hf0 := (zfo_lt hz).1
          have hf6 : f0 < 6 := by omega
          simp -implicitDefEqProofs only [zrv, B_X6_byTwo_58, B_X6_byTwo_90, B_X6_byTwo_94, B_X6_byTwo_95, e_cut, e_iload, e_aload, e_istore, e_astore, e_iinc, e_const, e_lconst, e_bmul, e_badd, e_bsub, e_baddl, e_bmull, e_bshr, e_band, e_bin0, e_un, e_ladd, e_dupi, e_dupr, e_dup2, e_pop, e_sw, e_sw0, e_sw1, e_get, e_put, e_ald, e_ast, e_aald, e_aast, e_copy, e_new, e_newa, e_anewa, e_min, e_abs, e_oinit, e_callI, e_callV, e_callS, e_iret, e_zret, e_lret, e_vret, e_tl1, e_tl0, e_tl2, e_tl3, z10, Bool.false_eq_true, e_argi, e_argr, e_argn, zld_c, zst_n, zst_c, zpick_n, zpick_c, List.drop_succ_cons, List.drop_zero, List.take_succ_cons, List.take_zero, List.length_cons, List.length_nil, List.reverse_cons, List.reverse_nil, List.nil_append, List.cons_append, List.append_nil, List.getElem?_cons_zero, List.getElem?_cons_succ, List.set_cons_zero, List.set_cons_succ, Nat.add_sub_cancel_left, Nat.sub_self, Nat.add_zero, Nat.zero_add, Nat.le_add_right, Nat.le_refl, true_and, and_true, va_rf, zok, Nat.add_left_cancel_iff, Nat.add_eq_left, Nat.left_eq_add, eq_self, if_true, if_false, not_false_eq_true, not_true_eq_false, false_implies, true_implies, Nat.reduceEqDiff, Nat.reduceAdd, Nat.reduceLT, Nat.reduceLeDiff, reduceIte, e_icmp, e_iff (c1 := fun x => x = 0) (x := 1) h10, zrv_nn hf6, zM0, e0, N0, N6, hE, jin f0 hf6, jcl f0 hf6, jv f0 hf6, nI_1, nI_leI (jb k hk6) (jb f0 hf6)]
          refine ⟨fun c4 => ?_, fun c4 => ?_⟩
          · rw [zfo_w hz (by rw [← hbt1]; simp; exact c4), hz] at h9; exact h9
          · rw [zfo_y h hz (by rw [← hbt1]; simp; omega)] at h9; exact h9
      simp -implicitDefEqProofs only [B_X6_byTwo_5, B_X6_byTwo_57, e_cut, e_iload, e_aload, e_istore, e_astore, e_iinc, e_const, e_lconst, e_bmul, e_badd, e_bsub, e_baddl, e_bmull, e_bshr, e_band, e_bin0, e_un, e_ladd, e_dupi, e_dupr, e_dup2, e_pop, e_if, e_icmp, e_sw, e_sw0, e_sw1, e_get, e_put, e_ald, e_ast, e_aald, e_aast, e_copy, e_new, e_newa, e_anewa, e_min, e_abs, e_oinit, e_callI, e_callV, e_callS, e_iret, e_zret, e_lret, e_vret, e_tl1, e_tl0, e_tl2, e_tl3, z10, Bool.false_eq_true, e_argi, e_argr, e_argn, zld_c, zst_n, zst_c, zpick_n, zpick_c, List.drop_succ_cons, List.drop_zero, List.take_succ_cons, List.take_zero, List.length_cons, List.length_nil, List.reverse_cons, List.reverse_nil, List.nil_append, List.cons_append, List.append_nil, List.getElem?_cons_zero, List.getElem?_cons_succ, List.set_cons_zero, List.set_cons_succ, Nat.add_sub_cancel_left, Nat.sub_self, Nat.add_zero, Nat.zero_add, Nat.le_add_right, Nat.le_refl, true_and, and_true, va_rf, zok, Nat.add_left_cancel_iff, Nat.add_eq_left, Nat.left_eq_add, eq_self, if_true, if_false, not_false_eq_true, not_true_eq_false, false_implies, true_implies, Nat.reduceEqDiff, Nat.reduceAdd, Nat.reduceLT, Nat.reduceLeDiff, reduceIte, zM0, e0, N0, N1, N6, e1, e1', hin, hcl, cle, hE, nI_eq (show k < 2 ^ 31 by omega) (show r < 2 ^ 31 by omega), jin k hk6, jcl k hk6, jv k hk6, kv0]
      refine ⟨fun c1 => b0 (by rw [← hok1]; simp [c1]), fun c1 => ?_⟩
      refine ⟨166, k, n, c, rfl, hAr, by omega, hk6, hok.l64, ?_⟩
      by_cases q1 : (c 1).testBit k = true
      · simp -implicitDefEqProofs only [e_cut, e_iload, e_aload, e_istore, e_astore, e_iinc, e_const, e_lconst, e_bmul, e_badd, e_bsub, e_baddl, e_bmull, e_bshr, e_band, e_bin0, e_un, e_ladd, e_dupi, e_dupr, e_dup2, e_pop, e_if, e_icmp, e_sw, e_sw0, e_sw1, e_get, e_put, e_ald, e_ast, e_aald, e_aast, e_copy, e_new, e_newa, e_anewa, e_min, e_abs, e_oinit, e_callI, e_callV, e_callS, e_iret, e_zret, e_lret, e_vret, e_tl1, e_tl0, e_tl2, e_tl3, z10, Bool.false_eq_true, e_argi, e_argr, e_argn, zld_c, zst_n, zst_c, zpick_n, zpick_c, List.drop_succ_cons, List.drop_zero, List.take_succ_cons, List.take_zero, List.length_cons, List.length_nil, List.reverse_cons, List.reverse_nil, List.nil_append, List.cons_append, List.append_nil, List.getElem?_cons_zero, List.getElem?_cons_succ, List.set_cons_zero, List.set_cons_succ, Nat.add_sub_cancel_left, Nat.sub_self, Nat.add_zero, Nat.zero_add, Nat.le_add_right, Nat.le_refl, true_and, and_true, va_rf, zok, Nat.add_left_cancel_iff, Nat.add_eq_left, Nat.left_eq_add, eq_self, if_true, if_false, not_false_eq_true, not_true_eq_false, false_implies, true_implies, Nat.reduceEqDiff, Nat.reduceAdd, Nat.reduceLT, Nat.reduceLeDiff, reduceIte, q1, kv0]
        exact ⟨fun c3 => b0 (by rw [← hok1]; simp; omega), fun c3 => b1 (by rw [← hok1]; simp [c1, q1]; omega)⟩
      · simp -implicitDefEqProofs only [e_cut, e_iload, e_aload, e_istore, e_astore, e_iinc, e_const, e_lconst, e_bmul, e_badd, e_bsub, e_baddl, e_bmull, e_bshr, e_band, e_bin0, e_un, e_ladd, e_dupi, e_dupr, e_dup2, e_pop, e_if, e_icmp, e_sw, e_sw0, e_sw1, e_get, e_put, e_ald, e_ast, e_aald, e_aast, e_copy, e_new, e_newa, e_anewa, e_min, e_abs, e_oinit, e_callI, e_callV, e_callS, e_iret, e_zret, e_lret, e_vret, e_tl1, e_tl0, e_tl2, e_tl3, z10, Bool.false_eq_true, e_argi, e_argr, e_argn, zld_c, zst_n, zst_c, zpick_n, zpick_c, List.drop_succ_cons, List.drop_zero, List.take_succ_cons, List.take_zero, List.length_cons, List.length_nil, List.reverse_cons, List.reverse_nil, List.nil_append, List.cons_append, List.append_nil, List.getElem?_cons_zero, List.getElem?_cons_succ, List.set_cons_zero, List.set_cons_succ, Nat.add_sub_cancel_left, Nat.sub_self, Nat.add_zero, Nat.zero_add, Nat.le_add_right, Nat.le_refl, true_and, and_true, va_rf, zok, Nat.add_left_cancel_iff, Nat.add_eq_left, Nat.left_eq_add, eq_self, if_true, if_false, not_false_eq_true, not_true_eq_false, false_implies, true_implies, Nat.reduceEqDiff, Nat.reduceAdd, Nat.reduceLT, Nat.reduceLeDiff, reduceIte, q1]
        exact b0 (by rw [← hok1]; simp [q1])
  simp -implicitDefEqProofs only [B_X6_byTwo_0, e_cut, e_iload, e_aload, e_istore, e_astore, e_iinc, e_const, e_lconst, e_bmul, e_badd, e_bsub, e_baddl, e_bmull, e_bshr, e_band, e_bin0, e_un, e_ladd, e_dupi, e_dupr, e_dup2, e_pop, e_if, e_icmp, e_sw, e_sw0, e_sw1, e_get, e_put, e_ald, e_ast, e_aald, e_aast, e_copy, e_new, e_newa, e_anewa, e_min, e_abs, e_oinit, e_callI, e_callV, e_callS, e_iret, e_zret, e_lret, e_vret, e_tl1, e_tl0, e_tl2, e_tl3, z10, Bool.false_eq_true, e_argi, e_argr, e_argn, zld_c, zst_n, zst_c, zpick_n, zpick_c, List.drop_succ_cons, List.drop_zero, List.take_succ_cons, List.take_zero, List.length_cons, List.length_nil, List.reverse_cons, List.reverse_nil, List.nil_append, List.cons_append, List.append_nil, List.getElem?_cons_zero, List.getElem?_cons_succ, List.set_cons_zero, List.set_cons_succ, Nat.add_sub_cancel_left, Nat.sub_self, Nat.add_zero, Nat.zero_add, Nat.le_add_right, Nat.le_refl, true_and, and_true, va_rf, zok, Nat.add_left_cancel_iff, Nat.add_eq_left, Nat.left_eq_add, eq_self, if_true, if_false, not_false_eq_true, not_true_eq_false, false_implies, true_implies, Nat.reduceEqDiff, Nat.reduceAdd, Nat.reduceLT, Nat.reduceLeDiff, reduceIte]
  exact loop n 0 rfl
set_option maxRecDepth 20000 in
theorem f_X6_byTwo_29 : Cond.fieldLink RX6 29 (TX6 14).1 (TX6 14).2.1 (TX6 14).2.2.1 ∈ wsX6_byTwo := by decide +kernel
set_option maxRecDepth 20000 in
theorem k_X6_byTwo_6 : ∀ w ∈ u_ws RX6 TX6 21, w ∈ wsX6_byTwo := fun _ h => List.mem_cons_of_mem _ (List.mem_append_right _ h)
set_option maxRecDepth 20000 in
theorem f_X6_byTwo_13 : Cond.fieldLink RX6 13 (TX6 3).1 (TX6 3).2.1 (TX6 3).2.2.1 ∈ wsX6_byTwo := by decide +kernel
set_option maxRecDepth 100000 in
set_option maxHeartbeats 4000000 in
theorem S_X6_byTwo_95 {p : Program} {e : Env} {s : State} {m : MethodId} {args : Array Value} {below : List Frame} {meth : Method} {c : Code} {D : va_G} {cy : zY} {b n0 : Nat} {P : zPo} (la : Launch) (X : zX p la e (rm_X6_byTwo) s m args below meth c 6 D cy b n0 cX6_byTwo wsX6_byTwo RX6) (hr : meth.sig.returnType = (some .int)) (h_X6_isAboard : zMet la yX6_isAboard wsX6_isAboard rm_X6_isAboard 0 0 sp_X6_isAboard) : zS p la e (rm_X6_byTwo) s m args below meth c (MQ below (zQ D b (n0 + 0) P) args s 0 0 (fun q => b ≤ q)) 6 D b n0 95 (B_X6_byTwo_95 b n0 cy P (zAt p la e (rm_X6_byTwo) s m args below meth c (MQ below (zQ D b (n0 + 0) P) args s 0 0 (fun q => b ≤ q)) 6 D b n0)) := by
  unfold B_X6_byTwo_95
  exact (s_istore_n X dX6_byTwo_95 rfl (by decide) (s_iinc X dX6_byTwo_96 (by decide) (by decide) (s_goto X dX6_byTwo_99 (by decide) (s_cut (by decide) zS_at))))
set_option maxRecDepth 100000 in
set_option maxHeartbeats 4000000 in
theorem S_X6_byTwo_94 {p : Program} {e : Env} {s : State} {m : MethodId} {args : Array Value} {below : List Frame} {meth : Method} {c : Code} {D : va_G} {cy : zY} {b n0 : Nat} {P : zPo} (la : Launch) (X : zX p la e (rm_X6_byTwo) s m args below meth c 6 D cy b n0 cX6_byTwo wsX6_byTwo RX6) (hr : meth.sig.returnType = (some .int)) (h_X6_isAboard : zMet la yX6_isAboard wsX6_isAboard rm_X6_isAboard 0 0 sp_X6_isAboard) : zS p la e (rm_X6_byTwo) s m args below meth c (MQ below (zQ D b (n0 + 0) P) args s 0 0 (fun q => b ≤ q)) 6 D b n0 94 (B_X6_byTwo_94 b n0 cy P (zAt p la e (rm_X6_byTwo) s m args below meth c (MQ below (zQ D b (n0 + 0) P) args s 0 0 (fun q => b ≤ q)) 6 D b n0)) := by
  unfold B_X6_byTwo_94
  exact (s_iload_n X dX6_byTwo_94 rfl (S_X6_byTwo_95 la X hr h_X6_isAboard))
set_option maxRecDepth 100000 in
set_option maxHeartbeats 4000000 in
theorem S_X6_byTwo_90 {p : Program} {e : Env} {s : State} {m : MethodId} {args : Array Value} {below : List Frame} {meth : Method} {c : Code} {D : va_G} {cy : zY} {b n0 : Nat} {P : zPo} (la : Launch) (X : zX p la e (rm_X6_byTwo) s m args below meth c 6 D cy b n0 cX6_byTwo wsX6_byTwo RX6) (hr : meth.sig.returnType = (some .int)) (h_X6_isAboard : zMet la yX6_isAboard wsX6_isAboard rm_X6_isAboard 0 0 sp_X6_isAboard) : zS p la e (rm_X6_byTwo) s m args below meth c (MQ below (zQ D b (n0 + 0) P) args s 0 0 (fun q => b ≤ q)) 6 D b n0 90 (B_X6_byTwo_90 b n0 cy P (zAt p la e (rm_X6_byTwo) s m args below meth c (MQ below (zQ D b (n0 + 0) P) args s 0 0 (fun q => b ≤ q)) 6 D b n0)) := by
  unfold B_X6_byTwo_90
  exact (s_iload_n X dX6_byTwo_90 rfl (s_goto X dX6_byTwo_91 (by decide) (S_X6_byTwo_95 la X hr h_X6_isAboard)))
set_option maxRecDepth 100000 in
set_option maxHeartbeats 4000000 in
theorem S_X6_byTwo_58 {p : Program} {e : Env} {s : State} {m : MethodId} {args : Array Value} {below : List Frame} {meth : Method} {c : Code} {D : va_G} {cy : zY} {b n0 : Nat} {P : zPo} (la : Launch) (X : zX p la e (rm_X6_byTwo) s m args below meth c 6 D cy b n0 cX6_byTwo wsX6_byTwo RX6) (hr : meth.sig.returnType = (some .int)) (h_X6_isAboard : zMet la yX6_isAboard wsX6_isAboard rm_X6_isAboard 0 0 sp_X6_isAboard) : zS p la e (rm_X6_byTwo) s m args below meth c (MQ below (zQ D b (n0 + 0) P) args s 0 0 (fun q => b ≤ q)) 6 D b n0 58 (B_X6_byTwo_58 b n0 cy P (zAt p la e (rm_X6_byTwo) s m args below meth c (MQ below (zQ D b (n0 + 0) P) args s 0 0 (fun q => b ≤ q)) 6 D b n0)) := by
  unfold B_X6_byTwo_58
  exact (s_istore X dX6_byTwo_58 (by decide) (s_iload X dX6_byTwo_60 (s_if_eq X dX6_byTwo_62 (by decide) (S_X6_byTwo_94 la X hr h_X6_isAboard) (s_iload_n X dX6_byTwo_65 rfl (s_bipush X dX6_byTwo_66 (by decide) (s_icmp_eq X dX6_byTwo_68 (by decide) (S_X6_byTwo_90 la X hr h_X6_isAboard) (s_iload X dX6_byTwo_71 (s_aload_n X dX6_byTwo_73 rfl (s_get X dX6_byTwo_74 rfl k_X6_byTwo_6 (by decide) f_X6_byTwo_29 (s_bipush X dX6_byTwo_77 (by decide) (s_bipush X dX6_byTwo_79 (by decide) (s_iload_n X dX6_byTwo_81 rfl (s_imul X dX6_byTwo_82 (s_iadd X dX6_byTwo_83 (s_iload_n X dX6_byTwo_84 rfl (s_iadd X dX6_byTwo_85 (s_iald X dX6_byTwo_86 (s_icmp_le X dX6_byTwo_87 (by decide) (S_X6_byTwo_94 la X hr h_X6_isAboard) (S_X6_byTwo_90 la X hr h_X6_isAboard)))))))))))))))))))
set_option maxRecDepth 100000 in
set_option maxHeartbeats 4000000 in
theorem S_X6_byTwo_57 {p : Program} {e : Env} {s : State} {m : MethodId} {args : Array Value} {below : List Frame} {meth : Method} {c : Code} {D : va_G} {cy : zY} {b n0 : Nat} {P : zPo} (la : Launch) (X : zX p la e (rm_X6_byTwo) s m args below meth c 6 D cy b n0 cX6_byTwo wsX6_byTwo RX6) (hr : meth.sig.returnType = (some .int)) (h_X6_isAboard : zMet la yX6_isAboard wsX6_isAboard rm_X6_isAboard 0 0 sp_X6_isAboard) : zS p la e (rm_X6_byTwo) s m args below meth c (MQ below (zQ D b (n0 + 0) P) args s 0 0 (fun q => b ≤ q)) 6 D b n0 57 (B_X6_byTwo_57 b n0 cy P (zAt p la e (rm_X6_byTwo) s m args below meth c (MQ below (zQ D b (n0 + 0) P) args s 0 0 (fun q => b ≤ q)) 6 D b n0)) := by
  unfold B_X6_byTwo_57
  exact (s_iconst X dX6_byTwo_57 (by decide) (S_X6_byTwo_58 la X hr h_X6_isAboard))
set_option maxRecDepth 100000 in
set_option maxHeartbeats 4000000 in
theorem S_X6_byTwo_5 {p : Program} {e : Env} {s : State} {m : MethodId} {args : Array Value} {below : List Frame} {meth : Method} {c : Code} {D : va_G} {cy : zY} {b n0 : Nat} {P : zPo} (la : Launch) (X : zX p la e (rm_X6_byTwo) s m args below meth c 6 D cy b n0 cX6_byTwo wsX6_byTwo RX6) (hr : meth.sig.returnType = (some .int)) (h_X6_isAboard : zMet la yX6_isAboard wsX6_isAboard rm_X6_isAboard 0 0 sp_X6_isAboard) : zS p la e (rm_X6_byTwo) s m args below meth c (MQ below (zQ D b (n0 + 0) P) args s 0 0 (fun q => b ≤ q)) 6 D b n0 5 (B_X6_byTwo_5 b n0 cy P (zAt p la e (rm_X6_byTwo) s m args below meth c (MQ below (zQ D b (n0 + 0) P) args s 0 0 (fun q => b ≤ q)) 6 D b n0)) := by
  unfold B_X6_byTwo_5
  exact (s_iload_n X dX6_byTwo_5 rfl (s_aload_n X dX6_byTwo_6 rfl (s_get X dX6_byTwo_7 rfl k_X6_byTwo_6 (by decide) f_X6_byTwo_13 (s_iconst X dX6_byTwo_10 (by decide) (s_iald X dX6_byTwo_11 (s_icmp_ge X dX6_byTwo_12 (by decide) (s_iload_n X dX6_byTwo_102 rfl (s_iret X dX6_byTwo_103 hr)) (s_aload_n X dX6_byTwo_15 rfl (s_get X dX6_byTwo_16 rfl k_X6_byTwo_6 (by decide) f_X6_byTwo_29 (s_bipush X dX6_byTwo_19 (by decide) (s_bipush X dX6_byTwo_21 (by decide) (s_iload_n X dX6_byTwo_23 rfl (s_imul X dX6_byTwo_24 (s_iadd X dX6_byTwo_25 (s_iload_n X dX6_byTwo_26 rfl (s_iadd X dX6_byTwo_27 (s_iald X dX6_byTwo_28 (s_istore X dX6_byTwo_29 (by decide) (s_iload_n X dX6_byTwo_31 rfl (s_iload_n X dX6_byTwo_32 rfl (s_icmp_eq X dX6_byTwo_33 (by decide) (S_X6_byTwo_57 la X hr h_X6_isAboard) (s_aload_n X dX6_byTwo_36 rfl (s_aload_n X dX6_byTwo_37 rfl (s_get X dX6_byTwo_38 rfl k_X6_byTwo_6 (by decide) f_X6_byTwo_29 (s_iload_n X dX6_byTwo_41 rfl (s_callV X h_X6_isAboard dX6_byTwo_42 rfl gX6_byTwo_X6_isAboard rfl rfl rfl (by decide +kernel) ⟨by decide, by decide⟩ (s_if_eq X dX6_byTwo_45 (by decide) (S_X6_byTwo_57 la X hr h_X6_isAboard) (s_iload X dX6_byTwo_48 (s_if_le X dX6_byTwo_50 (by decide) (S_X6_byTwo_57 la X hr h_X6_isAboard) (s_iconst X dX6_byTwo_53 (by decide) (s_goto X dX6_byTwo_54 (by decide) (S_X6_byTwo_58 la X hr h_X6_isAboard)))))))))))))))))))))))))))))))
set_option maxRecDepth 100000 in
set_option maxHeartbeats 4000000 in
theorem S_X6_byTwo_0 {p : Program} {e : Env} {s : State} {m : MethodId} {args : Array Value} {below : List Frame} {meth : Method} {c : Code} {D : va_G} {cy : zY} {b n0 : Nat} {P : zPo} (la : Launch) (X : zX p la e (rm_X6_byTwo) s m args below meth c 6 D cy b n0 cX6_byTwo wsX6_byTwo RX6) (hr : meth.sig.returnType = (some .int)) (h_X6_isAboard : zMet la yX6_isAboard wsX6_isAboard rm_X6_isAboard 0 0 sp_X6_isAboard) : zS p la e (rm_X6_byTwo) s m args below meth c (MQ below (zQ D b (n0 + 0) P) args s 0 0 (fun q => b ≤ q)) 6 D b n0 0 (B_X6_byTwo_0 b n0 cy P (zAt p la e (rm_X6_byTwo) s m args below meth c (MQ below (zQ D b (n0 + 0) P) args s 0 0 (fun q => b ≤ q)) 6 D b n0)) := by
  unfold B_X6_byTwo_0
  exact (s_bipush X dX6_byTwo_0 (by decide) (s_istore_n X dX6_byTwo_2 rfl (by decide) (s_iconst X dX6_byTwo_3 (by decide) (s_istore_n X dX6_byTwo_4 rfl (by decide) (s_cut (by decide) zS_at)))))
theorem w_X6_byTwo (la : Launch) (h_X6_isAboard : zMet la yX6_isAboard wsX6_isAboard rm_X6_isAboard 0 0 sp_X6_isAboard) (sp : zSp) (vc : zVC_X6_byTwo sp) : zMet la yX6_byTwo wsX6_byTwo (rm_X6_byTwo) 0 0 sp :=
  z_of (cc := cX6_byTwo) (maxL := 6) (ret := (some .int)) (by decide +kernel) rfl (fun p e s m args below meth c D cy b n as E P hsp X hr hin => by
    obtain ⟨h1, h2⟩ := vc b cy n as E P (zAt p la e (rm_X6_byTwo) s m args below meth c (MQ below (zQ D b (n + 0) P) args s 0 0 (fun q => b ≤ q)) 6 D b n) (fun _ _ _ _ _ q => S_X6_byTwo_5 la X hr h_X6_isAboard _ _ _ _ _ q) hsp
    exact ⟨h1, S_X6_byTwo_0 la X hr h_X6_isAboard _ _ _ _ _ h2⟩)

theorem m_X6_byTwo (la : Launch) : zMet la yX6_byTwo wsX6_byTwo rm_X6_byTwo 0 0 sp_X6_byTwo := w_X6_byTwo la (m_X6_isAboard la) _ vc_X6_byTwo

