/-- from place o on stands the car C -/
def zCa (f : Nat → Int32) (o n : Nat) (C : zCar) : Prop := zCm f o n C.1 ∧ f (o + 52) = nI C.2.1 ∧ ∀ t, t < C.2.1 → zCm f (o + (53 + 52 * t)) n (C.2.2 t)
theorem zCm.cp {f g : Nat → Int32} {o p n : Nat} {c : Nat → Nat} (h : zCm f o n c) (hn : n ≤ 6) (hg : ∀ j, j < 52 → g (p + j) = f (o + j)) : zCm g p n c := by
  obtain ⟨c0, c4, c10, c16⟩ := h
  exact ⟨fun j hj => by rw [hg _ (by omega)]; exact c0 j hj, fun j hj => by rw [hg _ (by omega)]; exact c4 j hj, fun j hj => by rw [hg _ (by omega)]; exact c10 j hj, fun j hj => by rw [hg _ (by omega)]; exact c16 j hj⟩
def sp_X6_know : zSp := fun b cy as N E P => ∃ (n : Nat) (lo la : Nat → Nat) (C : zCar) (f : Nat → Int32), as = [.ref (b + 159)] ∧ zMR b cy N E n lo la ∧ E 166 = .inl (cy 1, 1719, .inl f) ∧ zCa f 0 n C ∧ C.2.1 ≤ 10 ∧ (∀ E' f', E' 166 = .inl (cy 1, 1719, .inl f') → zCa f' 0 n (C.1, zpushN C.2.1, zpushP C.2.1 C.2.2 C.1) → (∀ j, 573 ≤ j → f' j = f j) → (∀ j, j ≠ 166 → E' j = E j) → P none E')
abbrev rm_X6_know : Room := { frames := 1, cells := 0, slots := 0, locals := 40 }
def B_X6_know_58 (b n0 : Nat) (cy : zY) (P : zPo) (A : Nat → zC) : zC :=
  z_iload 1 (z_const (52) (z_icmp (fun x y => y ≤ x) (z_aload 0 (z_get b n0 6 14 (z_const (52) (z_dup2 (z_ald b n0 (cy 1) (z_const (1) (z_bin (fun x y => x + y) (z_ast b n0 (cy 1) (fun x => x) (z_vret 0 0 P))))))))) (z_aload 0 (z_get b n0 6 14 (z_const (53) (z_const (52) (z_aload 0 (z_get b n0 6 14 (z_const (52) (z_ald b n0 (cy 1) (z_bin (fun x y => x * y) (z_bin (fun x y => x + y) (z_iload 1 (z_bin (fun x y => x + y) (z_aload 0 (z_get b n0 6 14 (z_iload 1 (z_ald b n0 (cy 1) (z_ast b n0 (cy 1) (fun x => x) (z_iinc 1 (1) (z_cut [0, 1] (A 58))))))))))))))))))))))
def B_X6_know_56 (b n0 : Nat) (cy : zY) (P : zPo) (A : Nat → zC) : zC :=
  z_const (0) (z_istore 1 (z_cut [0, 1] (A 58)))
def B_X6_know_14 (b n0 : Nat) (cy : zY) (P : zPo) (A : Nat → zC) : zC :=
  z_iload 1 (z_const (468) (z_icmp (fun x y => y ≤ x) (z_aload 0 (z_get b n0 6 14 (z_const (52) (z_dup2 (z_ald b n0 (cy 1) (z_const (1) (z_bin (fun x y => x - y) (z_ast b n0 (cy 1) (fun x => x) (B_X6_know_56 b n0 cy P A))))))))) (z_aload 0 (z_get b n0 6 14 (z_const (53) (z_iload 1 (z_bin (fun x y => x + y) (z_aload 0 (z_get b n0 6 14 (z_const (105) (z_iload 1 (z_bin (fun x y => x + y) (z_ald b n0 (cy 1) (z_ast b n0 (cy 1) (fun x => x) (z_iinc 1 (1) (z_cut [0, 1] (A 14)))))))))))))))))
def B_X6_know_0 (b n0 : Nat) (cy : zY) (P : zPo) (A : Nat → zC) : zC :=
  z_aload 0 (z_get b n0 6 14 (z_const (52) (z_ald b n0 (cy 1) (z_const (10) (z_icmp (fun x y => x = y) (z_const (0) (z_istore 1 (z_cut [0, 1] (A 14)))) (B_X6_know_56 b n0 cy P A))))))
def zVC_X6_know (sp : zSp) : Prop := ∀ (b : Nat) (cy : zY) (n : Nat) (as : List Value) (E : zE) (P : zPo) (A : Nat → zC), (∀ l st k u E, B_X6_know_14 b n cy P A l st k u E → A 14 l st k u E) → (∀ l st k u E, B_X6_know_58 b n cy P A l st k u E → A 58 l st k u E) → sp b cy as n E P → zgood as 2 ∧ B_X6_know_0 b n cy P A (lv_args 0 as) [] 0 0 E

set_option maxRecDepth 100000 in
set_option maxHeartbeats 4000000 in
theorem vc_X6_know : zVC_X6_know sp_X6_know := by
  intro b cy N as E P A hA14 hA58 hsp
  obtain ⟨n, lo, la, ⟨c, many, past⟩, f, rfl, hR, hE, hC, hm, hP⟩ := hsp
  refine ⟨⟨Nat.le_of_ble_eq_true rfl, zg1 rfl (zg0)⟩, ?_⟩
  replace hm : many ≤ 10 := hm
  obtain ⟨hc0, hc1, hc2⟩ := hC
  replace hc1 : f 52 = nI many := by have := hc1; rwa [Nat.zero_add] at this
  replace hc2 : ∀ t, t < many → zCm f (0 + (53 + 52 * t)) n (past t) := hc2
  replace hc0 : zCm f 0 n c := hc0
  obtain ⟨⟨tr, ty, lt, qq, st, so, va, fa, se, e0⟩, _, _, _, hn, _, hN⟩ := id hR
  have N0 : 159 < N := by omega
  have N6 : 166 < N := by omega
  have k52 : (52 : Int32) = nI 52 := rfl
  have k53 : (53 : Int32) = nI 53 := rfl
  have k105 : (105 : Int32) = nI 105 := rfl
  have in52 : vp_in (nI 52) 1719 := vp_in_nI (by omega) (by omega)
  have cl52 : (nI 52).toNatClampNeg = 52 := nI_clamp (by omega)
  have loop2 : ∀ (m : Nat) (g : Nat → Int32) (p : Nat → Nat → Nat), m < 10 → zCm g 0 n c → g 52 = nI m → (∀ t, t < m → zCm g (0 + (53 + 52 * t)) n (p t)) → (∀ E' f', E' 166 = .inl (cy 1, 1719, .inl f') → zCa f' 0 n (c, m + 1, fun t => if t = m then c else p t) → (∀ j, 573 ≤ j → f' j = g j) → (∀ j, j ≠ 166 → E' j = E j) → P none E') → ∀ (d k : Nat) (g1 : Nat → Int32) (E1 : zE), d + k = 52 → E1 166 = .inl (cy 1, 1719, .inl g1) → (∀ j, j ≠ 166 → E1 j = E j) → (∀ j, j < 53 + 52 * m → g1 j = g j) → (∀ j, j < k → g1 (53 + 52 * m + j) = g j) → (∀ j, 53 + 52 * m + k ≤ j → g1 j = g j) → A 58 [(0, .ref (b + 159)), (1, .int (nI k))] [] 0 0 E1 := by
    intro m g p hm10 hg0 hg52 hgp hP2 d
    induction d with
    | zero =>
      intro k g1 E1 hd h6 hk1 h1 h2 h3
      obtain rfl : k = 52 := by omega
      apply hA58
      have cle : nI 52 ≤ nI 52 := by decide
      have f0 := (hk1 159 (by omega)).trans e0
      have v52 : g1 52 = nI m := (h1 52 (by omega)).trans hg52
      simp -implicitDefEqProofs only [B_X6_know_58, e_cut, e_iload, e_aload, e_istore, e_astore, e_iinc, e_const, e_lconst, e_bin, e_bin0, e_un, e_ladd, e_dupi, e_dupr, e_dup2, e_pop, e_sw, e_sw0, e_sw1, e_get, e_put, e_ald, e_ast, e_aald, e_aast, e_copy, e_new, e_newa, e_anewa, e_min, e_abs, e_oinit, e_callI, e_callV, e_callS, e_iret, e_zret, e_lret, e_vret, e_tl1, e_tl0, e_tl2, e_tl3, z10, Bool.false_eq_true, e_argi, e_argr, e_argn, zld_c, zst_n, zst_c, zpick_n, zpick_c, List.drop_succ_cons, List.drop_zero, List.take_succ_cons, List.take_zero, List.length_cons, List.length_nil, List.reverse_cons, List.reverse_nil, List.nil_append, List.cons_append, List.append_nil, List.getElem?_cons_zero, List.getElem?_cons_succ, List.set_cons_zero, List.set_cons_succ, Nat.add_sub_cancel_left, Nat.sub_self, Nat.add_zero, Nat.zero_add, Nat.le_add_right, Nat.le_refl, true_and, and_true, va_rf, zok, Nat.add_left_cancel_iff, Nat.add_eq_left, Nat.left_eq_add, eq_self, if_true, if_false, not_false_eq_true, not_true_eq_false, false_implies, true_implies, Nat.reduceEqDiff, Nat.reduceAdd, Nat.reduceLT, Nat.reduceLeDiff, reduceIte, e_icmpt (c2 := fun x y => y ≤ x) cle, zM0, f0, h6, N0, N6, k52, in52, cl52, v52, nI_1, e_up]
      refine hP2 _ (upd g1 52 (nI (m + 1))) u_eq ⟨?_, ?_, fun t ht => ?_⟩ (fun j hj => ?_) (fun j hj => (u_ne hj).trans (hk1 j hj))
      · exact hg0.cp hn (fun j hj => by simp only [upd, Nat.zero_add]; rw [if_neg (by omega)]; exact h1 j (by omega))
      · simp [upd]
      · replace ht : t < m + 1 := ht
        by_cases e : t = m
        · simp only [e, if_true]
          exact hg0.cp hn (fun j hj => by simp only [upd, Nat.zero_add]; rw [if_neg (by omega)]; exact h2 j hj)
        · simp only [e, if_false]
          exact (hgp t (by omega)).cp hn (fun j hj => by simp only [upd]; rw [if_neg (by omega)]; exact h1 _ (by omega))
      · simp only [upd]; rw [if_neg (by omega)]; exact h3 j (by omega)
    | succ d ih =>
      intro k g1 E1 hd h6 hk1 h1 h2 h3
      apply hA58
      have cle : ¬ nI 52 ≤ nI k := nI_ge (b := 52) (show k < 52 by omega) (by decide)
      have f0 := (hk1 159 (by omega)).trans e0
      have v52 : g1 52 = nI m := (h1 52 (by omega)).trans hg52
      have hx : nI 53 + nI 52 * nI m + nI k = nI (53 + 52 * m + k) := by rw [pk_mul, nI_add, nI_add]
      have jin : vp_in (nI (53 + 52 * m + k)) 1719 := vp_in_nI (by omega) (by omega)
      have jcl : (nI (53 + 52 * m + k)).toNatClampNeg = 53 + 52 * m + k := nI_clamp (by omega)
      have kin : vp_in (nI k) 1719 := vp_in_nI (by omega) (by omega)
      have kcl : (nI k).toNatClampNeg = k := nI_clamp (by omega)
      simp -implicitDefEqProofs only [B_X6_know_58, e_cut, e_iload, e_aload, e_istore, e_astore, e_iinc, e_const, e_lconst, e_bin, e_bin0, e_un, e_ladd, e_dupi, e_dupr, e_dup2, e_pop, e_sw, e_sw0, e_sw1, e_get, e_put, e_ald, e_ast, e_aald, e_aast, e_copy, e_new, e_newa, e_anewa, e_min, e_abs, e_oinit, e_callI, e_callV, e_callS, e_iret, e_zret, e_lret, e_vret, e_tl1, e_tl0, e_tl2, e_tl3, z10, Bool.false_eq_true, e_argi, e_argr, e_argn, zld_c, zst_n, zst_c, zpick_n, zpick_c, List.drop_succ_cons, List.drop_zero, List.take_succ_cons, List.take_zero, List.length_cons, List.length_nil, List.reverse_cons, List.reverse_nil, List.nil_append, List.cons_append, List.append_nil, List.getElem?_cons_zero, List.getElem?_cons_succ, List.set_cons_zero, List.set_cons_succ, Nat.add_sub_cancel_left, Nat.sub_self, Nat.add_zero, Nat.zero_add, Nat.le_add_right, Nat.le_refl, true_and, and_true, va_rf, zok, Nat.add_left_cancel_iff, Nat.add_eq_left, Nat.left_eq_add, eq_self, if_true, if_false, not_false_eq_true, not_true_eq_false, false_implies, true_implies, Nat.reduceEqDiff, Nat.reduceAdd, Nat.reduceLT, Nat.reduceLeDiff, reduceIte, e_icmpf (c2 := fun x y => y ≤ x) cle, zM0, f0, h6, N0, N6, k52, k53, in52, cl52, v52, hx, jin, jcl, kin, kcl, nI_1]
      refine ih (k + 1) (upd g1 (53 + 52 * m + k) (g1 k)) _ (by omega) u_eq (fun j hj => (u_ne hj).trans (hk1 j hj)) (fun j hj => ?_) (fun j hj => ?_) (fun j hj => ?_)
      · simp only [upd]; rw [if_neg (by omega)]; exact h1 j hj
      · simp only [upd]
        by_cases e : j = k
        · rw [if_pos (by omega), e]; exact h1 k (by omega)
        · rw [if_neg (by omega)]; exact h2 j (by omega)
      · simp only [upd]; rw [if_neg (by omega)]; exact h3 j (by omega)
  have loop1 : many = 10 → ∀ (d k : Nat) (g1 : Nat → Int32) (E1 : zE), d + k = 468 → E1 166 = .inl (cy 1, 1719, .inl g1) → (∀ j, j ≠ 166 → E1 j = E j) → (∀ j, j < 53 → g1 j = f j) → (∀ j, 53 ≤ j → j < 53 + k → g1 j = f (j + 52)) → (∀ j, 53 + k ≤ j → g1 j = f j) → A 14 [(0, .ref (b + 159)), (1, .int (nI k))] [] 0 0 E1 := by
    intro hten d
    subst hten
    induction d with
    | zero =>
      intro k g1 E1 hd h6 hk1 h1 h2 h3
      obtain rfl : k = 468 := by omega
      apply hA14
      have cle : (468 : Int32) ≤ nI 468 := by decide
      have f0 := (hk1 159 (by omega)).trans e0
      have v52 : g1 52 = nI 10 := (h1 52 (by omega)).trans hc1
      have s9 : nI 10 - 1 = nI 9 := by decide
      simp -implicitDefEqProofs only [B_X6_know_14, B_X6_know_56, e_cut, e_iload, e_aload, e_istore, e_astore, e_iinc, e_const, e_lconst, e_bin, e_bin0, e_un, e_ladd, e_dupi, e_dupr, e_dup2, e_pop, e_sw, e_sw0, e_sw1, e_get, e_put, e_ald, e_ast, e_aald, e_aast, e_copy, e_new, e_newa, e_anewa, e_min, e_abs, e_oinit, e_callI, e_callV, e_callS, e_iret, e_zret, e_lret, e_vret, e_tl1, e_tl0, e_tl2, e_tl3, z10, Bool.false_eq_true, e_argi, e_argr, e_argn, zld_c, zst_n, zst_c, zpick_n, zpick_c, List.drop_succ_cons, List.drop_zero, List.take_succ_cons, List.take_zero, List.length_cons, List.length_nil, List.reverse_cons, List.reverse_nil, List.nil_append, List.cons_append, List.append_nil, List.getElem?_cons_zero, List.getElem?_cons_succ, List.set_cons_zero, List.set_cons_succ, Nat.add_sub_cancel_left, Nat.sub_self, Nat.add_zero, Nat.zero_add, Nat.le_add_right, Nat.le_refl, true_and, and_true, va_rf, zok, Nat.add_left_cancel_iff, Nat.add_eq_left, Nat.left_eq_add, eq_self, if_true, if_false, not_false_eq_true, not_true_eq_false, false_implies, true_implies, Nat.reduceEqDiff, Nat.reduceAdd, Nat.reduceLT, Nat.reduceLeDiff, reduceIte, e_icmpt (c2 := fun x y => y ≤ x) cle, zM0, f0, h6, N0, N6, k52, in52, cl52, v52, s9]
      refine loop2 9 (upd g1 52 (nI 9)) (fun t => past (t + 1)) (by omega) (hc0.cp hn (fun j hj => by simp only [upd, Nat.zero_add]; rw [if_neg (by omega)]; exact h1 j (by omega))) (by simp [upd]) (fun t ht => (hc2 (t + 1) (by omega)).cp hn (fun j hj => ?_)) (fun E' f' q6 qC q5 qk => hP E' f' q6 qC (fun j hj => (q5 j hj).trans (by simp only [upd]; rw [if_neg (by omega)]; exact h3 j (by omega))) qk) 52 0 _ _ rfl u_eq (fun j hj => (u_ne hj).trans (hk1 j hj)) (fun _ _ => rfl) (fun j hj => absurd hj (Nat.not_lt_zero _)) (fun _ _ => rfl)
      simp only [upd, Nat.zero_add]
      rw [if_neg (by omega), h2 _ (by omega) (by omega)]
      congr 1; omega
    | succ d ih =>
      intro k g1 E1 hd h6 hk1 h1 h2 h3
      apply hA14
      have cle : ¬ (468 : Int32) ≤ nI k := nI_ge (b := 468) (show k < 468 by omega) (by decide)
      have f0 := (hk1 159 (by omega)).trans e0
      have jin : vp_in (nI (53 + k)) 1719 := vp_in_nI (by omega) (by omega)
      have jcl : (nI (53 + k)).toNatClampNeg = 53 + k := nI_clamp (by omega)
      have kin : vp_in (nI (105 + k)) 1719 := vp_in_nI (by omega) (by omega)
      have kcl : (nI (105 + k)).toNatClampNeg = 105 + k := nI_clamp (by omega)
      simp -implicitDefEqProofs only [B_X6_know_14, e_cut, e_iload, e_aload, e_istore, e_astore, e_iinc, e_const, e_lconst, e_bin, e_bin0, e_un, e_ladd, e_dupi, e_dupr, e_dup2, e_pop, e_sw, e_sw0, e_sw1, e_get, e_put, e_ald, e_ast, e_aald, e_aast, e_copy, e_new, e_newa, e_anewa, e_min, e_abs, e_oinit, e_callI, e_callV, e_callS, e_iret, e_zret, e_lret, e_vret, e_tl1, e_tl0, e_tl2, e_tl3, z10, Bool.false_eq_true, e_argi, e_argr, e_argn, zld_c, zst_n, zst_c, zpick_n, zpick_c, List.drop_succ_cons, List.drop_zero, List.take_succ_cons, List.take_zero, List.length_cons, List.length_nil, List.reverse_cons, List.reverse_nil, List.nil_append, List.cons_append, List.append_nil, List.getElem?_cons_zero, List.getElem?_cons_succ, List.set_cons_zero, List.set_cons_succ, Nat.add_sub_cancel_left, Nat.sub_self, Nat.add_zero, Nat.zero_add, Nat.le_add_right, Nat.le_refl, true_and, and_true, va_rf, zok, Nat.add_left_cancel_iff, Nat.add_eq_left, Nat.left_eq_add, eq_self, if_true, if_false, not_false_eq_true, not_true_eq_false, false_implies, true_implies, Nat.reduceEqDiff, Nat.reduceAdd, Nat.reduceLT, Nat.reduceLeDiff, reduceIte, e_icmpf (c2 := fun x y => y ≤ x) cle, zM0, f0, h6, N0, N6, k53, k105, nI_add, jin, jcl, kin, kcl, nI_1]
      refine ih (k + 1) (upd g1 (53 + k) (g1 (105 + k))) _ (by omega) u_eq (fun j hj => (u_ne hj).trans (hk1 j hj)) (fun j hj => ?_) (fun j hj hj2 => ?_) (fun j hj => ?_)
      · simp only [upd]; rw [if_neg (by omega)]; exact h1 j hj
      · simp only [upd]
        by_cases e : j = 53 + k
        · rw [if_pos e, h3 _ (by omega), e]; congr 1; omega
        · rw [if_neg e]; exact h2 j hj (by omega)
      · simp only [upd]; rw [if_neg (by omega)]; exact h3 j (by omega)
  have k10 : (nI many = 10) = (many = 10) := nI_lit (n := 10) (x := 10) rfl (by omega) (by omega)
  simp -implicitDefEqProofs only [B_X6_know_0, B_X6_know_56, e_cut, e_iload, e_aload, e_istore, e_astore, e_iinc, e_const, e_lconst, e_bin, e_bin0, e_un, e_ladd, e_dupi, e_dupr, e_dup2, e_pop, e_if, e_icmp, e_sw, e_sw0, e_sw1, e_get, e_put, e_ald, e_ast, e_aald, e_aast, e_copy, e_new, e_newa, e_anewa, e_min, e_abs, e_oinit, e_callI, e_callV, e_callS, e_iret, e_zret, e_lret, e_vret, e_tl1, e_tl0, e_tl2, e_tl3, z10, Bool.false_eq_true, e_argi, e_argr, e_argn, zld_c, zst_n, zst_c, zpick_n, zpick_c, List.drop_succ_cons, List.drop_zero, List.take_succ_cons, List.take_zero, List.length_cons, List.length_nil, List.reverse_cons, List.reverse_nil, List.nil_append, List.cons_append, List.append_nil, List.getElem?_cons_zero, List.getElem?_cons_succ, List.set_cons_zero, List.set_cons_succ, Nat.add_sub_cancel_left, Nat.sub_self, Nat.add_zero, Nat.zero_add, Nat.le_add_right, Nat.le_refl, true_and, and_true, va_rf, zok, Nat.add_left_cancel_iff, Nat.add_eq_left, Nat.left_eq_add, eq_self, if_true, if_false, not_false_eq_true, not_true_eq_false, false_implies, true_implies, Nat.reduceEqDiff, Nat.reduceAdd, Nat.reduceLT, Nat.reduceLeDiff, reduceIte, zM0, e0, hE, N0, N6, k52, in52, cl52, hc1, k10]
  refine ⟨fun c1 => ?_, fun c1 => ?_⟩
  · exact loop1 c1 468 0 f E rfl hE (fun _ _ => rfl) (fun _ _ => rfl) (fun j h1 h2 => absurd h2 (by omega)) (fun _ _ => rfl)
  · have hlt : many < 10 := by omega
    refine loop2 many f past hlt hc0 hc1 hc2 (fun E' f' q6 qC q5 qk => hP E' f' q6 ?_ q5 qk) 52 0 f E rfl hE (fun _ _ => rfl) (fun _ _ => rfl) (fun j hj => absurd hj (Nat.not_lt_zero _)) (fun _ _ => rfl)
    have e1 : zpushN many = many + 1 := if_pos hlt
    have e2 : zpushP many past c = (fun t => if t = many then c else past t) := by funext t; unfold zpushP; rw [if_pos hlt]
    show zCa f' 0 n (c, zpushN many, zpushP many past c)
    rw [e1, e2]; exact qC
set_option maxRecDepth 20000 in
theorem f_X6_know_29 : Cond.fieldLink RX6 29 (TX6 14).1 (TX6 14).2.1 (TX6 14).2.2.1 ∈ wsX6_know := by decide +kernel
set_option maxRecDepth 20000 in
theorem k_X6_know_6 : ∀ w ∈ u_ws RX6 TX6 21, w ∈ wsX6_know := fun _ h => List.mem_cons_of_mem _ (List.mem_append_right _ h)
set_option maxRecDepth 100000 in
set_option maxHeartbeats 4000000 in
theorem S_X6_know_58 {p : Program} {e : Env} {s : State} {m : MethodId} {args : Array Value} {below : List Frame} {meth : Method} {c : Code} {D : va_G} {cy : zY} {b n0 : Nat} {P : zPo} (la : Launch) (X : zX p la e (rm_X6_know) s m args below meth c 2 D cy b n0 cX6_know wsX6_know RX6) (hr : meth.sig.returnType = none) : zS p la e (rm_X6_know) s m args below meth c (MQ below (zQ D b (n0 + 0) P) args s 0 0 (fun q => b ≤ q)) 2 D b n0 58 (B_X6_know_58 b n0 cy P (zAt p la e (rm_X6_know) s m args below meth c (MQ below (zQ D b (n0 + 0) P) args s 0 0 (fun q => b ≤ q)) 2 D b n0)) := by
  unfold B_X6_know_58
  exact (s_iload_n X dX6_know_58 rfl (s_bipush X dX6_know_59 (by decide) (s_icmp_ge X dX6_know_61 (by decide) (s_aload_n X dX6_know_96 rfl (s_get X dX6_know_97 rfl k_X6_know_6 (by decide) f_X6_know_29 (s_bipush X dX6_know_100 (by decide) (s_dup2 X dX6_know_102 (s_iald X dX6_know_103 (s_iconst X dX6_know_104 (by decide) (s_iadd X dX6_know_105 (s_iast X dX6_know_106 (s_vret X dX6_know_107 hr))))))))) (s_aload_n X dX6_know_64 rfl (s_get X dX6_know_65 rfl k_X6_know_6 (by decide) f_X6_know_29 (s_bipush X dX6_know_68 (by decide) (s_bipush X dX6_know_70 (by decide) (s_aload_n X dX6_know_72 rfl (s_get X dX6_know_73 rfl k_X6_know_6 (by decide) f_X6_know_29 (s_bipush X dX6_know_76 (by decide) (s_iald X dX6_know_78 (s_imul X dX6_know_79 (s_iadd X dX6_know_80 (s_iload_n X dX6_know_81 rfl (s_iadd X dX6_know_82 (s_aload_n X dX6_know_83 rfl (s_get X dX6_know_84 rfl k_X6_know_6 (by decide) f_X6_know_29 (s_iload_n X dX6_know_87 rfl (s_iald X dX6_know_88 (s_iast X dX6_know_89 (s_iinc X dX6_know_90 (by decide) (by decide) (s_goto X dX6_know_93 (by decide) (s_cut (by decide) zS_at)))))))))))))))))))))))
set_option maxRecDepth 100000 in
set_option maxHeartbeats 4000000 in
theorem S_X6_know_56 {p : Program} {e : Env} {s : State} {m : MethodId} {args : Array Value} {below : List Frame} {meth : Method} {c : Code} {D : va_G} {cy : zY} {b n0 : Nat} {P : zPo} (la : Launch) (X : zX p la e (rm_X6_know) s m args below meth c 2 D cy b n0 cX6_know wsX6_know RX6) (hr : meth.sig.returnType = none) : zS p la e (rm_X6_know) s m args below meth c (MQ below (zQ D b (n0 + 0) P) args s 0 0 (fun q => b ≤ q)) 2 D b n0 56 (B_X6_know_56 b n0 cy P (zAt p la e (rm_X6_know) s m args below meth c (MQ below (zQ D b (n0 + 0) P) args s 0 0 (fun q => b ≤ q)) 2 D b n0)) := by
  unfold B_X6_know_56
  exact (s_iconst X dX6_know_56 (by decide) (s_istore_n X dX6_know_57 rfl (by decide) (s_cut (by decide) zS_at)))
set_option maxRecDepth 100000 in
set_option maxHeartbeats 4000000 in
theorem S_X6_know_14 {p : Program} {e : Env} {s : State} {m : MethodId} {args : Array Value} {below : List Frame} {meth : Method} {c : Code} {D : va_G} {cy : zY} {b n0 : Nat} {P : zPo} (la : Launch) (X : zX p la e (rm_X6_know) s m args below meth c 2 D cy b n0 cX6_know wsX6_know RX6) (hr : meth.sig.returnType = none) : zS p la e (rm_X6_know) s m args below meth c (MQ below (zQ D b (n0 + 0) P) args s 0 0 (fun q => b ≤ q)) 2 D b n0 14 (B_X6_know_14 b n0 cy P (zAt p la e (rm_X6_know) s m args below meth c (MQ below (zQ D b (n0 + 0) P) args s 0 0 (fun q => b ≤ q)) 2 D b n0)) := by
  unfold B_X6_know_14
  exact (s_iload_n X dX6_know_14 rfl (s_sipush X dX6_know_15 (by decide) (s_icmp_ge X dX6_know_18 (by decide) (s_aload_n X dX6_know_45 rfl (s_get X dX6_know_46 rfl k_X6_know_6 (by decide) f_X6_know_29 (s_bipush X dX6_know_49 (by decide) (s_dup2 X dX6_know_51 (s_iald X dX6_know_52 (s_iconst X dX6_know_53 (by decide) (s_isub X dX6_know_54 (s_iast X dX6_know_55 (S_X6_know_56 la X hr))))))))) (s_aload_n X dX6_know_21 rfl (s_get X dX6_know_22 rfl k_X6_know_6 (by decide) f_X6_know_29 (s_bipush X dX6_know_25 (by decide) (s_iload_n X dX6_know_27 rfl (s_iadd X dX6_know_28 (s_aload_n X dX6_know_29 rfl (s_get X dX6_know_30 rfl k_X6_know_6 (by decide) f_X6_know_29 (s_bipush X dX6_know_33 (by decide) (s_iload_n X dX6_know_35 rfl (s_iadd X dX6_know_36 (s_iald X dX6_know_37 (s_iast X dX6_know_38 (s_iinc X dX6_know_39 (by decide) (by decide) (s_goto X dX6_know_42 (by decide) (s_cut (by decide) zS_at))))))))))))))))))
set_option maxRecDepth 100000 in
set_option maxHeartbeats 4000000 in
theorem S_X6_know_0 {p : Program} {e : Env} {s : State} {m : MethodId} {args : Array Value} {below : List Frame} {meth : Method} {c : Code} {D : va_G} {cy : zY} {b n0 : Nat} {P : zPo} (la : Launch) (X : zX p la e (rm_X6_know) s m args below meth c 2 D cy b n0 cX6_know wsX6_know RX6) (hr : meth.sig.returnType = none) : zS p la e (rm_X6_know) s m args below meth c (MQ below (zQ D b (n0 + 0) P) args s 0 0 (fun q => b ≤ q)) 2 D b n0 0 (B_X6_know_0 b n0 cy P (zAt p la e (rm_X6_know) s m args below meth c (MQ below (zQ D b (n0 + 0) P) args s 0 0 (fun q => b ≤ q)) 2 D b n0)) := by
  unfold B_X6_know_0
  exact (s_aload_n X dX6_know_0 rfl (s_get X dX6_know_1 rfl k_X6_know_6 (by decide) f_X6_know_29 (s_bipush X dX6_know_4 (by decide) (s_iald X dX6_know_6 (s_bipush X dX6_know_7 (by decide) (s_icmp_ne X dX6_know_9 (by decide) (S_X6_know_56 la X hr) (s_iconst X dX6_know_12 (by decide) (s_istore_n X dX6_know_13 rfl (by decide) (s_cut (by decide) zS_at)))))))))
theorem w_X6_know (la : Launch) (sp : zSp) (vc : zVC_X6_know sp) : zMet la yX6_know wsX6_know (rm_X6_know) 0 0 sp :=
  z_of (cc := cX6_know) (maxL := 2) (ret := none) (by decide +kernel) rfl (fun p e s m args below meth c D cy b n as E P hsp X hr hin => by
    obtain ⟨h1, h2⟩ := vc b cy n as E P (zAt p la e (rm_X6_know) s m args below meth c (MQ below (zQ D b (n + 0) P) args s 0 0 (fun q => b ≤ q)) 2 D b n) (fun _ _ _ _ _ q => S_X6_know_14 la X hr _ _ _ _ _ q) (fun _ _ _ _ _ q => S_X6_know_58 la X hr _ _ _ _ _ q) hsp
    exact ⟨h1, S_X6_know_0 la X hr _ _ _ _ _ h2⟩)

theorem m_X6_know (la : Launch) : zMet la yX6_know wsX6_know rm_X6_know 0 0 sp_X6_know := w_X6_know la _ vc_X6_know

