/-! writes of the other one -/
def zWr (cy : zY) (E : zE) (i L n : Nat) (f : Nat → Int32) (c : Nat → Nat) : Prop := 52 ≤ L ∧ L ≤ 1719 ∧ E i = .inl (cy 1, L, .inl f) ∧ zCm f 0 n c
theorem zWr.ar {cy : zY} {E : zE} {i L n : Nat} {f : Nat → Int32} {c : Nat → Nat} (h : zWr cy E i L n f c) : zAr cy E i n c := ⟨L, f, h.1, h.2.1, h.2.2.1, h.2.2.2⟩
def sp_X6_think : zSp := fun b cy as N E P => ∃ (i L n r q : Nat) (f : Nat → Int32) (c : Nat → Nat), as = [.ref (b + i), .int (nI r), .int (nI q)] ∧ zWr cy E i L n f c ∧ i < N ∧ n ≤ 6 ∧ r < 6 ∧ q < 6 ∧ (∀ E' f', zWr cy E' i L n f' (zthink c r q) → (∀ j, 52 ≤ j → f' j = f j) → (∀ j, j ≠ i → E' j = E j) → P none E')
abbrev rm_X6_think : Room := { frames := 1, cells := 0, slots := 0, locals := 40 }
def B_X6_think_0 (b n0 : Nat) (cy : zY) (P : zPo) (A : Nat → zC) : zC :=
  z_aload 0 (z_const (2) (z_dup2 (z_ald b n0 (cy 1) (z_const (1) (z_bin (fun x y => x + y) (z_ast b n0 (cy 1) (fun x => x) (z_aload 0 (z_const (16) (z_const (6) (z_iload 1 (z_bin (fun x y => x * y) (z_bin (fun x y => x + y) (z_iload 2 (z_bin (fun x y => x + y) (z_aload 0 (z_const (2) (z_ald b n0 (cy 1) (z_ast b n0 (cy 1) (fun x => x) (z_vret 0 0 P)))))))))))))))))))
def zVC_X6_think (sp : zSp) : Prop := ∀ (b : Nat) (cy : zY) (n : Nat) (as : List Value) (E : zE) (P : zPo) (A : Nat → zC), sp b cy as n E P → zgood as 3 ∧ B_X6_think_0 b n cy P A (lv_args 0 as) [] 0 0 E

set_option maxRecDepth 100000 in
set_option maxHeartbeats 4000000 in
theorem vc_X6_think : zVC_X6_think sp_X6_think := by
  intro b cy N as E P A hsp
  obtain ⟨i, L, n, r, q, f, c, rfl, ⟨hL, hL2, hE, hc⟩, hi, hn, hr, hq, hP⟩ := hsp
  refine ⟨⟨Nat.le_of_ble_eq_true rfl, zg1 rfl (zg1 rfl (zg1 rfl (zg0)))⟩, ?_⟩
  obtain ⟨c0, c4, c10, c16⟩ := zCm0 hc
  have hin2 : vp_in 2 L := (vp_in_nI (show 2 < L by omega) (by omega) : vp_in (nI 2) L)
  have hcl2 : (2 : Int32).toNatClampNeg = 2 := by decide
  have jin : vp_in (nI (16 + 6 * r + q)) L := vp_in_nI (by omega) (by omega)
  have jcl : (nI (16 + 6 * r + q)).toNatClampNeg = 16 + 6 * r + q := nI_clamp (by omega)
  have k16 : (16 : Int32) = nI 16 := rfl
  have k6 : (6 : Int32) = nI 6 := rfl
  have v2 : f 2 = nI (c 2) := c0 2 (by omega)
  simp -implicitDefEqProofs only [B_X6_think_0, e_cut, e_iload, e_aload, e_istore, e_astore, e_iinc, e_const, e_lconst, e_bin, e_bin0, e_un, e_ladd, e_dupi, e_dupr, e_dup2, e_pop, e_if, e_icmp, e_sw, e_sw0, e_sw1, e_get, e_put, e_ald, e_ast, e_aald, e_aast, e_copy, e_new, e_newa, e_anewa, e_min, e_abs, e_oinit, e_callI, e_callV, e_callS, e_iret, e_zret, e_lret, e_vret, e_tl1, e_tl0, e_tl2, e_tl3, z10, Bool.false_eq_true, e_argi, e_argr, e_argn, zld_c, zst_n, zst_c, zpick_n, zpick_c, List.drop_succ_cons, List.drop_zero, List.take_succ_cons, List.take_zero, List.length_cons, List.length_nil, List.reverse_cons, List.reverse_nil, List.nil_append, List.cons_append, List.append_nil, List.getElem?_cons_zero, List.getElem?_cons_succ, List.set_cons_zero, List.set_cons_succ, Nat.add_sub_cancel_left, Nat.sub_self, Nat.add_zero, Nat.zero_add, Nat.le_add_right, Nat.le_refl, true_and, and_true, va_rf, zok, Nat.add_left_cancel_iff, Nat.add_eq_left, Nat.left_eq_add, eq_self, if_true, if_false, not_false_eq_true, not_true_eq_false, false_implies, true_implies, Nat.reduceEqDiff, Nat.reduceAdd, Nat.reduceLT, Nat.reduceLeDiff, reduceIte, hE, hi, hin2, hcl2, v2, nI_1, k16, k6, zix6, e_up, jin, jcl]
  refine hP _ (upd (upd f 2 (nI (c 2 + 1))) (16 + 6 * r + q) (nI (c 2 + 1))) ⟨hL, hL2, ?_, ⟨?_, ?_, ?_, ?_⟩⟩ ?_ ?_
  · simp [va_up, upd]
  · intro j hj
    simp only [upd, Nat.zero_add]
    rw [if_neg (by omega)]
    by_cases e : j = 2
    · rw [if_pos e, e, zthink_2]
    · rw [if_neg e, zthink_lo (by omega) e]; exact c0 j hj
  · intro j hj
    simp only [upd, Nat.zero_add]
    rw [if_neg (by omega), if_neg (by omega), zthink_lo (by omega) (by omega)]; exact c4 j hj
  · intro j hj
    simp only [upd, Nat.zero_add]
    rw [if_neg (by omega), if_neg (by omega), zthink_lo (by omega) (by omega)]; exact c10 j hj
  · intro j hj
    simp only [upd, Nat.zero_add]
    rw [zthink_hi]
    by_cases e : j = 6 * r + q
    · rw [if_pos (by omega), if_pos e]
    · rw [if_neg (by omega), if_neg (by omega), if_neg e]; exact c16 j hj
  · intro j hj
    simp only [upd]; rw [if_neg (by omega), if_neg (by omega)]
  · intro j hj
    simp only [e_up]; rw [if_neg hj, if_neg hj]
set_option maxRecDepth 100000 in
set_option maxHeartbeats 4000000 in
theorem S_X6_think_0 {p : Program} {e : Env} {s : State} {m : MethodId} {args : Array Value} {below : List Frame} {meth : Method} {c : Code} {D : va_G} {cy : zY} {b n0 : Nat} {P : zPo} (la : Launch) (X : zX p la e (rm_X6_think) s m args below meth c 3 D cy b n0 cX6_think wsX6_think RX6) (hr : meth.sig.returnType = none) : zS p la e (rm_X6_think) s m args below meth c (MQ below (zQ D b (n0 + 0) P) args s 0 0 (fun q => b ≤ q)) 3 D b n0 0 (B_X6_think_0 b n0 cy P (zAt p la e (rm_X6_think) s m args below meth c (MQ below (zQ D b (n0 + 0) P) args s 0 0 (fun q => b ≤ q)) 3 D b n0)) := by
  unfold B_X6_think_0
  exact (s_aload_n X dX6_think_0 rfl (s_iconst X dX6_think_1 (by decide) (s_dup2 X dX6_think_2 (s_iald X dX6_think_3 (s_iconst X dX6_think_4 (by decide) (s_iadd X dX6_think_5 (s_iast X dX6_think_6 (s_aload_n X dX6_think_7 rfl (s_bipush X dX6_think_8 (by decide) (s_bipush X dX6_think_10 (by decide) (s_iload_n X dX6_think_12 rfl (s_imul X dX6_think_13 (s_iadd X dX6_think_14 (s_iload_n X dX6_think_15 rfl (s_iadd X dX6_think_16 (s_aload_n X dX6_think_17 rfl (s_iconst X dX6_think_18 (by decide) (s_iald X dX6_think_19 (s_iast X dX6_think_20 (s_vret X dX6_think_21 hr))))))))))))))))))))
theorem w_X6_think (la : Launch) (sp : zSp) (vc : zVC_X6_think sp) : zMet la yX6_think wsX6_think (rm_X6_think) 0 0 sp :=
  z_of (cc := cX6_think) (maxL := 3) (ret := none) (by decide +kernel) rfl (fun p e s m args below meth c D cy b n as E P hsp X hr hin => by
    obtain ⟨h1, h2⟩ := vc b cy n as E P (zAt p la e (rm_X6_think) s m args below meth c (MQ below (zQ D b (n + 0) P) args s 0 0 (fun q => b ≤ q)) 3 D b n) hsp
    exact ⟨h1, S_X6_think_0 la X hr _ _ _ _ _ h2⟩)

theorem m_X6_think (la : Launch) : zMet la yX6_think wsX6_think rm_X6_think 0 0 sp_X6_think := w_X6_think la _ vc_X6_think
def sp_X6_take : zSp := fun b cy as N E P => ∃ (n L : Nat) (lo la c : Nat → Nat) (f h : Nat → Int32), as = [.ref (b + 159)] ∧ zMR b cy N E n lo la ∧ zWr cy E 166 L n f c ∧ E 168 = .inl (cy 1, 52, .inl h) ∧ (∀ E' f', zWr cy E' 168 52 n f' c → (∀ j, j ≠ 168 → E' j = E j) → P none E')
abbrev rm_X6_take : Room := { frames := 1, cells := 0, slots := 0, locals := 40 }
def B_X6_take_2 (b n0 : Nat) (cy : zY) (P : zPo) (A : Nat → zC) : zC :=
  z_iload 1 (z_const (52) (z_icmp (fun x y => y ≤ x) (z_vret 0 0 P) (z_aload 0 (z_get b n0 6 16 (z_iload 1 (z_aload 0 (z_get b n0 6 14 (z_iload 1 (z_ald b n0 (cy 1) (z_ast b n0 (cy 1) (fun x => x) (z_iinc 1 (1) (z_cut [0, 1] (A 2)))))))))))))
def B_X6_take_0 (b n0 : Nat) (cy : zY) (P : zPo) (A : Nat → zC) : zC :=
  z_const (0) (z_istore 1 (z_cut [0, 1] (A 2)))
def zVC_X6_take (sp : zSp) : Prop := ∀ (b : Nat) (cy : zY) (n : Nat) (as : List Value) (E : zE) (P : zPo) (A : Nat → zC), (∀ l st k u E, B_X6_take_2 b n cy P A l st k u E → A 2 l st k u E) → sp b cy as n E P → zgood as 2 ∧ B_X6_take_0 b n cy P A (lv_args 0 as) [] 0 0 E

set_option maxRecDepth 100000 in
set_option maxHeartbeats 4000000 in
theorem vc_X6_take : zVC_X6_take sp_X6_take := by
  intro b cy N as E P A hA hsp
  obtain ⟨n, L, lo, la, c, f, h, rfl, hR, ⟨hL, hL2, hE, hc⟩, hh, hP⟩ := hsp
  refine ⟨⟨Nat.le_of_ble_eq_true rfl, zg1 rfl (zg0)⟩, ?_⟩
  obtain ⟨⟨tr, ty, lt, qq, st, so, va, fa, se, e0⟩, _, _, _, hn, _, hN⟩ := id hR
  have N0 : 159 < N := by omega
  have N6 : 166 < N := by omega
  have N8 : 168 < N := by omega
  have loop : ∀ (d k : Nat) (g : Nat → Int32) (E1 : zE), d + k = 52 → (∀ j, j < k → g j = f j) → E1 168 = .inl (cy 1, 52, .inl g) → (∀ j, j ≠ 168 → E1 j = E j) → A 2 [(0, .ref (b + 159)), (1, .int (nI k))] [] 0 0 E1 := by
    intro d
    induction d with
    | zero =>
      intro k g E1 hd hg g1 gk
      obtain rfl : k = 52 := by omega
      apply hA
      have cle : (52 : Int32) ≤ nI 52 := by decide
      simp -implicitDefEqProofs only [B_X6_take_2, e_cut, e_iload, e_aload, e_istore, e_astore, e_iinc, e_const, e_lconst, e_bin, e_bin0, e_un, e_ladd, e_dupi, e_dupr, e_dup2, e_pop, e_sw, e_sw0, e_sw1, e_get, e_put, e_ald, e_ast, e_aald, e_aast, e_copy, e_new, e_newa, e_anewa, e_min, e_abs, e_oinit, e_callI, e_callV, e_callS, e_iret, e_zret, e_lret, e_vret, e_tl1, e_tl0, e_tl2, e_tl3, z10, Bool.false_eq_true, e_argi, e_argr, e_argn, zld_c, zst_n, zst_c, zpick_n, zpick_c, List.drop_succ_cons, List.drop_zero, List.take_succ_cons, List.take_zero, List.length_cons, List.length_nil, List.reverse_cons, List.reverse_nil, List.nil_append, List.cons_append, List.append_nil, List.getElem?_cons_zero, List.getElem?_cons_succ, List.set_cons_zero, List.set_cons_succ, Nat.add_sub_cancel_left, Nat.sub_self, Nat.add_zero, Nat.zero_add, Nat.le_add_right, Nat.le_refl, true_and, and_true, va_rf, zok, Nat.add_left_cancel_iff, Nat.add_eq_left, Nat.left_eq_add, eq_self, if_true, if_false, not_false_eq_true, not_true_eq_false, false_implies, true_implies, Nat.reduceEqDiff, Nat.reduceAdd, Nat.reduceLT, Nat.reduceLeDiff, reduceIte, e_icmpt (c2 := fun x y => y ≤ x) cle]
      obtain ⟨c0, c4, c10, c16⟩ := zCm0 hc
      refine hP E1 g ⟨by omega, by omega, g1, ⟨?_, ?_, ?_, ?_⟩⟩ gk
      · intro j hj; rw [Nat.zero_add, hg _ (by omega)]; exact c0 j hj
      · intro j hj; rw [Nat.zero_add, hg _ (by omega)]; exact c4 j hj
      · intro j hj; rw [Nat.zero_add, hg _ (by omega)]; exact c10 j hj
      · intro j hj; rw [Nat.zero_add, hg _ (by omega)]; exact c16 j hj
    | succ d ih =>
      intro k g E1 hd hg g1 gk
      apply hA
      have cle : ¬ (52 : Int32) ≤ nI k := nI_ge (b := 52) (show k < 52 by omega) (by decide)
      have hin : vp_in (nI k) 52 := vp_in_nI (by omega) (by omega)
      have hin2 : vp_in (nI k) L := vp_in_nI (by omega) (by omega)
      have hcl : (nI k).toNatClampNeg = k := nI_clamp (by omega)
      have f0 := (gk 159 (by omega)).trans e0
      have f6 := (gk 166 (by omega)).trans hE
      simp -implicitDefEqProofs only [B_X6_take_2, e_cut, e_iload, e_aload, e_istore, e_astore, e_iinc, e_const, e_lconst, e_bin, e_bin0, e_un, e_ladd, e_dupi, e_dupr, e_dup2, e_pop, e_sw, e_sw0, e_sw1, e_get, e_put, e_ald, e_ast, e_aald, e_aast, e_copy, e_new, e_newa, e_anewa, e_min, e_abs, e_oinit, e_callI, e_callV, e_callS, e_iret, e_zret, e_lret, e_vret, e_tl1, e_tl0, e_tl2, e_tl3, z10, Bool.false_eq_true, e_argi, e_argr, e_argn, zld_c, zst_n, zst_c, zpick_n, zpick_c, List.drop_succ_cons, List.drop_zero, List.take_succ_cons, List.take_zero, List.length_cons, List.length_nil, List.reverse_cons, List.reverse_nil, List.nil_append, List.cons_append, List.append_nil, List.getElem?_cons_zero, List.getElem?_cons_succ, List.set_cons_zero, List.set_cons_succ, Nat.add_sub_cancel_left, Nat.sub_self, Nat.add_zero, Nat.zero_add, Nat.le_add_right, Nat.le_refl, true_and, and_true, va_rf, zok, Nat.add_left_cancel_iff, Nat.add_eq_left, Nat.left_eq_add, eq_self, if_true, if_false, not_false_eq_true, not_true_eq_false, false_implies, true_implies, Nat.reduceEqDiff, Nat.reduceAdd, Nat.reduceLT, Nat.reduceLeDiff, reduceIte, e_icmpf (c2 := fun x y => y ≤ x) cle, zM0, f0, f6, g1, N0, N6, N8, hin, hin2, hcl, nI_1]
      refine ih (k + 1) (upd g k (f k)) _ (by omega) (fun j hj => ?_) u_eq (fun j hj => (u_ne hj).trans (gk j hj))
      simp only [upd]
      by_cases e : j = k
      · rw [if_pos e, e]
      · rw [if_neg e]; exact hg j (by omega)
  simp -implicitDefEqProofs only [B_X6_take_0, e_cut, e_iload, e_aload, e_istore, e_astore, e_iinc, e_const, e_lconst, e_bin, e_bin0, e_un, e_ladd, e_dupi, e_dupr, e_dup2, e_pop, e_sw, e_sw0, e_sw1, e_get, e_put, e_ald, e_ast, e_aald, e_aast, e_copy, e_new, e_newa, e_anewa, e_min, e_abs, e_oinit, e_callI, e_callV, e_callS, e_iret, e_zret, e_lret, e_vret, e_tl1, e_tl0, e_tl2, e_tl3, z10, Bool.false_eq_true, e_argi, e_argr, e_argn, zld_c, zst_n, zst_c, zpick_n, zpick_c, List.drop_succ_cons, List.drop_zero, List.take_succ_cons, List.take_zero, List.length_cons, List.length_nil, List.reverse_cons, List.reverse_nil, List.nil_append, List.cons_append, List.append_nil, List.getElem?_cons_zero, List.getElem?_cons_succ, List.set_cons_zero, List.set_cons_succ, Nat.add_sub_cancel_left, Nat.sub_self, Nat.add_zero, Nat.zero_add, Nat.le_add_right, Nat.le_refl, true_and, and_true, va_rf, zok, Nat.add_left_cancel_iff, Nat.add_eq_left, Nat.left_eq_add, eq_self, if_true, if_false, not_false_eq_true, not_true_eq_false, false_implies, true_implies, Nat.reduceEqDiff, Nat.reduceAdd, Nat.reduceLT, Nat.reduceLeDiff, reduceIte]
  exact loop 52 0 h E rfl (fun j hj => absurd hj (Nat.not_lt_zero _)) hh (fun _ _ => rfl)
set_option maxRecDepth 20000 in
theorem f_X6_take_36 : Cond.fieldLink RX6 36 (TX6 16).1 (TX6 16).2.1 (TX6 16).2.2.1 ∈ wsX6_take := by decide +kernel
set_option maxRecDepth 20000 in
theorem k_X6_take_6 : ∀ w ∈ u_ws RX6 TX6 21, w ∈ wsX6_take := fun _ h => List.mem_cons_of_mem _ (List.mem_append_right _ h)
set_option maxRecDepth 20000 in
theorem f_X6_take_29 : Cond.fieldLink RX6 29 (TX6 14).1 (TX6 14).2.1 (TX6 14).2.2.1 ∈ wsX6_take := by decide +kernel
set_option maxRecDepth 100000 in
set_option maxHeartbeats 4000000 in
theorem S_X6_take_2 {p : Program} {e : Env} {s : State} {m : MethodId} {args : Array Value} {below : List Frame} {meth : Method} {c : Code} {D : va_G} {cy : zY} {b n0 : Nat} {P : zPo} (la : Launch) (X : zX p la e (rm_X6_take) s m args below meth c 2 D cy b n0 cX6_take wsX6_take RX6) (hr : meth.sig.returnType = none) : zS p la e (rm_X6_take) s m args below meth c (MQ below (zQ D b (n0 + 0) P) args s 0 0 (fun q => b ≤ q)) 2 D b n0 2 (B_X6_take_2 b n0 cy P (zAt p la e (rm_X6_take) s m args below meth c (MQ below (zQ D b (n0 + 0) P) args s 0 0 (fun q => b ≤ q)) 2 D b n0)) := by
  unfold B_X6_take_2
  exact (s_iload_n X dX6_take_2 rfl (s_bipush X dX6_take_3 (by decide) (s_icmp_ge X dX6_take_5 (by decide) (s_vret X dX6_take_26 hr) (s_aload_n X dX6_take_8 rfl (s_get X dX6_take_9 rfl k_X6_take_6 (by decide) f_X6_take_36 (s_iload_n X dX6_take_12 rfl (s_aload_n X dX6_take_13 rfl (s_get X dX6_take_14 rfl k_X6_take_6 (by decide) f_X6_take_29 (s_iload_n X dX6_take_17 rfl (s_iald X dX6_take_18 (s_iast X dX6_take_19 (s_iinc X dX6_take_20 (by decide) (by decide) (s_goto X dX6_take_23 (by decide) (s_cut (by decide) zS_at))))))))))))))
set_option maxRecDepth 100000 in
set_option maxHeartbeats 4000000 in
theorem S_X6_take_0 {p : Program} {e : Env} {s : State} {m : MethodId} {args : Array Value} {below : List Frame} {meth : Method} {c : Code} {D : va_G} {cy : zY} {b n0 : Nat} {P : zPo} (la : Launch) (X : zX p la e (rm_X6_take) s m args below meth c 2 D cy b n0 cX6_take wsX6_take RX6) (hr : meth.sig.returnType = none) : zS p la e (rm_X6_take) s m args below meth c (MQ below (zQ D b (n0 + 0) P) args s 0 0 (fun q => b ≤ q)) 2 D b n0 0 (B_X6_take_0 b n0 cy P (zAt p la e (rm_X6_take) s m args below meth c (MQ below (zQ D b (n0 + 0) P) args s 0 0 (fun q => b ≤ q)) 2 D b n0)) := by
  unfold B_X6_take_0
  exact (s_iconst X dX6_take_0 (by decide) (s_istore_n X dX6_take_1 rfl (by decide) (s_cut (by decide) zS_at)))
theorem w_X6_take (la : Launch) (sp : zSp) (vc : zVC_X6_take sp) : zMet la yX6_take wsX6_take (rm_X6_take) 0 0 sp :=
  z_of (cc := cX6_take) (maxL := 2) (ret := none) (by decide +kernel) rfl (fun p e s m args below meth c D cy b n as E P hsp X hr hin => by
    obtain ⟨h1, h2⟩ := vc b cy n as E P (zAt p la e (rm_X6_take) s m args below meth c (MQ below (zQ D b (n + 0) P) args s 0 0 (fun q => b ≤ q)) 2 D b n) (fun _ _ _ _ _ q => S_X6_take_2 la X hr _ _ _ _ _ q) hsp
    exact ⟨h1, S_X6_take_0 la X hr _ _ _ _ _ h2⟩)

theorem m_X6_take (la : Launch) : zMet la yX6_take wsX6_take rm_X6_take 0 0 sp_X6_take := w_X6_take la _ vc_X6_take
def sp_X6_ride : zSp := fun b cy as N E P => ∃ (i L n : Nat) (lo la c : Nat → Nat) (f : Nat → Int32), as = [.ref (b + 159), .ref (b + i)] ∧ zMR b cy N E n lo la ∧ zWr cy E i L n f c ∧ zMok n c ∧ 165 < i ∧ i < N ∧ c 0 + 1 < 1000 ∧ c 2 + 6 < 1000000 ∧ (∀ E' f', zWr cy E' i L n f' (zride n lo la c) → (∀ j, 52 ≤ j → f' j = f j) → (∀ j, j ≠ i → E' j = E j) → P none E')
abbrev rm_X6_ride : Room := { frames := 4, cells := 0, slots := 0, locals := 112 }
def B_X6_ride_58 (b n0 : Nat) (cy : zY) (P : zPo) (A : Nat → zC) : zC :=
  z_iinc 2 (1) (z_cut [0, 1, 2] (A 9))
def B_X6_ride_45 (b n0 : Nat) (cy : zY) (P : zPo) (A : Nat → zC) : zC :=
  z_istore 3 (z_iload 3 (z_const (-9) (z_icmp (fun x y => x = y) (B_X6_ride_58 b n0 cy P A) (z_aload 1 (z_iload 2 (z_iload 3 (z_callS b n0 0 0 cy 3 0 0 sp_X6_think (B_X6_ride_58 b n0 cy P A))))))))
def B_X6_ride_9 (b n0 : Nat) (cy : zY) (P : zPo) (A : Nat → zC) : zC :=
  z_iload 2 (z_aload 0 (z_get b n0 6 3 (z_const (0) (z_ald b n0 (cy 1) (z_icmp (fun x y => y ≤ x) (z_vret 0 0 P) (z_aload 0 (z_aload 1 (z_iload 2 (z_callV b n0 0 0 cy 6 2 0 0 sp_X6_isAboard (z_if (fun x => x = 0) (z_const (-9) (B_X6_ride_45 b n0 cy P A)) (z_aload 0 (z_aload 1 (z_iload 2 (z_aload 0 (z_get b n0 6 6 (z_iload 2 (z_ald b n0 (cy 1) (z_callV b n0 0 0 cy 6 3 0 0 sp_X6_whom (B_X6_ride_45 b n0 cy P A)))))))))))))))))))
def B_X6_ride_0 (b n0 : Nat) (cy : zY) (P : zPo) (A : Nat → zC) : zC :=
  z_aload 1 (z_const (0) (z_dup2 (z_ald b n0 (cy 1) (z_const (1) (z_bin (fun x y => x + y) (z_ast b n0 (cy 1) (fun x => x) (z_const (0) (z_istore 2 (z_cut [0, 1, 2] (A 9))))))))))
def zVC_X6_ride (sp : zSp) : Prop := ∀ (b : Nat) (cy : zY) (n : Nat) (as : List Value) (E : zE) (P : zPo) (A : Nat → zC), (∀ l st k u E, B_X6_ride_9 b n cy P A l st k u E → A 9 l st k u E) → sp b cy as n E P → zgood as 4 ∧ B_X6_ride_0 b n cy P A (lv_args 0 as) [] 0 0 E

set_option maxRecDepth 100000 in
set_option maxHeartbeats 4000000 in
theorem vc_X6_ride : zVC_X6_ride sp_X6_ride := by
  intro b cy N as E P A hA hsp
  obtain ⟨i, L, n, lo, la, c, f, rfl, hR, hW, hok, hi, hiN, hc0, hc2, hP⟩ := hsp
  refine ⟨⟨Nat.le_of_ble_eq_true rfl, zg1 rfl (zg1 rfl (zg0))⟩, ?_⟩
  have hR' := hR
  obtain ⟨⟨tr, ty, lt, qq, st, so, va, fa, se, e0⟩, ⟨rf, e1, e1'⟩, _, ⟨wf, e4, e4'⟩, hn, hlo, hN⟩ := hR'
  have N0 : 159 < N := by omega
  have N1 : 161 < N := by omega
  have N4 : 164 < N := by omega
  have hin : vp_in 0 2 := (vp_in_nI (show 0 < 2 by omega) (by omega) : vp_in (nI 0) 2)
  have hcl : (0 : Int32).toNatClampNeg = 0 := by decide
  have z2 : (zup c 0 (c 0 + 1)) 2 = c 2 := by unfold zup; rw [if_neg (by omega)]
  have loop : ∀ (d k : Nat) (E1 : zE) (g : Nat → Int32) (hd : d + k = n), zWr cy E1 i L n g (zrideL n lo la k (zup c 0 (c 0 + 1))) → (∀ j, 52 ≤ j → g j = f j) → (∀ j, j ≠ i → E1 j = E j) → A 9 [(0, .ref (b + 159)), (1, .ref (b + i)), (2, .int (nI k))] [] 0 0 E1 := by
    intro d
    induction d with
    | zero =>
      intro k E1 g hd hw1 hg1 hk1
      obtain rfl : k = n := by omega
      apply hA
      have f0 := (hk1 159 (by omega)).trans e0
      have f1 := (hk1 161 (by omega)).trans e1
      have cle : nI k ≤ nI k := nI_le (Nat.le_refl _) (by omega)
      simp -implicitDefEqProofs only [B_X6_ride_9, e_cut, e_iload, e_aload, e_istore, e_astore, e_iinc, e_const, e_lconst, e_bin, e_bin0, e_un, e_ladd, e_dupi, e_dupr, e_dup2, e_pop, e_sw, e_sw0, e_sw1, e_get, e_put, e_ald, e_ast, e_aald, e_aast, e_copy, e_new, e_newa, e_anewa, e_min, e_abs, e_oinit, e_callI, e_callV, e_callS, e_iret, e_zret, e_lret, e_vret, e_tl1, e_tl0, e_tl2, e_tl3, z10, Bool.false_eq_true, e_argi, e_argr, e_argn, zld_c, zst_n, zst_c, zpick_n, zpick_c, List.drop_succ_cons, List.drop_zero, List.take_succ_cons, List.take_zero, List.length_cons, List.length_nil, List.reverse_cons, List.reverse_nil, List.nil_append, List.cons_append, List.append_nil, List.getElem?_cons_zero, List.getElem?_cons_succ, List.set_cons_zero, List.set_cons_succ, Nat.add_sub_cancel_left, Nat.sub_self, Nat.add_zero, Nat.zero_add, Nat.le_add_right, Nat.le_refl, true_and, and_true, va_rf, zok, Nat.add_left_cancel_iff, Nat.add_eq_left, Nat.left_eq_add, eq_self, if_true, if_false, not_false_eq_true, not_true_eq_false, false_implies, true_implies, Nat.reduceEqDiff, Nat.reduceAdd, Nat.reduceLT, Nat.reduceLeDiff, reduceIte, e_icmpt (c2 := fun x y => y ≤ x) cle, zM0, f0, f1, e1', N0, N1, hin, hcl]
      exact hP _ _ hw1 hg1 hk1
    | succ d ih =>
      intro k E1 g hd hw1 hg1 hk1
      have hk : k < n := by omega
      apply hA
      have f0 := (hk1 159 (by omega)).trans e0
      have f1 := (hk1 161 (by omega)).trans e1
      have f4 := (hk1 164 (by omega)).trans e4
      have hR1 := hR.congr (E' := E1) (hk1 _ (by omega)) (hk1 _ (by omega)) (hk1 _ (by omega)) (hk1 _ (by omega))
      have cle : ¬ nI n ≤ nI k := nI_ge hk (by omega)
      have kin : vp_in (nI k) 12 := vp_in_nI (by omega) (by omega)
      have kcl : (nI k).toNatClampNeg = k := nI_clamp (by omega)
      obtain ⟨g1, g2⟩ := (hok.stop hc0).rideL (lo := lo) (la := la) k (by omega) (by rw [z2]; omega)
      simp -implicitDefEqProofs only [B_X6_ride_9, e_cut, e_iload, e_aload, e_istore, e_astore, e_iinc, e_const, e_lconst, e_bin, e_bin0, e_un, e_ladd, e_dupi, e_dupr, e_dup2, e_pop, e_sw, e_sw0, e_sw1, e_get, e_put, e_ald, e_ast, e_aald, e_aast, e_copy, e_new, e_newa, e_anewa, e_min, e_abs, e_oinit, e_callI, e_callV, e_callS, e_iret, e_zret, e_lret, e_vret, e_tl1, e_tl0, e_tl2, e_tl3, z10, Bool.false_eq_true, e_argi, e_argr, e_argn, zld_c, zst_n, zst_c, zpick_n, zpick_c, List.drop_succ_cons, List.drop_zero, List.take_succ_cons, List.take_zero, List.length_cons, List.length_nil, List.reverse_cons, List.reverse_nil, List.nil_append, List.cons_append, List.append_nil, List.getElem?_cons_zero, List.getElem?_cons_succ, List.set_cons_zero, List.set_cons_succ, Nat.add_sub_cancel_left, Nat.sub_self, Nat.add_zero, Nat.zero_add, Nat.le_add_right, Nat.le_refl, true_and, and_true, va_rf, zok, Nat.add_left_cancel_iff, Nat.add_eq_left, Nat.left_eq_add, eq_self, if_true, if_false, not_false_eq_true, not_true_eq_false, false_implies, true_implies, Nat.reduceEqDiff, Nat.reduceAdd, Nat.reduceLT, Nat.reduceLeDiff, reduceIte, e_icmpf (c2 := fun x y => y ≤ x) cle, zM0, f0, f1, e1', N0, N1, hin, hcl]
      refine ⟨i, k, n, _, rfl, hw1.ar, hiN, by omega, g1.l64, ?_⟩
      have s58 : ∀ E2 g2 v, zWr cy E2 i L n g2 (zrideL n lo la (k + 1) (zup c 0 (c 0 + 1))) → (∀ j, 52 ≤ j → g2 j = f j) → (∀ j, j ≠ i → E2 j = E j) → B_X6_ride_58 b N cy P A [(0, .ref (b + 159)), (1, .ref (b + i)), (2, .int (nI k)), (3, .int v)] [] 0 0 E2 := by
        intro E2 g2 v h1 h2 h3
        simp -implicitDefEqProofs only [B_X6_ride_58, e_cut, e_iload, e_aload, e_istore, e_astore, e_iinc, e_const, e_lconst, e_bin, e_bin0, e_un, e_ladd, e_dupi, e_dupr, e_dup2, e_pop, e_if, e_icmp, e_sw, e_sw0, e_sw1, e_get, e_put, e_ald, e_ast, e_aald, e_aast, e_copy, e_new, e_newa, e_anewa, e_min, e_abs, e_oinit, e_callI, e_callV, e_callS, e_iret, e_zret, e_lret, e_vret, e_tl1, e_tl0, e_tl2, e_tl3, z10, Bool.false_eq_true, e_argi, e_argr, e_argn, zld_c, zst_n, zst_c, zpick_n, zpick_c, List.drop_succ_cons, List.drop_zero, List.take_succ_cons, List.take_zero, List.length_cons, List.length_nil, List.reverse_cons, List.reverse_nil, List.nil_append, List.cons_append, List.append_nil, List.getElem?_cons_zero, List.getElem?_cons_succ, List.set_cons_zero, List.set_cons_succ, Nat.add_sub_cancel_left, Nat.sub_self, Nat.add_zero, Nat.zero_add, Nat.le_add_right, Nat.le_refl, true_and, and_true, va_rf, zok, Nat.add_left_cancel_iff, Nat.add_eq_left, Nat.left_eq_add, eq_self, if_true, if_false, not_false_eq_true, not_true_eq_false, false_implies, true_implies, Nat.reduceEqDiff, Nat.reduceAdd, Nat.reduceLT, Nat.reduceLeDiff, reduceIte, nI_1]
        exact ih (k + 1) E2 g2 (by omega) h1 h2 h3
      have m9 : ((-9 : Int32) = -9) := rfl
      by_cases q1 : (zrideL n lo la k (zup c 0 (c 0 + 1)) 1).testBit k = true
      · simp -implicitDefEqProofs only [e_cut, e_iload, e_aload, e_istore, e_astore, e_iinc, e_const, e_lconst, e_bin, e_bin0, e_un, e_ladd, e_dupi, e_dupr, e_dup2, e_pop, e_if, e_icmp, e_sw, e_sw0, e_sw1, e_get, e_put, e_ald, e_ast, e_aald, e_aast, e_copy, e_new, e_newa, e_anewa, e_min, e_abs, e_oinit, e_callI, e_callV, e_callS, e_iret, e_zret, e_lret, e_vret, e_tl1, e_tl0, e_tl2, e_tl3, z10, Bool.false_eq_true, e_argi, e_argr, e_argn, zld_c, zst_n, zst_c, zpick_n, zpick_c, List.drop_succ_cons, List.drop_zero, List.take_succ_cons, List.take_zero, List.length_cons, List.length_nil, List.reverse_cons, List.reverse_nil, List.nil_append, List.cons_append, List.append_nil, List.getElem?_cons_zero, List.getElem?_cons_succ, List.set_cons_zero, List.set_cons_succ, Nat.add_sub_cancel_left, Nat.sub_self, Nat.add_zero, Nat.zero_add, Nat.le_add_right, Nat.le_refl, true_and, and_true, va_rf, zok, Nat.add_left_cancel_iff, Nat.add_eq_left, Nat.left_eq_add, eq_self, if_true, if_false, not_false_eq_true, not_true_eq_false, false_implies, true_implies, Nat.reduceEqDiff, Nat.reduceAdd, Nat.reduceLT, Nat.reduceLeDiff, reduceIte, q1, zM0, f0, f4, N0, N4, kin, kcl, e4' k hk]
        refine ⟨n, lo, la, _, i, k, la k, rfl, hR1, hw1.ar, g1, hiN, hk, (hlo k hk).2, ?_⟩
        have hz0 : zwhom n lo (zrideL n lo la k (zup c 0 (c 0 + 1))) k (la k) = zwho n lo (zrideL n lo la k (zup c 0 (c 0 + 1))) k ((zrideL n lo la k (zup c 0 (c 0 + 1))) (4 + k)) (la k) := by unfold zwhom; rw [if_pos q1]
        rw [← hz0]
        cases hz : zwhom n lo (zrideL n lo la k (zup c 0 (c 0 + 1))) k (la k) with
        | none =>
          simp -implicitDefEqProofs only [B_X6_ride_45, e_cut, e_iload, e_aload, e_istore, e_astore, e_iinc, e_const, e_lconst, e_bin, e_bin0, e_un, e_ladd, e_dupi, e_dupr, e_dup2, e_pop, e_sw, e_sw0, e_sw1, e_get, e_put, e_ald, e_ast, e_aald, e_aast, e_copy, e_new, e_newa, e_anewa, e_min, e_abs, e_oinit, e_callI, e_callV, e_callS, e_iret, e_zret, e_lret, e_vret, e_tl1, e_tl0, e_tl2, e_tl3, z10, Bool.false_eq_true, e_argi, e_argr, e_argn, zld_c, zst_n, zst_c, zpick_n, zpick_c, List.drop_succ_cons, List.drop_zero, List.take_succ_cons, List.take_zero, List.length_cons, List.length_nil, List.reverse_cons, List.reverse_nil, List.nil_append, List.cons_append, List.append_nil, List.getElem?_cons_zero, List.getElem?_cons_succ, List.set_cons_zero, List.set_cons_succ, Nat.add_sub_cancel_left, Nat.sub_self, Nat.add_zero, Nat.zero_add, Nat.le_add_right, Nat.le_refl, true_and, and_true, va_rf, zok, Nat.add_left_cancel_iff, Nat.add_eq_left, Nat.left_eq_add, eq_self, if_true, if_false, not_false_eq_true, not_true_eq_false, false_implies, true_implies, Nat.reduceEqDiff, Nat.reduceAdd, Nat.reduceLT, Nat.reduceLeDiff, reduceIte, zrv, e_icmpt (c2 := fun x y => x = y) m9]
          exact s58 E1 g _ (by rw [zrideL_s, hz]; exact hw1) hg1 hk1
        | some q =>
          have hq := zwhom_lt hz
          simp -implicitDefEqProofs only [B_X6_ride_45, e_cut, e_iload, e_aload, e_istore, e_astore, e_iinc, e_const, e_lconst, e_bin, e_bin0, e_un, e_ladd, e_dupi, e_dupr, e_dup2, e_pop, e_sw, e_sw0, e_sw1, e_get, e_put, e_ald, e_ast, e_aald, e_aast, e_copy, e_new, e_newa, e_anewa, e_min, e_abs, e_oinit, e_callI, e_callV, e_callS, e_iret, e_zret, e_lret, e_vret, e_tl1, e_tl0, e_tl2, e_tl3, z10, Bool.false_eq_true, e_argi, e_argr, e_argn, zld_c, zst_n, zst_c, zpick_n, zpick_c, List.drop_succ_cons, List.drop_zero, List.take_succ_cons, List.take_zero, List.length_cons, List.length_nil, List.reverse_cons, List.reverse_nil, List.nil_append, List.cons_append, List.append_nil, List.getElem?_cons_zero, List.getElem?_cons_succ, List.set_cons_zero, List.set_cons_succ, Nat.add_sub_cancel_left, Nat.sub_self, Nat.add_zero, Nat.zero_add, Nat.le_add_right, Nat.le_refl, true_and, and_true, va_rf, zok, Nat.add_left_cancel_iff, Nat.add_eq_left, Nat.left_eq_add, eq_self, if_true, if_false, not_false_eq_true, not_true_eq_false, false_implies, true_implies, Nat.reduceEqDiff, Nat.reduceAdd, Nat.reduceLT, Nat.reduceLeDiff, reduceIte, zrv, e_icmpf (c2 := fun x y => x = y) (zrv_nn (show q < 6 by omega))]
          refine ⟨i, L, n, k, q, g, _, rfl, hw1, hiN, hn, by omega, by omega, fun E2 g2 h1 h2 h3 => ?_⟩
          simp -implicitDefEqProofs only [e_cut, e_iload, e_aload, e_istore, e_astore, e_iinc, e_const, e_lconst, e_bin, e_bin0, e_un, e_ladd, e_dupi, e_dupr, e_dup2, e_pop, e_if, e_icmp, e_sw, e_sw0, e_sw1, e_get, e_put, e_ald, e_ast, e_aald, e_aast, e_copy, e_new, e_newa, e_anewa, e_min, e_abs, e_oinit, e_callI, e_callV, e_callS, e_iret, e_zret, e_lret, e_vret, e_tl1, e_tl0, e_tl2, e_tl3, z10, Bool.false_eq_true, e_argi, e_argr, e_argn, zld_c, zst_n, zst_c, zpick_n, zpick_c, List.drop_succ_cons, List.drop_zero, List.take_succ_cons, List.take_zero, List.length_cons, List.length_nil, List.reverse_cons, List.reverse_nil, List.nil_append, List.cons_append, List.append_nil, List.getElem?_cons_zero, List.getElem?_cons_succ, List.set_cons_zero, List.set_cons_succ, Nat.add_sub_cancel_left, Nat.sub_self, Nat.add_zero, Nat.zero_add, Nat.le_add_right, Nat.le_refl, true_and, and_true, va_rf, zok, Nat.add_left_cancel_iff, Nat.add_eq_left, Nat.left_eq_add, eq_self, if_true, if_false, not_false_eq_true, not_true_eq_false, false_implies, true_implies, Nat.reduceEqDiff, Nat.reduceAdd, Nat.reduceLT, Nat.reduceLeDiff, reduceIte]
          exact s58 E2 g2 _ (by rw [zrideL_s, hz]; exact h1) (fun j hj => (h2 j hj).trans (hg1 j hj)) (fun j hj => (h3 j hj).trans (hk1 j hj))
      · simp -implicitDefEqProofs only [B_X6_ride_45, e_cut, e_iload, e_aload, e_istore, e_astore, e_iinc, e_const, e_lconst, e_bin, e_bin0, e_un, e_ladd, e_dupi, e_dupr, e_dup2, e_pop, e_sw, e_sw0, e_sw1, e_get, e_put, e_ald, e_ast, e_aald, e_aast, e_copy, e_new, e_newa, e_anewa, e_min, e_abs, e_oinit, e_callI, e_callV, e_callS, e_iret, e_zret, e_lret, e_vret, e_tl1, e_tl0, e_tl2, e_tl3, z10, Bool.false_eq_true, e_argi, e_argr, e_argn, zld_c, zst_n, zst_c, zpick_n, zpick_c, List.drop_succ_cons, List.drop_zero, List.take_succ_cons, List.take_zero, List.length_cons, List.length_nil, List.reverse_cons, List.reverse_nil, List.nil_append, List.cons_append, List.append_nil, List.getElem?_cons_zero, List.getElem?_cons_succ, List.set_cons_zero, List.set_cons_succ, Nat.add_sub_cancel_left, Nat.sub_self, Nat.add_zero, Nat.zero_add, Nat.le_add_right, Nat.le_refl, true_and, and_true, va_rf, zok, Nat.add_left_cancel_iff, Nat.add_eq_left, Nat.left_eq_add, eq_self, if_true, if_false, not_false_eq_true, not_true_eq_false, false_implies, true_implies, Nat.reduceEqDiff, Nat.reduceAdd, Nat.reduceLT, Nat.reduceLeDiff, reduceIte, e_ift (c1 := fun x => x = 0) (x := 0) rfl, q1, e_icmpt (c2 := fun x y => x = y) m9]
        have hz : zwhom n lo (zrideL n lo la k (zup c 0 (c 0 + 1))) k (la k) = none := by unfold zwhom; rw [if_neg q1]
        exact s58 E1 g _ (by rw [zrideL_s, hz]; exact hw1) hg1 hk1
  obtain ⟨hL, hL2, hE, hc⟩ := hW
  obtain ⟨c0, c4, c10, c16⟩ := zCm0 hc
  have hinL : vp_in 0 L := (vp_in_nI (show 0 < L by omega) (by omega) : vp_in (nI 0) L)
  have v0 : f 0 = nI (c 0) := c0 0 (by omega)
  simp -implicitDefEqProofs only [B_X6_ride_0, e_cut, e_iload, e_aload, e_istore, e_astore, e_iinc, e_const, e_lconst, e_bin, e_bin0, e_un, e_ladd, e_dupi, e_dupr, e_dup2, e_pop, e_if, e_icmp, e_sw, e_sw0, e_sw1, e_get, e_put, e_ald, e_ast, e_aald, e_aast, e_copy, e_new, e_newa, e_anewa, e_min, e_abs, e_oinit, e_callI, e_callV, e_callS, e_iret, e_zret, e_lret, e_vret, e_tl1, e_tl0, e_tl2, e_tl3, z10, Bool.false_eq_true, e_argi, e_argr, e_argn, zld_c, zst_n, zst_c, zpick_n, zpick_c, List.drop_succ_cons, List.drop_zero, List.take_succ_cons, List.take_zero, List.length_cons, List.length_nil, List.reverse_cons, List.reverse_nil, List.nil_append, List.cons_append, List.append_nil, List.getElem?_cons_zero, List.getElem?_cons_succ, List.set_cons_zero, List.set_cons_succ, Nat.add_sub_cancel_left, Nat.sub_self, Nat.add_zero, Nat.zero_add, Nat.le_add_right, Nat.le_refl, true_and, and_true, va_rf, zok, Nat.add_left_cancel_iff, Nat.add_eq_left, Nat.left_eq_add, eq_self, if_true, if_false, not_false_eq_true, not_true_eq_false, false_implies, true_implies, Nat.reduceEqDiff, Nat.reduceAdd, Nat.reduceLT, Nat.reduceLeDiff, reduceIte, hE, hiN, hinL, hcl, v0, nI_1]
  refine loop n 0 _ (upd f 0 (nI (c 0 + 1))) rfl ⟨hL, hL2, u_eq, ?_, ?_, ?_, ?_⟩ (fun j hj => by simp only [upd]; rw [if_neg (by omega)]) (fun j hj => u_ne hj)
  · intro j hj; simp only [upd, Nat.zero_add, zrideL, zup]
    by_cases e : j = 0
    · rw [if_pos e, if_pos e]
    · rw [if_neg e, if_neg e]; exact c0 j hj
  · intro j hj; simp only [upd, Nat.zero_add, zrideL, zup]; rw [if_neg (by omega), if_neg (by omega)]; exact c4 j hj
  · intro j hj; simp only [upd, Nat.zero_add, zrideL, zup]; rw [if_neg (by omega), if_neg (by omega)]; exact c10 j hj
  · intro j hj; simp only [upd, Nat.zero_add, zrideL, zup]; rw [if_neg (by omega), if_neg (by omega)]; exact c16 j hj
set_option maxRecDepth 20000 in
theorem f_X6_ride_13 : Cond.fieldLink RX6 13 (TX6 3).1 (TX6 3).2.1 (TX6 3).2.2.1 ∈ wsX6_ride := by decide +kernel
set_option maxRecDepth 20000 in
theorem k_X6_ride_6 : ∀ w ∈ u_ws RX6 TX6 21, w ∈ wsX6_ride := fun _ h => List.mem_cons_of_mem _ (List.mem_append_right _ h)
set_option maxRecDepth 20000 in
theorem f_X6_ride_23 : Cond.fieldLink RX6 23 (TX6 6).1 (TX6 6).2.1 (TX6 6).2.2.1 ∈ wsX6_ride := by decide +kernel
set_option maxRecDepth 100000 in
set_option maxHeartbeats 4000000 in
theorem S_X6_ride_58 {p : Program} {e : Env} {s : State} {m : MethodId} {args : Array Value} {below : List Frame} {meth : Method} {c : Code} {D : va_G} {cy : zY} {b n0 : Nat} {P : zPo} (la : Launch) (X : zX p la e (rm_X6_ride) s m args below meth c 4 D cy b n0 cX6_ride wsX6_ride RX6) (hr : meth.sig.returnType = none) (h_X6_isAboard : zMet la yX6_isAboard wsX6_isAboard rm_X6_isAboard 0 0 sp_X6_isAboard) (h_X6_think : zMet la yX6_think wsX6_think rm_X6_think 0 0 sp_X6_think) (h_X6_whom : zMet la yX6_whom wsX6_whom rm_X6_whom 0 0 sp_X6_whom) : zS p la e (rm_X6_ride) s m args below meth c (MQ below (zQ D b (n0 + 0) P) args s 0 0 (fun q => b ≤ q)) 4 D b n0 58 (B_X6_ride_58 b n0 cy P (zAt p la e (rm_X6_ride) s m args below meth c (MQ below (zQ D b (n0 + 0) P) args s 0 0 (fun q => b ≤ q)) 4 D b n0)) := by
  unfold B_X6_ride_58
  exact (s_iinc X dX6_ride_58 (by decide) (by decide) (s_goto X dX6_ride_61 (by decide) (s_cut (by decide) zS_at)))
set_option maxRecDepth 100000 in
set_option maxHeartbeats 4000000 in
theorem S_X6_ride_45 {p : Program} {e : Env} {s : State} {m : MethodId} {args : Array Value} {below : List Frame} {meth : Method} {c : Code} {D : va_G} {cy : zY} {b n0 : Nat} {P : zPo} (la : Launch) (X : zX p la e (rm_X6_ride) s m args below meth c 4 D cy b n0 cX6_ride wsX6_ride RX6) (hr : meth.sig.returnType = none) (h_X6_isAboard : zMet la yX6_isAboard wsX6_isAboard rm_X6_isAboard 0 0 sp_X6_isAboard) (h_X6_think : zMet la yX6_think wsX6_think rm_X6_think 0 0 sp_X6_think) (h_X6_whom : zMet la yX6_whom wsX6_whom rm_X6_whom 0 0 sp_X6_whom) : zS p la e (rm_X6_ride) s m args below meth c (MQ below (zQ D b (n0 + 0) P) args s 0 0 (fun q => b ≤ q)) 4 D b n0 45 (B_X6_ride_45 b n0 cy P (zAt p la e (rm_X6_ride) s m args below meth c (MQ below (zQ D b (n0 + 0) P) args s 0 0 (fun q => b ≤ q)) 4 D b n0)) := by
  unfold B_X6_ride_45
  exact (s_istore_n X dX6_ride_45 rfl (by decide) (s_iload_n X dX6_ride_46 rfl (s_bipush X dX6_ride_47 (by decide) (s_icmp_eq X dX6_ride_49 (by decide) (S_X6_ride_58 la X hr h_X6_isAboard h_X6_think h_X6_whom) (s_aload_n X dX6_ride_52 rfl (s_iload_n X dX6_ride_53 rfl (s_iload_n X dX6_ride_54 rfl (s_callS X h_X6_think dX6_ride_55 gX6_ride_X6_think rfl rfl rfl (by decide +kernel) ⟨by decide, by decide⟩ (S_X6_ride_58 la X hr h_X6_isAboard h_X6_think h_X6_whom)))))))))
set_option maxRecDepth 100000 in
set_option maxHeartbeats 4000000 in
theorem S_X6_ride_9 {p : Program} {e : Env} {s : State} {m : MethodId} {args : Array Value} {below : List Frame} {meth : Method} {c : Code} {D : va_G} {cy : zY} {b n0 : Nat} {P : zPo} (la : Launch) (X : zX p la e (rm_X6_ride) s m args below meth c 4 D cy b n0 cX6_ride wsX6_ride RX6) (hr : meth.sig.returnType = none) (h_X6_isAboard : zMet la yX6_isAboard wsX6_isAboard rm_X6_isAboard 0 0 sp_X6_isAboard) (h_X6_think : zMet la yX6_think wsX6_think rm_X6_think 0 0 sp_X6_think) (h_X6_whom : zMet la yX6_whom wsX6_whom rm_X6_whom 0 0 sp_X6_whom) : zS p la e (rm_X6_ride) s m args below meth c (MQ below (zQ D b (n0 + 0) P) args s 0 0 (fun q => b ≤ q)) 4 D b n0 9 (B_X6_ride_9 b n0 cy P (zAt p la e (rm_X6_ride) s m args below meth c (MQ below (zQ D b (n0 + 0) P) args s 0 0 (fun q => b ≤ q)) 4 D b n0)) := by
  unfold B_X6_ride_9
  exact (s_iload_n X dX6_ride_9 rfl (s_aload_n X dX6_ride_10 rfl (s_get X dX6_ride_11 rfl k_X6_ride_6 (by decide) f_X6_ride_13 (s_iconst X dX6_ride_14 (by decide) (s_iald X dX6_ride_15 (s_icmp_ge X dX6_ride_16 (by decide) (s_vret X dX6_ride_64 hr) (s_aload_n X dX6_ride_19 rfl (s_aload_n X dX6_ride_20 rfl (s_iload_n X dX6_ride_21 rfl (s_callV X h_X6_isAboard dX6_ride_22 rfl gX6_ride_X6_isAboard rfl rfl rfl (by decide +kernel) ⟨by decide, by decide⟩ (s_if_eq X dX6_ride_25 (by decide) (s_bipush X dX6_ride_43 (by decide) (S_X6_ride_45 la X hr h_X6_isAboard h_X6_think h_X6_whom)) (s_aload_n X dX6_ride_28 rfl (s_aload_n X dX6_ride_29 rfl (s_iload_n X dX6_ride_30 rfl (s_aload_n X dX6_ride_31 rfl (s_get X dX6_ride_32 rfl k_X6_ride_6 (by decide) f_X6_ride_23 (s_iload_n X dX6_ride_35 rfl (s_iald X dX6_ride_36 (s_callV X h_X6_whom dX6_ride_37 rfl gX6_ride_X6_whom rfl rfl rfl (by decide +kernel) ⟨by decide, by decide⟩ (s_goto X dX6_ride_40 (by decide) (S_X6_ride_45 la X hr h_X6_isAboard h_X6_think h_X6_whom)))))))))))))))))))))
set_option maxRecDepth 100000 in
set_option maxHeartbeats 4000000 in
theorem S_X6_ride_0 {p : Program} {e : Env} {s : State} {m : MethodId} {args : Array Value} {below : List Frame} {meth : Method} {c : Code} {D : va_G} {cy : zY} {b n0 : Nat} {P : zPo} (la : Launch) (X : zX p la e (rm_X6_ride) s m args below meth c 4 D cy b n0 cX6_ride wsX6_ride RX6) (hr : meth.sig.returnType = none) (h_X6_isAboard : zMet la yX6_isAboard wsX6_isAboard rm_X6_isAboard 0 0 sp_X6_isAboard) (h_X6_think : zMet la yX6_think wsX6_think rm_X6_think 0 0 sp_X6_think) (h_X6_whom : zMet la yX6_whom wsX6_whom rm_X6_whom 0 0 sp_X6_whom) : zS p la e (rm_X6_ride) s m args below meth c (MQ below (zQ D b (n0 + 0) P) args s 0 0 (fun q => b ≤ q)) 4 D b n0 0 (B_X6_ride_0 b n0 cy P (zAt p la e (rm_X6_ride) s m args below meth c (MQ below (zQ D b (n0 + 0) P) args s 0 0 (fun q => b ≤ q)) 4 D b n0)) := by
  unfold B_X6_ride_0
  exact (s_aload_n X dX6_ride_0 rfl (s_iconst X dX6_ride_1 (by decide) (s_dup2 X dX6_ride_2 (s_iald X dX6_ride_3 (s_iconst X dX6_ride_4 (by decide) (s_iadd X dX6_ride_5 (s_iast X dX6_ride_6 (s_iconst X dX6_ride_7 (by decide) (s_istore_n X dX6_ride_8 rfl (by decide) (s_cut (by decide) zS_at))))))))))
theorem w_X6_ride (la : Launch) (h_X6_isAboard : zMet la yX6_isAboard wsX6_isAboard rm_X6_isAboard 0 0 sp_X6_isAboard) (h_X6_think : zMet la yX6_think wsX6_think rm_X6_think 0 0 sp_X6_think) (h_X6_whom : zMet la yX6_whom wsX6_whom rm_X6_whom 0 0 sp_X6_whom) (sp : zSp) (vc : zVC_X6_ride sp) : zMet la yX6_ride wsX6_ride (rm_X6_ride) 0 0 sp :=
  z_of (cc := cX6_ride) (maxL := 4) (ret := none) (by decide +kernel) rfl (fun p e s m args below meth c D cy b n as E P hsp X hr hin => by
    obtain ⟨h1, h2⟩ := vc b cy n as E P (zAt p la e (rm_X6_ride) s m args below meth c (MQ below (zQ D b (n + 0) P) args s 0 0 (fun q => b ≤ q)) 4 D b n) (fun _ _ _ _ _ q => S_X6_ride_9 la X hr h_X6_isAboard h_X6_think h_X6_whom _ _ _ _ _ q) hsp
    exact ⟨h1, S_X6_ride_0 la X hr h_X6_isAboard h_X6_think h_X6_whom _ _ _ _ _ h2⟩)

theorem m_X6_ride (la : Launch) : zMet la yX6_ride wsX6_ride rm_X6_ride 0 0 sp_X6_ride := w_X6_ride la (m_X6_isAboard la) (m_X6_think la) (m_X6_whom la) _ vc_X6_ride

