/-! writes of the other one -/
def zWr (cy : zY) (E : zE) (i L n : Nat) (f : Nat → Int32) (c : Nat → Nat) : Prop := 52 ≤ L ∧ L ≤ 1719 ∧ E i = .inl (cy 1, L, .inl f) ∧ zCm f 0 n c
theorem zWr.ar {cy : zY} {E : zE} {i L n : Nat} {f : Nat → Int32} {c : Nat → Nat} (h : zWr cy E i L n f c) : zAr cy E i n c := ⟨L, f, h.1, h.2.1, h.2.2.1, h.2.2.2⟩
def sp_X6_think : zSp := fun b cy as N E P => ∃ (i L n r q : Nat) (f : Nat → Int32) (c : Nat → Nat), as = [.ref (b + i), .int (nI r), .int (nI q)] ∧ zWr cy E i L n f c ∧ i < N ∧ n ≤ 6 ∧ r < 6 ∧ q < 6 ∧ (∀ E' f', zWr cy E' i L n f' (zthink c r q) → (∀ j, 52 ≤ j → f' j = f j) → (∀ j, j ≠ i → E' j = E j) → P none E')
abbrev rm_X6_think : Room := { frames := 1, cells := 0, slots := 0, locals := 40 }
def B_X6_think_0 (b n0 : Nat) (cy : zY) (P : zPo) (A : Nat → zC) : zC :=
  z_aload 0 (z_const (2) (z_dup2 (z_ald b n0 (cy 1) (z_const (1) (z_bin (fun x y => x + y) (z_ast b n0 (cy 1) (fun x => x) (z_aload 0 (z_const (16) (z_const (6) (z_iload 1 (z_bin (fun x y => x * y) (z_bin (fun x y => x + y) (z_iload 2 (z_bin (fun x y => x + y) (z_aload 0 (z_const (2) (z_ald b n0 (cy 1) (z_ast b n0 (cy 1) (fun x => x) (z_vret 0 0 P)))))))))))))))))))
def zVC_X6_think (sp : zSp) : Prop := ∀ (b : Nat) (cy : zY) (n : Nat) (as : List Value) (E : zE) (P : zPo) (A : Nat → zC), sp b cy as n E P → zgood as 3 ∧ B_X6_think_0 b n cy P A (lv_args 0 as) [] 0 0 E

set_option maxRecDepth 100000 in
set_option maxHeartbeats 4000000 in
theorem vc_X6_think : zVC_X6_think sp_X6_think := by
  intro b cy N as E P A hsp
  obtain ⟨i, L, n, r, q, f, c, rfl, ⟨hL, hL2, hE, hc⟩, hi, hn, hr, hq, hP⟩ := hsp
  refine ⟨⟨Nat.le_of_ble_eq_true rfl, zg1 rfl (zg1 rfl (zg1 rfl (zg0)))⟩, ?_⟩
  obtain ⟨c0, c4, c10, c16⟩ := zCm0 hc
  have hin2 : vp_in 2 L := (vp_in_nI (show 2 < L by omega) (by omega) : vp_in (nI 2) L)
  have hcl2 : (2 : Int32).toNatClampNeg = 2 := by decide
  have jin : vp_in (nI (16 + 6 * r + q)) L := vp_in_nI (by omega) (by omega)
  have jcl : (nI (16 + 6 * r + q)).toNatClampNeg = 16 + 6 * r + q := nI_clamp (by omega)
  have k16 : (16 : Int32) = nI 16 := rfl
  have k6 : (6 : Int32) = nI 6 := rfl
  have v2 : f 2 = nI (c 2) := c0 2 (by omega)
  simp -implicitDefEqProofs only [B_X6_think_0, e_cut, e_iload, e_aload, e_istore, e_astore, e_iinc, e_const, e_lconst, e_bin, e_bin0, e_un, e_ladd, e_dupi, e_dupr, e_dup2, e_pop, e_if, e_icmp, e_sw, e_sw0, e_sw1, e_get, e_put, e_ald, e_ast, e_aald, e_aast, e_copy, e_new, e_newa, e_anewa, e_min, e_abs, e_oinit, e_callI, e_callV, e_callS, e_iret, e_zret, e_lret, e_vret, e_tl1, e_tl0, e_tl2, e_tl3, z10, Bool.false_eq_true, e_argi, e_argr, e_argn, zld_c, zst_n, zst_c, zpick_n, zpick_c, List.drop_succ_cons, List.drop_zero, List.take_succ_cons, List.take_zero, List.length_cons, List.length_nil, List.reverse_cons, List.reverse_nil, List.nil_append, List.cons_append, List.append_nil, List.getElem?_cons_zero, List.getElem?_cons_succ, List.set_cons_zero, List.set_cons_succ, Nat.add_sub_cancel_left, Nat.sub_self, Nat.add_zero, Nat.zero_add, Nat.le_add_right, Nat.le_refl, true_and, and_true, va_rf, zok, Nat.add_left_cancel_iff, Nat.add_eq_left, Nat.left_eq_add, eq_self, if_true, if_false, not_false_eq_true, not_true_eq_false, false_implies, true_implies, Nat.reduceEqDiff, Nat.reduceAdd, Nat.reduceLT, Nat.reduceLeDiff, reduceIte, hE, hi, hin2, hcl2, v2, nI_1, k16, k6, zix6, e_up, jin, jcl]
  refine hP _ (upd (upd f 2 (nI (c 2 + 1))) (16 + 6 * r + q) (nI (c 2 + 1))) ⟨hL, hL2, ?_, ⟨?_, ?_, ?_, ?_⟩⟩ ?_ ?_
  · simp [va_up, upd]
  · intro j hj
    simp only [upd, Nat.zero_add]
    rw [if_neg (by omega)]
    by_cases e : j = 2
    · rw [if_pos e, e, zthink_2]
    · rw [if_neg e, zthink_lo (by omega) e]; exact c0 j hj
  · intro j hj
    simp only [upd, Nat.zero_add]
    rw [if_neg (by omega), if_neg (by omega), zthink_lo (by omega) (by omega)]; exact c4 j hj
  · intro j hj
    simp only [upd, Nat.zero_add]
    rw [if_neg (by omega), if_neg (by omega), zthink_lo (by omega) (by omega)]; exact c10 j hj
  · intro j hj
    simp only [upd, Nat.zero_add]
    rw [zthink_hi]
    by_cases e : j = 6 * r + q
    · rw [if_pos (by omega), if_pos e]
    · rw [if_neg (by omega), if_neg (by omega), if_neg e]; exact c16 j hj
  · intro j hj
    simp only [upd]; rw [if_neg (by omega), if_neg (by omega)]
  · intro j hj
    simp only [e_up]; rw [if_neg hj, if_neg hj]
set_option maxRecDepth 100000 in
set_option maxHeartbeats 4000000 in
theorem S_X6_think_0 {p : Program} {e : Env} {s : State} {m : MethodId} {args : Array Value} {below : List Frame} {meth : Method} {c : Code} {D : va_G} {cy : zY} {b n0 : Nat} {P : zPo} (la : Launch) (X : zX p la e (rm_X6_think) s m args below meth c 3 D cy b n0 cX6_think wsX6_think RX6) (hr : meth.sig.returnType = none) : zS p la e (rm_X6_think) s m args below meth c (MQ below (zQ D b (n0 + 0) P) args s 0 0 (fun q => b ≤ q)) 3 D b n0 0 (B_X6_think_0 b n0 cy P (zAt p la e (rm_X6_think) s m args below meth c (MQ below (zQ D b (n0 + 0) P) args s 0 0 (fun q => b ≤ q)) 3 D b n0)) := by
  unfold B_X6_think_0
  exact (s_aload_n X dX6_think_0 rfl (s_iconst X dX6_think_1 (by decide) (s_dup2 X dX6_think_2 (s_iald X dX6_think_3 (s_iconst X dX6_think_4 (by decide) (s_iadd X dX6_think_5 (s_iast X dX6_think_6 (s_aload_n X dX6_think_7 rfl (s_bipush X dX6_think_8 (by decide) (s_bipush X dX6_think_10 (by decide) (s_iload_n X dX6_think_12 rfl (s_imul X dX6_think_13 (s_iadd X dX6_think_14 (s_iload_n X dX6_think_15 rfl (s_iadd X dX6_think_16 (s_aload_n X dX6_think_17 rfl (s_iconst X dX6_think_18 (by decide) (s_iald X dX6_think_19 (s_iast X dX6_think_20 (s_vret X dX6_think_21 hr))))))))))))))))))))
theorem w_X6_think (la : Launch) (sp : zSp) (vc : zVC_X6_think sp) : zMet la yX6_think wsX6_think (rm_X6_think) 0 0 sp :=
  z_of (cc := cX6_think) (maxL := 3) (ret := none) (by decide +kernel) rfl (fun p e s m args below meth c D cy b n as E P hsp X hr hin => by
    obtain ⟨h1, h2⟩ := vc b cy n as E P (zAt p la e (rm_X6_think) s m args below meth c (MQ below (zQ D b (n + 0) P) args s 0 0 (fun q => b ≤ q)) 3 D b n) hsp
    exact ⟨h1, S_X6_think_0 la X hr _ _ _ _ _ h2⟩)

theorem m_X6_think (la : Launch) : zMet la yX6_think wsX6_think rm_X6_think 0 0 sp_X6_think := w_X6_think la _ vc_X6_think
def sp_X6_take : zSp := fun b cy as N E P => ∃ (n L : Nat) (lo la c : Nat → Nat) (f h : Nat → Int32), as = [.ref (b + 159)] ∧ zMR b cy N E n lo la ∧ zWr cy E 166 L n f c ∧ E 168 = .inl (cy 1, 52, .inl h) ∧ (∀ E' f', zWr cy E' 168 52 n f' c → (∀ j, j ≠ 168 → E' j = E j) → P none E')
abbrev rm_X6_take : Room := { frames := 1, cells := 0, slots := 0, locals := 40 }
def B_X6_take_2 (b n0 : Nat) (cy : zY) (P : zPo) (A : Nat → zC) : zC :=
  z_iload 1 (z_const (52) (z_icmp (fun x y => y ≤ x) (z_vret 0 0 P) (z_aload 0 (z_get b n0 6 16 (z_iload 1 (z_aload 0 (z_get b n0 6 14 (z_iload 1 (z_ald b n0 (cy 1) (z_ast b n0 (cy 1) (fun x => x) (z_iinc 1 (1) (z_cut [0, 1] (A 2)))))))))))))
def B_X6_take_0 (b n0 : Nat) (cy : zY) (P : zPo) (A : Nat → zC) : zC :=
  z_const (0) (z_istore 1 (z_cut [0, 1] (A 2)))
def zVC_X6_take (sp : zSp) : Prop := ∀ (b : Nat) (cy : zY) (n : Nat) (as : List Value) (E : zE) (P : zPo) (A : Nat → zC), (∀ l st k u E, B_X6_take_2 b n cy P A l st k u E → A 2 l st k u E) → sp b cy as n E P → zgood as 2 ∧ B_X6_take_0 b n cy P A (lv_args 0 as) [] 0 0 E

set_option maxRecDepth 100000 in
set_option maxHeartbeats 4000000 in
theorem vc_X6_take : zVC_X6_take sp_X6_take := by
  intro b cy N as E P A hA hsp
  obtain ⟨n, L, lo, la, c, f, h, rfl, hR, ⟨hL, hL2, hE, hc⟩, hh, hP⟩ := hsp
  refine ⟨⟨Nat.le_of_ble_eq_true rfl, zg1 rfl (zg0)⟩, ?_⟩
  obtain ⟨⟨tr, ty, lt, qq, st, so, va, fa, se, e0⟩, _, _, _, hn, _, hN⟩ := id hR
  have N0 : 159 < N := by omega
  have N6 : 166 < N := by omega
  have N8 : 168 < N := by omega
  have loop : ∀ (d k : Nat) (g : Nat → Int32) (E1 : zE), d + k = 52 → (∀ j, j < k → g j = f j) → E1 168 = .inl (cy 1, 52, .inl g) → (∀ j, j ≠ 168 → E1 j = E j) → A 2 [(0, .ref (b + 159)), (1, .int (nI k))] [] 0 0 E1 := by
    intro d
    induction d with
    | zero =>
      intro k g E1 hd hg g1 gk
      obtain rfl : k = 52 := by omega
      apply hA
      have cle : (52 : Int32) ≤ nI 52 := by decide
      simp -implicitDefEqProofs only [B_X6_take_2, e_cut, e_iload, e_aload, e_istore, e_astore, e_iinc, e_const, e_lconst, e_bin, e_bin0, e_un, e_ladd, e_dupi, e_dupr, e_dup2, e_pop, e_sw, e_sw0, e_sw1, e_get, e_put, e_ald, e_ast, e_aald, e_aast, e_copy, e_new, e_newa, e_anewa, e_min, e_abs, e_oinit, e_callI, e_callV, e_callS, e_iret, e_zret, e_lret, e_vret, e_tl1, e_tl0, e_tl2, e_tl3, z10, Bool.false_eq_true, e_argi, e_argr, e_argn, zld_c, zst_n, zst_c, zpick_n, zpick_c, List.drop_succ_cons, List.drop_zero, List.take_succ_cons, List.take_zero, List.length_cons, List.length_nil, List.reverse_cons, List.reverse_nil, List.nil_append, List.cons_append, List.append_nil, List.getElem?_cons_zero, List.getElem?_cons_succ, List.set_cons_zero, List.set_cons_succ, Nat.add_sub_cancel_left, Nat.sub_self, Nat.add_zero, Nat.zero_add, Nat.le_add_right, Nat.le_refl, true_and, and_true, va_rf, zok, Nat.add_left_cancel_iff, Nat.add_eq_left, Nat.left_eq_add, eq_self, if_true, if_false, not_false_eq_true, not_true_eq_false, false_implies, true_implies, Nat.reduceEqDiff, Nat.reduceAdd, Nat.reduceLT, Nat.reduceLeDiff, reduceIte, e_icmpt (c2 := fun x y => y ≤ x) cle]
      obtain ⟨c0, c4, c10, c16⟩ := zCm0 hc
      refine hP E1 g ⟨by omega, by omega, g1, ⟨?_, ?_, ?_, ?_⟩⟩ gk
      · intro j hj; rw [Nat.zero_add, hg _ (by omega)]; exact c0 j hj
      · intro j hj; rw [Nat.zero_add, hg _ (by omega)]; exact c4 j hj
      · intro j hj; rw [Nat.zero_add, hg _ (by omega)]; exact c10 j hj
      · intro j hj; rw [Nat.zero_add, hg _ (by omega)]; exact c16 j hj
    | succ d ih =>
      intro k g E1 hd hg g1 gk
      apply hA
      have cle : ¬ (52 : Int32) ≤ nI k := nI_ge (b := 52) (show k < 52 by omega) (by decide)
      have hin : vp_in (nI k) 52 := vp_in_nI (by omega) (by omega)
      have hin2 : vp_in (nI k) L := vp_in_nI (by omega) (by omega)
      have hcl : (nI k).toNatClampNeg = k := nI_clamp (by omega)
      have f0 := (gk 159 (by omega)).trans e0
      have f6 := (gk 166 (by omega)).trans hE
      simp -implicitDefEqProofs only [B_X6_take_2, e_cut, e_iload, e_aload, e_istore, e_astore, e_iinc, e_const, e_lconst, e_bin, e_bin0, e_un, e_ladd, e_dupi, e_dupr, e_dup2, e_pop, e_sw, e_sw0, e_sw1, e_get, e_put, e_ald, e_ast, e_aald, e_aast, e_copy, e_new, e_newa, e_anewa, e_min, e_abs, e_oinit, e_callI, e_callV, e_callS, e_iret, e_zret, e_lret, e_vret, e_tl1, e_tl0, e_tl2, e_tl3, z10, Bool.false_eq_true, e_argi, e_argr, e_argn, zld_c, zst_n, zst_c, zpick_n, zpick_c, List.drop_succ_cons, List.drop_zero, List.take_succ_cons, List.take_zero, List.length_cons, List.length_nil, List.reverse_cons, List.reverse_nil, List.nil_append, List.cons_append, List.append_nil, List.getElem?_cons_zero, List.getElem?_cons_succ, List.set_cons_zero, List.set_cons_succ, Nat.add_sub_cancel_left, Nat.sub_self, Nat.add_zero, Nat.zero_add, Nat.le_add_right, Nat.le_refl, true_and, and_true, va_rf, zok, Nat.add_left_cancel_iff, Nat.add_eq_left, Nat.left_eq_add, eq_self, if_true, if_false, not_false_eq_true, not_true_eq_false, false_implies, true_implies, Nat.reduceEqDiff, Nat.reduceAdd, Nat.reduceLT, Nat.reduceLeDiff, reduceIte, e_icmpf (c2 := fun x y => y ≤ x) cle, zM0, f0, f6, g1, N0, N6, N8, hin, hin2, hcl, nI_1]
      refine ih (k + 1) (upd g k (f k)) _ (by omega) (fun j hj => ?_) u_eq (fun j hj => (u_ne hj).trans (gk j hj))
      simp only [upd]
      by_cases e : j = k
      · rw [if_pos e, e]
      · rw [if_neg e]; exact hg j (by omega)
  simp -implicitDefEqProofs only [B_X6_take_0, e_cut, e_iload, e_aload, e_istore, e_astore, e_iinc, e_const, e_lconst, e_bin, e_bin0, e_un, e_ladd, e_dupi, e_dupr, e_dup2, e_pop, e_sw, e_sw0, e_sw1, e_get, e_put, e_ald, e_ast, e_aald, e_aast, e_copy, e_new, e_newa, e_anewa, e_min, e_abs, e_oinit, e_callI, e_callV, e_callS, e_iret, e_zret, e_lret, e_vret, e_tl1, e_tl0, e_tl2, e_tl3, z10, Bool.false_eq_true, e_argi, e_argr, e_argn, zld_c, zst_n, zst_c, zpick_n, zpick_c, List.drop_succ_cons, List.drop_zero, List.take_succ_cons, List.take_zero, List.length_cons, List.length_nil, List.reverse_cons, List.reverse_nil, List.nil_append, List.cons_append, List.append_nil, List.getElem?_cons_zero, List.getElem?_cons_succ, List.set_cons_zero, List.set_cons_succ, Nat.add_sub_cancel_left, Nat.sub_self, Nat.add_zero, Nat.zero_add, Nat.le_add_right, Nat.le_refl, true_and, and_true, va_rf, zok, Nat.add_left_cancel_iff, Nat.add_eq_left, Nat.left_eq_add, eq_self, if_true, if_false, not_false_eq_true, not_true_eq_false, false_implies, true_implies, Nat.reduceEqDiff, Nat.reduceAdd, Nat.reduceLT, Nat.reduceLeDiff, reduceIte]
  exact loop 52 0 h E rfl (fun j hj => absurd hj (Nat.not_lt_zero _)) hh (fun _ _ => rfl)
set_option maxRecDepth 20000 in
theorem f_X6_take_36 : Cond.fieldLink RX6 36 (TX6 16).1 (TX6 16).2.1 (TX6 16).2.2.1 ∈ wsX6_take := by decide +kernel
set_option maxRecDepth 20000 in
theorem k_X6_take_6 : ∀ w ∈ u_ws RX6 TX6 21, w ∈ wsX6_take := fun _ h => List.mem_cons_of_mem _ (List.mem_append_right _ h)
set_option maxRecDepth 20000 in
theorem f_X6_take_29 : Cond.fieldLink RX6 29 (TX6 14).1 (TX6 14).2.1 (TX6 14).2.2.1 ∈ wsX6_take := by decide +kernel
set_option maxRecDepth 100000 in
set_option maxHeartbeats 4000000 in
theorem S_X6_take_2 {p : Program} {e : Env} {s : State} {m : MethodId} {args : Array Value} {below : List Frame} {meth : Method} {c : Code} {D : va_G} {cy : zY} {b n0 : Nat} {P : zPo} (la : Launch) (X : zX p la e (rm_X6_take) s m args below meth c 2 D cy b n0 cX6_take wsX6_take RX6) (hr : meth.sig.returnType = none) : zS p la e (rm_X6_take) s m args below meth c (MQ below (zQ D b (n0 + 0) P) args s 0 0 (fun q => b ≤ q)) 2 D b n0 2 (B_X6_take_2 b n0 cy P (zAt p la e (rm_X6_take) s m args below meth c (MQ below (zQ D b (n0 + 0) P) args s 0 0 (fun q => b ≤ q)) 2 D b n0)) := by
  unfold B_X6_take_2
  exact (s_iload_n X dX6_take_2 rfl (s_bipush X dX6_take_3 (by decide) (s_icmp_ge X dX6_take_5 (by decide) (s_vret X dX6_take_26 hr) (s_aload_n X dX6_take_8 rfl (s_get X dX6_take_9 rfl k_X6_take_6 (by decide) f_X6_take_36 (s_iload_n X dX6_take_12 rfl (s_aload_n X dX6_take_13 rfl (s_get X dX6_take_14 rfl k_X6_take_6 (by decide) f_X6_take_29 (s_iload_n X dX6_take_17 rfl (s_iald X dX6_take_18 (s_iast X dX6_take_19 (s_iinc X dX6_take_20 (by decide) (by decide) (s_goto X dX6_take_23 (by decide) (s_cut (by decide) zS_at))))))))))))))
set_option maxRecDepth 100000 in
set_option maxHeartbeats 4000000 in
theorem S_X6_take_0 {p : Program} {e : Env} {s : State} {m : MethodId} {args : Array Value} {below : List Frame} {meth : Method} {c : Code} {D : va_G} {cy : zY} {b n0 : Nat} {P : zPo} (la : Launch) (X : zX p la e (rm_X6_take) s m args below meth c 2 D cy b n0 cX6_take wsX6_take RX6) (hr : meth.sig.returnType = none) : zS p la e (rm_X6_take) s m args below meth c (MQ below (zQ D b (n0 + 0) P) args s 0 0 (fun q => b ≤ q)) 2 D b n0 0 (B_X6_take_0 b n0 cy P (zAt p la e (rm_X6_take) s m args below meth c (MQ below (zQ D b (n0 + 0) P) args s 0 0 (fun q => b ≤ q)) 2 D b n0)) := by
  unfold B_X6_take_0
  exact (s_iconst X dX6_take_0 (by decide) (s_istore_n X dX6_take_1 rfl (by decide) (s_cut (by decide) zS_at)))
theorem w_X6_take (la : Launch) (sp : zSp) (vc : zVC_X6_take sp) : zMet la yX6_take wsX6_take (rm_X6_take) 0 0 sp :=
  z_of (cc := cX6_take) (maxL := 2) (ret := none) (by decide +kernel) rfl (fun p e s m args below meth c D cy b n as E P hsp X hr hin => by
    obtain ⟨h1, h2⟩ := vc b cy n as E P (zAt p la e (rm_X6_take) s m args below meth c (MQ below (zQ D b (n + 0) P) args s 0 0 (fun q => b ≤ q)) 2 D b n) (fun _ _ _ _ _ q => S_X6_take_2 la X hr _ _ _ _ _ q) hsp
    exact ⟨h1, S_X6_take_0 la X hr _ _ _ _ _ h2⟩)

theorem m_X6_take (la : Launch) : zMet la yX6_take wsX6_take rm_X6_take 0 0 sp_X6_take := w_X6_take la _ vc_X6_take

