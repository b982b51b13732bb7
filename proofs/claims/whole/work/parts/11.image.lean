def sp_X2_copyFrom : zSp := fun b cy as N E P => ∃ (p q n many : Nat) (past : Nat → Nat → Nat), as = [.ref (b + p), .ref (b + q)] ∧ zPaS b cy E p ∧ zPa b cy E q n many past ∧ p + 41 < N ∧ q + 41 < N ∧ (p + 41 < q ∨ q + 41 < p) ∧ (∀ E', zPa b cy E' p n many past → (∀ k, k < p ∨ p + 41 < k → E' k = E k) → P none E')
abbrev rm_X2_copyFrom : Room := { frames := 2, cells := 0, slots := 0, locals := 61 }
def B_X2_copyFrom_15 (b n0 : Nat) (cy : zY) (P : zPo) (A : Nat → zC) : zC :=
  z_iload 2 (z_aload 0 (z_get b n0 2 0 (z_icmp (fun x y => y ≤ x) (z_vret 0 0 P) (z_aload 0 (z_get b n0 2 2 (z_iload 2 (z_aald b n0 (cy 4) (z_aload 1 (z_get b n0 2 2 (z_aload 1 (z_iload 2 (z_callV b n0 0 0 cy 2 1 0 0 sp_X2_placeOf (z_aald b n0 (cy 4) (z_callV b n0 0 0 cy 1 1 0 0 sp_X1_copyFrom (z_iinc 2 (1) (z_cut [0, 1, 2] (A 15)))))))))))))))))
def B_X2_copyFrom_0 (b n0 : Nat) (cy : zY) (P : zPo) (A : Nat → zC) : zC :=
  z_aload 0 (z_aload 1 (z_get b n0 2 0 (z_put b n0 2 0 0 (z_aload 0 (z_const (0) (z_put b n0 2 1 0 (z_const (0) (z_istore 2 (z_cut [0, 1, 2] (A 15))))))))))
def zVC_X2_copyFrom (sp : zSp) : Prop := ∀ (b : Nat) (cy : zY) (n : Nat) (as : List Value) (E : zE) (P : zPo) (A : Nat → zC), (∀ l st k u E, B_X2_copyFrom_15 b n cy P A l st k u E → A 15 l st k u E) → sp b cy as n E P → zgood as 3 ∧ B_X2_copyFrom_0 b n cy P A (lv_args 0 as) [] 0 0 E

set_option maxRecDepth 100000 in
set_option maxHeartbeats 4000000 in
theorem vc_X2_copyFrom : zVC_X2_copyFrom sp_X2_copyFrom := by
  intro b cy N as E P A hA hsp
  obtain ⟨p, q, n, many, past, rfl, ⟨s0, s1, g, i0, i1, ig, is⟩, ⟨hm, old, f, ho, h0, h1, hf, hs, hp⟩, hpN, hqN, hpq, hP⟩ := hsp
  refine ⟨⟨Nat.le_of_ble_eq_true rfl, zg1 rfl (zg1 rfl (zg0))⟩, ?_⟩
  have hp0 : p < N := by omega
  have hp1 : p + 1 < N := by omega
  have hq0 : q < N := by omega
  have hq1 : q + 1 < N := by omega
  have loop : ∀ (d t : Nat) (E1 : zE) (hd : d + t = many), E1 p = .inr (2, [.int (nI many), .int (nI 0), .ref (b + (p + 1))]) → E1 (p + 1) = E (p + 1) → (∀ j, j < 10 → zSh b cy E1 (p + 2 + 4 * j)) → (∀ j, j < t → zMo b cy E1 (p + 2 + 4 * j) n (past j)) → (∀ k, k < p ∨ p + 41 < k → E1 k = E k) → A 15 [(0, .ref (b + p)), (1, .ref (b + q)), (2, .int (nI t))] [] 0 0 E1 := by
    intro d
    induction d with
    | zero =>
      intro t E1 hd e0 e1 es em ek
      obtain rfl : t = many := by omega
      apply hA
      have cle : nI t ≤ nI t := nI_le (Nat.le_refl _) (by omega)
      simp only [B_X2_copyFrom_0, B_X2_copyFrom_15, e_cut, e_iload, e_aload, e_istore, e_astore, e_iinc, e_const, e_lconst, e_bin, e_bin0, e_un, e_ladd, e_dupi, e_dupr, e_dup2, e_pop, e_if, e_icmp, e_sw, e_sw0, e_sw1, e_get, e_put, e_ald, e_ast, e_aald, e_aast, e_copy, e_new, e_newa, e_anewa, e_min, e_abs, e_oinit, e_callI, e_callV, e_callS, e_iret, e_zret, e_lret, e_vret, e_tl1, e_tl0, e_tl2, e_tl3, z10, Bool.false_eq_true, e_argi, e_argr, e_argn, zld_c, zst_n, zst_c, zpick_n, zpick_c, List.drop_succ_cons, List.drop_zero, List.take_succ_cons, List.take_zero, List.length_cons, List.length_nil, List.reverse_cons, List.reverse_nil, List.nil_append, List.cons_append, List.append_nil, List.getElem?_cons_zero, List.getElem?_cons_succ, List.set_cons_zero, List.set_cons_succ, Nat.add_sub_cancel_left, Nat.sub_self, Nat.add_zero, Nat.zero_add, Nat.le_add_right, Nat.le_refl, true_and, and_true, va_rf, zok, Nat.add_left_cancel_iff, Nat.add_eq_left, Nat.left_eq_add, eq_self, if_true, if_false, not_false_eq_true, not_true_eq_false, false_implies, true_implies, Nat.reduceEqDiff, Nat.reduceAdd, Nat.reduceLT, Nat.reduceLeDiff, reduceIte, e0, hp0, cle]
      refine hP _ ⟨hm, 0, g, by omega, e0, by rw [e1]; exact i1, ig, es, fun j hj => ?_⟩ ek
      have : (0 + j) % 10 = j := by omega
      rw [this]; exact em j hj
    | succ d ih =>
      intro t E1 hd e0 e1 es em ek
      have ht : t < many := by omega
      have ht10 : t < 10 := by omega
      apply hA
      have cle : ¬ nI many ≤ nI t := nI_ge ht (by omega)
      have hin : vp_in (nI t) 10 := vp_in_nI ht10 (by omega)
      have hcl : (nI t).toNatClampNeg = t := nI_clamp (by omega)
      have hlt : (old + t) % 10 < 10 := Nat.mod_lt _ (by omega)
      have hin2 : vp_in (nI ((old + t) % 10)) 10 := vp_in_nI hlt (by omega)
      have hcl2 : (nI ((old + t) % 10)).toNatClampNeg = (old + t) % 10 := nI_clamp (by omega)
      have e1' : E1 (p + 1) = .inl (cy 4, 10, .inr (.inr (.inr (.inr g)))) := by rw [e1]; exact i1
      have q0 : E1 q = .inr (2, [.int (nI many), .int (nI old), .ref (b + (q + 1))]) := by rw [ek _ (by omega)]; exact h0
      have q1 : E1 (q + 1) = .inl (cy 4, 10, .inr (.inr (.inr (.inr f)))) := by rw [ek _ (by omega)]; exact h1
      simp only [B_X2_copyFrom_0, B_X2_copyFrom_15, e_cut, e_iload, e_aload, e_istore, e_astore, e_iinc, e_const, e_lconst, e_bin, e_bin0, e_un, e_ladd, e_dupi, e_dupr, e_dup2, e_pop, e_if, e_icmp, e_sw, e_sw0, e_sw1, e_get, e_put, e_ald, e_ast, e_aald, e_aast, e_copy, e_new, e_newa, e_anewa, e_min, e_abs, e_oinit, e_callI, e_callV, e_callS, e_iret, e_zret, e_lret, e_vret, e_tl1, e_tl0, e_tl2, e_tl3, z10, Bool.false_eq_true, e_argi, e_argr, e_argn, zld_c, zst_n, zst_c, zpick_n, zpick_c, List.drop_succ_cons, List.drop_zero, List.take_succ_cons, List.take_zero, List.length_cons, List.length_nil, List.reverse_cons, List.reverse_nil, List.nil_append, List.cons_append, List.append_nil, List.getElem?_cons_zero, List.getElem?_cons_succ, List.set_cons_zero, List.set_cons_succ, Nat.add_sub_cancel_left, Nat.sub_self, Nat.add_zero, Nat.zero_add, Nat.le_add_right, Nat.le_refl, true_and, and_true, va_rf, zok, Nat.add_left_cancel_iff, Nat.add_eq_left, Nat.left_eq_add, eq_self, if_true, if_false, not_false_eq_true, not_true_eq_false, false_implies, true_implies, Nat.reduceEqDiff, Nat.reduceAdd, Nat.reduceLT, Nat.reduceLeDiff, reduceIte, e0, hp0, cle, e1', hp1, hin, hcl, ig t ht10, q0, hq0]
      refine ⟨q, old, t, nI many, .ref (b + (q + 1)), rfl, hq0, q0, ho, by omega, ?_⟩
      obtain ⟨z0, z1, z2, z3, f1, g1, k1, j0, j1, j2, j3⟩ := es t ht10
      have hjN : p + 2 + 4 * t < N := by omega
      simp only [e_cut, e_iload, e_aload, e_istore, e_astore, e_iinc, e_const, e_lconst, e_bin, e_bin0, e_un, e_ladd, e_dupi, e_dupr, e_dup2, e_pop, e_if, e_icmp, e_sw, e_sw0, e_sw1, e_get, e_put, e_ald, e_ast, e_aald, e_aast, e_copy, e_new, e_newa, e_anewa, e_min, e_abs, e_oinit, e_callI, e_callV, e_callS, e_iret, e_zret, e_lret, e_vret, e_tl1, e_tl0, e_tl2, e_tl3, z10, Bool.false_eq_true, e_argi, e_argr, e_argn, zld_c, zst_n, zst_c, zpick_n, zpick_c, List.drop_succ_cons, List.drop_zero, List.take_succ_cons, List.take_zero, List.length_cons, List.length_nil, List.reverse_cons, List.reverse_nil, List.nil_append, List.cons_append, List.append_nil, List.getElem?_cons_zero, List.getElem?_cons_succ, List.set_cons_zero, List.set_cons_succ, Nat.add_sub_cancel_left, Nat.sub_self, Nat.add_zero, Nat.zero_add, Nat.le_add_right, Nat.le_refl, true_and, and_true, va_rf, zok, Nat.add_left_cancel_iff, Nat.add_eq_left, Nat.left_eq_add, eq_self, if_true, if_false, not_false_eq_true, not_true_eq_false, false_implies, true_implies, Nat.reduceEqDiff, Nat.reduceAdd, Nat.reduceLT, Nat.reduceLeDiff, reduceIte, q1, hq1, hin2, hcl2, hf _ hlt, j0, hjN]
      refine ⟨p + 2 + 4 * t, q + 2 + 4 * ((old + t) % 10), n, past t, rfl, es t ht10, (hp t ht).congr (fun k a1 a2 => ek k (by omega)), by omega, by omega, by omega, fun E2 hm2 hk2 => ?_⟩
      simp only [e_cut, e_iload, e_aload, e_istore, e_astore, e_iinc, e_const, e_lconst, e_bin, e_bin0, e_un, e_ladd, e_dupi, e_dupr, e_dup2, e_pop, e_if, e_icmp, e_sw, e_sw0, e_sw1, e_get, e_put, e_ald, e_ast, e_aald, e_aast, e_copy, e_new, e_newa, e_anewa, e_min, e_abs, e_oinit, e_callI, e_callV, e_callS, e_iret, e_zret, e_lret, e_vret, e_tl1, e_tl0, e_tl2, e_tl3, z10, Bool.false_eq_true, e_argi, e_argr, e_argn, zld_c, zst_n, zst_c, zpick_n, zpick_c, List.drop_succ_cons, List.drop_zero, List.take_succ_cons, List.take_zero, List.length_cons, List.length_nil, List.reverse_cons, List.reverse_nil, List.nil_append, List.cons_append, List.append_nil, List.getElem?_cons_zero, List.getElem?_cons_succ, List.set_cons_zero, List.set_cons_succ, Nat.add_sub_cancel_left, Nat.sub_self, Nat.add_zero, Nat.zero_add, Nat.le_add_right, Nat.le_refl, true_and, and_true, va_rf, zok, Nat.add_left_cancel_iff, Nat.add_eq_left, Nat.left_eq_add, eq_self, if_true, if_false, not_false_eq_true, not_true_eq_false, false_implies, true_implies, Nat.reduceEqDiff, Nat.reduceAdd, Nat.reduceLT, Nat.reduceLeDiff, reduceIte, nI_1]
      refine ih (t + 1) E2 (by omega) (by rw [hk2 _ (by omega)]; exact e0) (by rw [hk2 _ (by omega)]; exact e1) (fun j hj => ?_) (fun j hj => ?_) (fun k hk => by rw [hk2 _ (by omega)]; exact ek k hk)
      · by_cases h : j = t
        · rw [h]; exact hm2.sh
        · exact (es j hj).congr (fun k a1 a2 => hk2 k (by omega))
      · by_cases h : j = t
        · rw [h]; exact hm2
        · exact (em j (by omega)).congr (fun k a1 a2 => hk2 k (by omega))
  have qp : (q = p) = False := eq_false (by omega)
  simp only [B_X2_copyFrom_0, B_X2_copyFrom_15, e_cut, e_iload, e_aload, e_istore, e_astore, e_iinc, e_const, e_lconst, e_bin, e_bin0, e_un, e_ladd, e_dupi, e_dupr, e_dup2, e_pop, e_if, e_icmp, e_sw, e_sw0, e_sw1, e_get, e_put, e_ald, e_ast, e_aald, e_aast, e_copy, e_new, e_newa, e_anewa, e_min, e_abs, e_oinit, e_callI, e_callV, e_callS, e_iret, e_zret, e_lret, e_vret, e_tl1, e_tl0, e_tl2, e_tl3, z10, Bool.false_eq_true, e_argi, e_argr, e_argn, zld_c, zst_n, zst_c, zpick_n, zpick_c, List.drop_succ_cons, List.drop_zero, List.take_succ_cons, List.take_zero, List.length_cons, List.length_nil, List.reverse_cons, List.reverse_nil, List.nil_append, List.cons_append, List.append_nil, List.getElem?_cons_zero, List.getElem?_cons_succ, List.set_cons_zero, List.set_cons_succ, Nat.add_sub_cancel_left, Nat.sub_self, Nat.add_zero, Nat.zero_add, Nat.le_add_right, Nat.le_refl, true_and, and_true, va_rf, zok, Nat.add_left_cancel_iff, Nat.add_eq_left, Nat.left_eq_add, eq_self, if_true, if_false, not_false_eq_true, not_true_eq_false, false_implies, true_implies, Nat.reduceEqDiff, Nat.reduceAdd, Nat.reduceLT, Nat.reduceLeDiff, reduceIte, h0, i0, hp0, hq0, e_up]
  refine loop many 0 _ rfl (by simp [e_up, nI_0]) (by simp [e_up]) (fun j hj => ?_) (fun j hj => absurd hj (Nat.not_lt_zero _)) (fun k hk => ?_)
  · exact (is j hj).congr (fun k a1 a2 => by simp only [e_up]; rw [if_neg (by omega), if_neg (by omega)])
  · simp only [e_up]; rw [if_neg (by omega), if_neg (by omega)]
set_option maxRecDepth 20000 in
theorem f_X2_copyFrom_18 : Cond.fieldLink RX2 18 (TX2 0).1 (TX2 0).2.1 (TX2 0).2.2.1 ∈ wsX2_copyFrom := by decide +kernel
set_option maxRecDepth 20000 in
theorem k_X2_copyFrom_2 : ∀ w ∈ u_ws RX2 TX2 3, w ∈ wsX2_copyFrom := fun _ h => List.mem_cons_of_mem _ (List.mem_append_left _ (List.mem_append_right _ h))
set_option maxRecDepth 20000 in
theorem f_X2_copyFrom_11 : Cond.fieldLink RX2 11 (TX2 2).1 (TX2 2).2.1 (TX2 2).2.2.1 ∈ wsX2_copyFrom := by decide +kernel
set_option maxRecDepth 20000 in
theorem f_X2_copyFrom_30 : Cond.fieldLink RX2 30 (TX2 1).1 (TX2 1).2.1 (TX2 1).2.2.1 ∈ wsX2_copyFrom := by decide +kernel
set_option maxRecDepth 100000 in
set_option maxHeartbeats 4000000 in
theorem S_X2_copyFrom_15 {p : Program} {e : Env} {s : State} {m : MethodId} {args : Array Value} {below : List Frame} {meth : Method} {c : Code} {D : va_G} {cy : zY} {b n0 : Nat} {P : zPo} (la : Launch) (X : zX p la e (rm_X2_copyFrom) s m args below meth c 3 D cy b n0 cX2_copyFrom wsX2_copyFrom RX2) (hr : meth.sig.returnType = none) (h_X1_copyFrom : zMet la yX1_copyFrom wsX1_copyFrom rm_X1_copyFrom 0 0 sp_X1_copyFrom) (h_X2_placeOf : zMet la yX2_placeOf wsX2_placeOf rm_X2_placeOf 0 0 sp_X2_placeOf) : zS p la e (rm_X2_copyFrom) s m args below meth c (MQ below (zQ D b (n0 + 0) P) args s 0 0 (fun q => b ≤ q)) 3 D b n0 15 (B_X2_copyFrom_15 b n0 cy P (zAt p la e (rm_X2_copyFrom) s m args below meth c (MQ below (zQ D b (n0 + 0) P) args s 0 0 (fun q => b ≤ q)) 3 D b n0)) := by
  unfold B_X2_copyFrom_15
  exact (s_iload_n X dX2_copyFrom_15 rfl (s_aload_n X dX2_copyFrom_16 rfl (s_get X dX2_copyFrom_17 rfl k_X2_copyFrom_2 (by decide) f_X2_copyFrom_18 (s_icmp_ge X dX2_copyFrom_20 (by decide) (s_vret X dX2_copyFrom_48 hr) (s_aload_n X dX2_copyFrom_23 rfl (s_get X dX2_copyFrom_24 rfl k_X2_copyFrom_2 (by decide) f_X2_copyFrom_11 (s_iload_n X dX2_copyFrom_27 rfl (s_aald X dX2_copyFrom_28 (t0 := 4) rfl (s_aload_n X dX2_copyFrom_29 rfl (s_get X dX2_copyFrom_30 rfl k_X2_copyFrom_2 (by decide) f_X2_copyFrom_11 (s_aload_n X dX2_copyFrom_33 rfl (s_iload_n X dX2_copyFrom_34 rfl (s_callV X h_X2_placeOf dX2_copyFrom_35 rfl gX2_copyFrom_X2_placeOf rfl rfl rfl (by decide +kernel) ⟨by decide, by decide⟩ (s_aald X dX2_copyFrom_38 (t0 := 4) rfl (s_callV X h_X1_copyFrom dX2_copyFrom_39 rfl gX2_copyFrom_X1_copyFrom rfl rfl rfl (by decide +kernel) ⟨by decide, by decide⟩ (s_iinc X dX2_copyFrom_42 (by decide) (by decide) (s_goto X dX2_copyFrom_45 (by decide) (s_cut (by decide) zS_at))))))))))))))))))
set_option maxRecDepth 100000 in
set_option maxHeartbeats 4000000 in
theorem S_X2_copyFrom_0 {p : Program} {e : Env} {s : State} {m : MethodId} {args : Array Value} {below : List Frame} {meth : Method} {c : Code} {D : va_G} {cy : zY} {b n0 : Nat} {P : zPo} (la : Launch) (X : zX p la e (rm_X2_copyFrom) s m args below meth c 3 D cy b n0 cX2_copyFrom wsX2_copyFrom RX2) (hr : meth.sig.returnType = none) (h_X1_copyFrom : zMet la yX1_copyFrom wsX1_copyFrom rm_X1_copyFrom 0 0 sp_X1_copyFrom) (h_X2_placeOf : zMet la yX2_placeOf wsX2_placeOf rm_X2_placeOf 0 0 sp_X2_placeOf) : zS p la e (rm_X2_copyFrom) s m args below meth c (MQ below (zQ D b (n0 + 0) P) args s 0 0 (fun q => b ≤ q)) 3 D b n0 0 (B_X2_copyFrom_0 b n0 cy P (zAt p la e (rm_X2_copyFrom) s m args below meth c (MQ below (zQ D b (n0 + 0) P) args s 0 0 (fun q => b ≤ q)) 3 D b n0)) := by
  unfold B_X2_copyFrom_0
  exact (s_aload_n X dX2_copyFrom_0 rfl (s_aload_n X dX2_copyFrom_1 rfl (s_get X dX2_copyFrom_2 rfl k_X2_copyFrom_2 (by decide) f_X2_copyFrom_18 (s_put X dX2_copyFrom_5 rfl k_X2_copyFrom_2 tyX2_ok nmX2 (by decide) f_X2_copyFrom_18 rfl (tyX2_ok 0 (by decide)) zok_int (s_aload_n X dX2_copyFrom_8 rfl (s_iconst X dX2_copyFrom_9 (by decide) (s_put X dX2_copyFrom_10 rfl k_X2_copyFrom_2 tyX2_ok nmX2 (by decide) f_X2_copyFrom_30 rfl (tyX2_ok 1 (by decide)) zok_int (s_iconst X dX2_copyFrom_13 (by decide) (s_istore_n X dX2_copyFrom_14 rfl (by decide) (s_cut (by decide) zS_at))))))))))
theorem w_X2_copyFrom (la : Launch) (h_X1_copyFrom : zMet la yX1_copyFrom wsX1_copyFrom rm_X1_copyFrom 0 0 sp_X1_copyFrom) (h_X2_placeOf : zMet la yX2_placeOf wsX2_placeOf rm_X2_placeOf 0 0 sp_X2_placeOf) (sp : zSp) (vc : zVC_X2_copyFrom sp) : zMet la yX2_copyFrom wsX2_copyFrom (rm_X2_copyFrom) 0 0 sp :=
  z_of (cc := cX2_copyFrom) (maxL := 3) (ret := none) (by decide +kernel) rfl (fun p e s m args below meth c D cy b n as E P hsp X hr hin => by
    obtain ⟨h1, h2⟩ := vc b cy n as E P (zAt p la e (rm_X2_copyFrom) s m args below meth c (MQ below (zQ D b (n + 0) P) args s 0 0 (fun q => b ≤ q)) 3 D b n) (fun _ _ _ _ _ q => S_X2_copyFrom_15 la X hr h_X1_copyFrom h_X2_placeOf _ _ _ _ _ q) hsp
    exact ⟨h1, S_X2_copyFrom_0 la X hr h_X1_copyFrom h_X2_placeOf _ _ _ _ _ h2⟩)

theorem m_X2_copyFrom (la : Launch) : zMet la yX2_copyFrom wsX2_copyFrom rm_X2_copyFrom 0 0 sp_X2_copyFrom := w_X2_copyFrom la (m_X1_copyFrom la) (m_X2_placeOf la) _ vc_X2_copyFrom
def sp_X2_init : zSp := fun b cy as N E P => ∃ p : Nat, as = [.ref (b + p)] ∧ N = p + 1 ∧ E p = .inr (2, [.int 0, .int 0, .null]) ∧ (∀ E', (∀ n past, zPa b cy E' p n 0 past) → (∀ j, j < p → E' j = E j) → P none E')
abbrev rm_X2_init : Room := { frames := 2, cells := 41, slots := 560, locals := 60 }
def B_X2_init_15 (b n0 : Nat) (cy : zY) (P : zPo) (A : Nat → zC) : zC :=
  z_iload 1 (z_const (10) (z_icmp (fun x y => y ≤ x) (z_vret 41 560 P) (z_aload 0 (z_get b n0 2 2 (z_iload 1 (z_new b n0 41 560 1 7 [.int 0, .int 0, .int 0, .int 0, .null, .null, .null] (z_dup (z_callI b n0 41 560 cy 3 48 sp_X1_init (z_aast b n0 (cy 4) 1 (z_iinc 1 (1) (z_cut [0, 1] (A 15))))))))))))
def B_X2_init_0 (b n0 : Nat) (cy : zY) (P : zPo) (A : Nat → zC) : zC :=
  z_aload 0 (z_oinit (z_aload 0 (z_const (10) (z_anewa b n0 41 560 (cy 4) (z_put b n0 2 2 1 (z_const (0) (z_istore 1 (z_cut [0, 1] (A 15)))))))))
def zVC_X2_init (sp : zSp) : Prop := ∀ (b : Nat) (cy : zY) (n : Nat) (as : List Value) (E : zE) (P : zPo) (A : Nat → zC), (∀ l st k u E, B_X2_init_15 b n cy P A l st k u E → A 15 l st k u E) → sp b cy as n E P → zgood as 2 ∧ B_X2_init_0 b n cy P A (lv_args 0 as) [] 0 0 E

set_option maxRecDepth 100000 in
set_option maxHeartbeats 4000000 in
theorem vc_X2_init : zVC_X2_init sp_X2_init := by
  intro b cy N as E P A hA hsp
  obtain ⟨p, rfl, rfl, h0, hP⟩ := hsp
  refine ⟨⟨Nat.le_of_ble_eq_true rfl, zg1 rfl (zg0)⟩, ?_⟩
  have q10 : (10 : Int32) = nI 10 := rfl
  have loop : ∀ (d t : Nat) (E1 : zE) (f : Nat → Option Nat) (hd : d + t = 10), E1 p = .inr (2, [.int 0, .int 0, .ref (b + (p + 1))]) → E1 (p + 1) = .inl (cy 4, 10, .inr (.inr (.inr (.inr f)))) → (∀ j, j < t → f j = some (b + (p + 2 + 4 * j))) → (∀ j, j < t → zSh b cy E1 (p + 2 + 4 * j)) → (∀ k, k < p → E1 k = E k) → A 15 [(0, .ref (b + p)), (1, .int (nI t))] [] (1 + 4 * t) (10 + 55 * t) E1 := by
    intro d
    induction d with
    | zero =>
      intro t E1 f hd e0 e1 ef es ek
      obtain rfl : t = 10 := by omega
      apply hA
      have cle : nI 10 ≤ nI 10 := nI_le (Nat.le_refl _) (by omega)
      simp only [B_X2_init_0, B_X2_init_15, e_cut, e_iload, e_aload, e_istore, e_astore, e_iinc, e_const, e_lconst, e_bin, e_bin0, e_un, e_ladd, e_dupi, e_dupr, e_dup2, e_pop, e_if, e_icmp, e_sw, e_sw0, e_sw1, e_get, e_put, e_ald, e_ast, e_aald, e_aast, e_copy, e_new, e_newa, e_anewa, e_min, e_abs, e_oinit, e_callI, e_callV, e_callS, e_iret, e_zret, e_lret, e_vret, e_tl1, e_tl0, e_tl2, e_tl3, z10, Bool.false_eq_true, e_argi, e_argr, e_argn, zld_c, zst_n, zst_c, zpick_n, zpick_c, List.drop_succ_cons, List.drop_zero, List.take_succ_cons, List.take_zero, List.length_cons, List.length_nil, List.reverse_cons, List.reverse_nil, List.nil_append, List.cons_append, List.append_nil, List.getElem?_cons_zero, List.getElem?_cons_succ, List.set_cons_zero, List.set_cons_succ, Nat.add_sub_cancel_left, Nat.sub_self, Nat.add_zero, Nat.zero_add, Nat.le_add_right, Nat.le_refl, true_and, and_true, va_rf, zok, Nat.add_left_cancel_iff, Nat.add_eq_left, Nat.left_eq_add, eq_self, if_true, if_false, not_false_eq_true, not_true_eq_false, false_implies, true_implies, Nat.reduceEqDiff, Nat.reduceAdd, Nat.reduceLT, Nat.reduceLeDiff, reduceIte, e0, q10, cle, Nat.reduceMul]
      exact hP _ (fun n past => ⟨by omega, 0, f, by omega, e0, e1, ef, es, fun j hj => absurd hj (Nat.not_lt_zero _)⟩) ek
    | succ d ih =>
      intro t E1 f hd e0 e1 ef es ek
      have ht : t < 10 := by omega
      apply hA
      have cle : ¬ nI 10 ≤ nI t := nI_ge ht (by omega)
      have hin : vp_in (nI t) 10 := vp_in_nI ht (by omega)
      have hcl : (nI t).toNatClampNeg = t := nI_clamp (by omega)
      have l0 : p < p + 2 + 4 * t := by omega
      have l1 : 1 + 4 * t + 1 ≤ 41 := by omega
      have l2 : 10 + 55 * t + 7 ≤ 560 := by omega
      have l3 : 1 + 4 * t + 1 + 3 ≤ 41 := by omega
      have l4 : 10 + 55 * t + 7 + 48 ≤ 560 := by omega
      have ad : p + 1 + (1 + 4 * t) = p + 2 + 4 * t := by omega
      simp only [B_X2_init_0, B_X2_init_15, e_cut, e_iload, e_aload, e_istore, e_astore, e_iinc, e_const, e_lconst, e_bin, e_bin0, e_un, e_ladd, e_dupi, e_dupr, e_dup2, e_pop, e_if, e_icmp, e_sw, e_sw0, e_sw1, e_get, e_put, e_ald, e_ast, e_aald, e_aast, e_copy, e_new, e_newa, e_anewa, e_min, e_abs, e_oinit, e_callI, e_callV, e_callS, e_iret, e_zret, e_lret, e_vret, e_tl1, e_tl0, e_tl2, e_tl3, z10, Bool.false_eq_true, e_argi, e_argr, e_argn, zld_c, zst_n, zst_c, zpick_n, zpick_c, List.drop_succ_cons, List.drop_zero, List.take_succ_cons, List.take_zero, List.length_cons, List.length_nil, List.reverse_cons, List.reverse_nil, List.nil_append, List.cons_append, List.append_nil, List.getElem?_cons_zero, List.getElem?_cons_succ, List.set_cons_zero, List.set_cons_succ, Nat.add_sub_cancel_left, Nat.sub_self, Nat.add_zero, Nat.zero_add, Nat.le_add_right, Nat.le_refl, true_and, and_true, va_rf, zok, Nat.add_left_cancel_iff, Nat.add_eq_left, Nat.left_eq_add, eq_self, if_true, if_false, not_false_eq_true, not_true_eq_false, false_implies, true_implies, Nat.reduceEqDiff, Nat.reduceAdd, Nat.reduceLT, Nat.reduceLeDiff, reduceIte, e0, q10, cle, l0, l1, l2, l3, l4, ad]
      refine ⟨p + 2 + 4 * t, rfl, by omega, by simp [e_up], fun E2 hs2 hk2 => ?_⟩
      have k2 : ∀ k, k < p + 2 + 4 * t → E2 k = E1 k := fun k hk => by rw [hk2 k hk]; simp only [e_up]; rw [if_neg (by omega)]
      have hs2' := hs2
      obtain ⟨z0, z1, z2, z3, f1, g1, k1, j0, j1, j2, j3⟩ := hs2'
      have e1' : E2 (p + 1) = .inl (cy 4, 10, .inr (.inr (.inr (.inr f)))) := by rw [k2 _ (by omega)]; exact e1
      have m0 : p + 1 < p + 1 + (1 + 4 * t + 1 + 3) := by omega
      have m1 : p + 2 + 4 * t < p + 1 + (1 + 4 * t + 1 + 3) := by omega
      simp only [e_cut, e_iload, e_aload, e_istore, e_astore, e_iinc, e_const, e_lconst, e_bin, e_bin0, e_un, e_ladd, e_dupi, e_dupr, e_dup2, e_pop, e_if, e_icmp, e_sw, e_sw0, e_sw1, e_get, e_put, e_ald, e_ast, e_aald, e_aast, e_copy, e_new, e_newa, e_anewa, e_min, e_abs, e_oinit, e_callI, e_callV, e_callS, e_iret, e_zret, e_lret, e_vret, e_tl1, e_tl0, e_tl2, e_tl3, z10, Bool.false_eq_true, e_argi, e_argr, e_argn, zld_c, zst_n, zst_c, zpick_n, zpick_c, List.drop_succ_cons, List.drop_zero, List.take_succ_cons, List.take_zero, List.length_cons, List.length_nil, List.reverse_cons, List.reverse_nil, List.nil_append, List.cons_append, List.append_nil, List.getElem?_cons_zero, List.getElem?_cons_succ, List.set_cons_zero, List.set_cons_succ, Nat.add_sub_cancel_left, Nat.sub_self, Nat.add_zero, Nat.zero_add, Nat.le_add_right, Nat.le_refl, true_and, and_true, va_rf, zok, Nat.add_left_cancel_iff, Nat.add_eq_left, Nat.left_eq_add, eq_self, if_true, if_false, not_false_eq_true, not_true_eq_false, false_implies, true_implies, Nat.reduceEqDiff, Nat.reduceAdd, Nat.reduceLT, Nat.reduceLeDiff, reduceIte, e1', hin, hcl, j0, m0, m1, nI_1]
      have h9 := ih (t + 1) (va_up E2 (p + 1) (.inl (cy 4, 10, .inr (.inr (.inr (.inr (va_up f t (some (b + (p + 2 + 4 * t)))))))))) (va_up f t (some (b + (p + 2 + 4 * t)))) (by omega)
        (by simp only [e_up]; rw [if_neg (by omega), k2 _ (by omega)]; exact e0) (by simp [e_up]) (fun j hj => by
          by_cases h : j = t
          · rw [h]; simp [va_up]
          · simp only [va_up]; rw [if_neg h]; exact ef j (by omega)) (fun j hj => by
          have hz : zSh b cy E2 (p + 2 + 4 * j) := by
            by_cases h : j = t
            · rw [h]; exact hs2
            · exact (es j (by omega)).congr (fun k a1 a2 => k2 k (by omega))
          exact hz.congr (fun k a1 a2 => by simp only [e_up]; rw [if_neg (by omega)])) (fun k hk => by simp only [e_up]; rw [if_neg (by omega), k2 _ (by omega)]; exact ek k hk)
      have a1 : 1 + 4 * (t + 1) = 1 + 4 * t + 1 + 3 := by omega
      have a2 : 10 + 55 * (t + 1) = 10 + 55 * t + 7 + 48 := by omega
      rw [a1, a2] at h9
      exact h9
  have d10 : (10 : Int32).toNatClampNeg = 10 := rfl
  have d100 : ¬ (10 : Int32) < 0 := by decide
  have l0 : p < p + 1 := by omega
  have l1 : p < p + 1 + 1 := by omega
  simp only [B_X2_init_0, B_X2_init_15, e_cut, e_iload, e_aload, e_istore, e_astore, e_iinc, e_const, e_lconst, e_bin, e_bin0, e_un, e_ladd, e_dupi, e_dupr, e_dup2, e_pop, e_if, e_icmp, e_sw, e_sw0, e_sw1, e_get, e_put, e_ald, e_ast, e_aald, e_aast, e_copy, e_new, e_newa, e_anewa, e_min, e_abs, e_oinit, e_callI, e_callV, e_callS, e_iret, e_zret, e_lret, e_vret, e_tl1, e_tl0, e_tl2, e_tl3, z10, Bool.false_eq_true, e_argi, e_argr, e_argn, zld_c, zst_n, zst_c, zpick_n, zpick_c, List.drop_succ_cons, List.drop_zero, List.take_succ_cons, List.take_zero, List.length_cons, List.length_nil, List.reverse_cons, List.reverse_nil, List.nil_append, List.cons_append, List.append_nil, List.getElem?_cons_zero, List.getElem?_cons_succ, List.set_cons_zero, List.set_cons_succ, Nat.add_sub_cancel_left, Nat.sub_self, Nat.add_zero, Nat.zero_add, Nat.le_add_right, Nat.le_refl, true_and, and_true, va_rf, zok, Nat.add_left_cancel_iff, Nat.add_eq_left, Nat.left_eq_add, eq_self, if_true, if_false, not_false_eq_true, not_true_eq_false, false_implies, true_implies, Nat.reduceEqDiff, Nat.reduceAdd, Nat.reduceLT, Nat.reduceLeDiff, reduceIte, h0, d10, d100, l0, l1, e_up]
  have h9 := loop 10 0 (va_up (va_up E (p + 1) (.inl (cy 4, 10, .inr (.inr (.inr (.inr (fun _ => none))))))) p (.inr (2, [.int 0, .int 0, .ref (b + (p + 1))]))) (fun _ => none) rfl (by simp [e_up]) (by simp [e_up]) (fun j hj => absurd hj (Nat.not_lt_zero _)) (fun j hj => absurd hj (Nat.not_lt_zero _)) (fun k hk => by simp only [e_up]; rw [if_neg (by omega), if_neg (by omega)])
  exact h9
set_option maxRecDepth 20000 in
theorem f_X2_init_11 : Cond.fieldLink RX2 11 (TX2 2).1 (TX2 2).2.1 (TX2 2).2.2.1 ∈ wsX2_init := by decide +kernel
set_option maxRecDepth 20000 in
theorem k_X2_init_2 : ∀ w ∈ u_ws RX2 TX2 3, w ∈ wsX2_init := fun _ h => List.mem_cons_of_mem _ (List.mem_append_left _ (List.mem_append_right _ h))
set_option maxRecDepth 20000 in
theorem k_X2_init_1 : ∀ w ∈ u_ws RX1 TX1 7, w ∈ wsX2_init := fun _ h => List.mem_cons_of_mem _ (List.mem_append_right _ h)
set_option maxRecDepth 20000 in
theorem f_X2_init_l9 : Cond.classLink RX2 9 RX1 ∈ wsX2_init := by decide +kernel
set_option maxRecDepth 20000 in
theorem f_X2_init_i1 : Cond.instantiable RX1 7 ∈ wsX2_init := by decide +kernel
set_option maxRecDepth 20000 in
theorem f_X2_init_z1 : Cond.initialized RX1 ∈ wsX2_init := by decide +kernel
set_option maxRecDepth 20000 in
theorem f_X2_init_zX1_init : Cond.initialized yX1_init.cls ∈ wsX2_init := by decide +kernel
set_option maxRecDepth 20000 in
theorem f_X2_init_nX1_init : Cond.instanceMethod yX1_init ∈ wsX2_init := by decide +kernel
set_option maxRecDepth 20000 in
theorem f_X2_init_m3 : Cond.methodLink RX2 3 Lib.objectInit ∈ wsX2_init := by decide +kernel
set_option maxRecDepth 20000 in
theorem f_X2_init_oi : Cond.instanceMethod Lib.objectInit ∈ wsX2_init := by decide +kernel
set_option maxRecDepth 20000 in
theorem f_X2_init_oc : Cond.code Lib.objectInit ⟨#[0xb1]⟩ 1 none ∈ wsX2_init := by decide +kernel
set_option maxRecDepth 100000 in
set_option maxHeartbeats 4000000 in
theorem S_X2_init_15 {p : Program} {e : Env} {s : State} {m : MethodId} {args : Array Value} {below : List Frame} {meth : Method} {c : Code} {D : va_G} {cy : zY} {b n0 : Nat} {P : zPo} (la : Launch) (X : zX p la e (rm_X2_init) s m args below meth c 2 D cy b n0 cX2_init wsX2_init RX2) (hr : meth.sig.returnType = none) (hin : yX2_init.name = "<init>" → meth.name = "<init>") (h_X1_init : zMet la yX1_init wsX1_init rm_X1_init 3 48 sp_X1_init) : zS p la e (rm_X2_init) s m args below meth c (MQ below (zQ D b (n0 + 41) P) args s 41 560 (fun q => b ≤ q)) 2 D b n0 15 (B_X2_init_15 b n0 cy P (zAt p la e (rm_X2_init) s m args below meth c (MQ below (zQ D b (n0 + 41) P) args s 41 560 (fun q => b ≤ q)) 2 D b n0)) := by
  unfold B_X2_init_15
  exact (s_iload_n X dX2_init_15 rfl (s_bipush X dX2_init_16 (by decide) (s_icmp_ge X dX2_init_18 (by decide) (s_vret X dX2_init_40 hr) (s_aload_n X dX2_init_21 rfl (s_get X dX2_init_22 rfl k_X2_init_2 (by decide) f_X2_init_11 (s_iload_n X dX2_init_25 rfl (s_new X dX2_init_26 rfl k_X2_init_1 tyX1_ok f_X2_init_l9 f_X2_init_i1 f_X2_init_z1 (by decide) (s_dup X dX2_init_29 (s_callN X h_X1_init dX2_init_30 gX2_init_X1_init_n17 rfl rfl rfl f_X2_init_zX1_init (host := RX5) (by decide +kernel) f_X2_init_nX1_init rfl (by decide +kernel) ⟨by decide, by decide⟩ (s_aast X dX2_init_33 rfl (t0 := 4) rfl (s_iinc X dX2_init_34 (by decide) (by decide) (s_goto X dX2_init_37 (by decide) (s_cut (by decide) zS_at)))))))))))))
set_option maxRecDepth 100000 in
set_option maxHeartbeats 4000000 in
theorem S_X2_init_0 {p : Program} {e : Env} {s : State} {m : MethodId} {args : Array Value} {below : List Frame} {meth : Method} {c : Code} {D : va_G} {cy : zY} {b n0 : Nat} {P : zPo} (la : Launch) (X : zX p la e (rm_X2_init) s m args below meth c 2 D cy b n0 cX2_init wsX2_init RX2) (hr : meth.sig.returnType = none) (hin : yX2_init.name = "<init>" → meth.name = "<init>") (h_X1_init : zMet la yX1_init wsX1_init rm_X1_init 3 48 sp_X1_init) : zS p la e (rm_X2_init) s m args below meth c (MQ below (zQ D b (n0 + 41) P) args s 41 560 (fun q => b ≤ q)) 2 D b n0 0 (B_X2_init_0 b n0 cy P (zAt p la e (rm_X2_init) s m args below meth c (MQ below (zQ D b (n0 + 41) P) args s 41 560 (fun q => b ≤ q)) 2 D b n0)) := by
  unfold B_X2_init_0
  exact (s_aload_n X dX2_init_0 rfl (s_objInit X dX2_init_1 f_X2_init_m3 f_X2_init_oi f_X2_init_oc (by decide) (by decide) (s_aload_n X dX2_init_4 rfl (s_bipush X dX2_init_5 (by decide) (s_anewa X dX2_init_7 (t0 := 4) rfl f_X2_init_l9 (fun h => h.2.2.1) (s_putF X dX2_init_10 (hin rfl) rfl k_X2_init_2 tyX2_ok nmX2 (by decide) f_X2_init_11 rfl rfl (tyX2_ok 2 (by decide)) zok_arr (s_iconst X dX2_init_13 (by decide) (s_istore_n X dX2_init_14 rfl (by decide) (s_cut (by decide) zS_at)))))))))
theorem w_X2_init (la : Launch) (h_X1_init : zMet la yX1_init wsX1_init rm_X1_init 3 48 sp_X1_init) (sp : zSp) (vc : zVC_X2_init sp) : zMet la yX2_init wsX2_init (rm_X2_init) 41 560 sp :=
  z_of (cc := cX2_init) (maxL := 2) (ret := none) (by decide +kernel) rfl (fun p e s m args below meth c D cy b n as E P hsp X hr hin => by
    obtain ⟨h1, h2⟩ := vc b cy n as E P (zAt p la e (rm_X2_init) s m args below meth c (MQ below (zQ D b (n + 41) P) args s 41 560 (fun q => b ≤ q)) 2 D b n) (fun _ _ _ _ _ q => S_X2_init_15 la X hr hin h_X1_init _ _ _ _ _ q) hsp
    exact ⟨h1, S_X2_init_0 la X hr hin h_X1_init _ _ _ _ _ h2⟩)

theorem m_X2_init (la : Launch) : zMet la yX2_init wsX2_init rm_X2_init 41 560 sp_X2_init := w_X2_init la (m_X1_init la) _ vc_X2_init
/-! BellCars$Image -/
def zIm (b : Nat) (cy : zY) (E : zE) (i n : Nat) (c : Nat → Nat) (many : Nat) (past : Nat → Nat → Nat) : Prop := E i = .inr (0, [.ref (b + (i + 1)), .ref (b + (i + 5))]) ∧ zMo b cy E (i + 1) n c ∧ zPa b cy E (i + 5) n many past
def zImS (b : Nat) (cy : zY) (E : zE) (i : Nat) : Prop := E i = .inr (0, [.ref (b + (i + 1)), .ref (b + (i + 5))]) ∧ zSh b cy E (i + 1) ∧ zPaS b cy E (i + 5)
theorem zIm.sh {b : Nat} {cy : zY} {E : zE} {i n : Nat} {c : Nat → Nat} {many : Nat} {past : Nat → Nat → Nat} (h : zIm b cy E i n c many past) : zImS b cy E i := ⟨h.1, h.2.1.sh, h.2.2.sh⟩
theorem zIm.congr {b : Nat} {cy : zY} {E E' : zE} {i n : Nat} {c : Nat → Nat} {many : Nat} {past : Nat → Nat → Nat} (h : zIm b cy E i n c many past) (hE : ∀ j, i ≤ j → j ≤ i + 46 → E' j = E j) : zIm b cy E' i n c many past := ⟨by rw [hE _ (by omega) (by omega)]; exact h.1, h.2.1.congr (fun j _ _ => hE j (by omega) (by omega)), h.2.2.congr (fun j _ _ => hE j (by omega) (by omega))⟩
theorem zImS.congr {b : Nat} {cy : zY} {E E' : zE} {i : Nat} (h : zImS b cy E i) (hE : ∀ j, i ≤ j → j ≤ i + 46 → E' j = E j) : zImS b cy E' i := ⟨by rw [hE _ (by omega) (by omega)]; exact h.1, h.2.1.congr (fun j _ _ => hE j (by omega) (by omega)), h.2.2.congr (fun j _ _ => hE j (by omega) (by omega))⟩
def sp_X0_copyFrom : zSp := fun b cy as N E P => ∃ (i j n : Nat) (c : Nat → Nat) (many : Nat) (past : Nat → Nat → Nat), as = [.ref (b + i), .ref (b + j)] ∧ zImS b cy E i ∧ zIm b cy E j n c many past ∧ i + 46 < N ∧ j + 46 < N ∧ (i + 46 < j ∨ j + 46 < i) ∧ (∀ E', zIm b cy E' i n c many past → (∀ k, k < i ∨ i + 46 < k → E' k = E k) → P none E')
abbrev rm_X0_copyFrom : Room := { frames := 3, cells := 0, slots := 0, locals := 83 }
def B_X0_copyFrom_0 (b n0 : Nat) (cy : zY) (P : zPo) (A : Nat → zC) : zC :=
  z_aload 0 (z_get b n0 0 0 (z_aload 1 (z_get b n0 0 0 (z_callV b n0 0 0 cy 1 1 0 0 sp_X1_copyFrom (z_aload 0 (z_get b n0 0 1 (z_aload 1 (z_get b n0 0 1 (z_callV b n0 0 0 cy 2 1 0 0 sp_X2_copyFrom (z_vret 0 0 P))))))))))
def zVC_X0_copyFrom (sp : zSp) : Prop := ∀ (b : Nat) (cy : zY) (n : Nat) (as : List Value) (E : zE) (P : zPo) (A : Nat → zC), sp b cy as n E P → zgood as 2 ∧ B_X0_copyFrom_0 b n cy P A (lv_args 0 as) [] 0 0 E

set_option maxRecDepth 100000 in
set_option maxHeartbeats 4000000 in
theorem vc_X0_copyFrom : zVC_X0_copyFrom sp_X0_copyFrom := by
  intro b cy N as E P A hsp
  obtain ⟨i, j, n, c, many, past, rfl, ⟨i0, i1, i2⟩, ⟨j0, j1, j2⟩, hi, hj, hij, hP⟩ := hsp
  refine ⟨⟨Nat.le_of_ble_eq_true rfl, zg1 rfl (zg1 rfl (zg0))⟩, ?_⟩
  have hi0 : i < N := by omega
  have hj0 : j < N := by omega
  have i1' := i1
  obtain ⟨z0, z1, z2, z3, f1, g1, k1, w0, w1, w2, w3⟩ := i1'
  have hi1 : i + 1 < N := by omega
  simp only [B_X0_copyFrom_0, e_cut, e_iload, e_aload, e_istore, e_astore, e_iinc, e_const, e_lconst, e_bin, e_bin0, e_un, e_ladd, e_dupi, e_dupr, e_dup2, e_pop, e_if, e_icmp, e_sw, e_sw0, e_sw1, e_get, e_put, e_ald, e_ast, e_aald, e_aast, e_copy, e_new, e_newa, e_anewa, e_min, e_abs, e_oinit, e_callI, e_callV, e_callS, e_iret, e_zret, e_lret, e_vret, e_tl1, e_tl0, e_tl2, e_tl3, z10, Bool.false_eq_true, e_argi, e_argr, e_argn, zld_c, zst_n, zst_c, zpick_n, zpick_c, List.drop_succ_cons, List.drop_zero, List.take_succ_cons, List.take_zero, List.length_cons, List.length_nil, List.reverse_cons, List.reverse_nil, List.nil_append, List.cons_append, List.append_nil, List.getElem?_cons_zero, List.getElem?_cons_succ, List.set_cons_zero, List.set_cons_succ, Nat.add_sub_cancel_left, Nat.sub_self, Nat.add_zero, Nat.zero_add, Nat.le_add_right, Nat.le_refl, true_and, and_true, va_rf, zok, Nat.add_left_cancel_iff, Nat.add_eq_left, Nat.left_eq_add, eq_self, if_true, if_false, not_false_eq_true, not_true_eq_false, false_implies, true_implies, Nat.reduceEqDiff, Nat.reduceAdd, Nat.reduceLT, Nat.reduceLeDiff, reduceIte, i0, j0, hi0, hj0, w0, hi1]
  refine ⟨i + 1, j + 1, n, c, rfl, i1, j1, by omega, by omega, by omega, fun E1 hm1 hk1 => ?_⟩
  have e0 : E1 i = .inr (0, [.ref (b + (i + 1)), .ref (b + (i + 5))]) := by rw [hk1 _ (by omega)]; exact i0
  have e1 : E1 j = .inr (0, [.ref (b + (j + 1)), .ref (b + (j + 5))]) := by rw [hk1 _ (by omega)]; exact j0
  have i2' : zPaS b cy E1 (i + 5) := i2.congr (fun k a1 a2 => hk1 k (by omega))
  have i2'' := i2'
  obtain ⟨y0, y1, g, v0, v1, v2, v3⟩ := i2''
  have hi5 : i + 5 < N := by omega
  simp only [e_cut, e_iload, e_aload, e_istore, e_astore, e_iinc, e_const, e_lconst, e_bin, e_bin0, e_un, e_ladd, e_dupi, e_dupr, e_dup2, e_pop, e_if, e_icmp, e_sw, e_sw0, e_sw1, e_get, e_put, e_ald, e_ast, e_aald, e_aast, e_copy, e_new, e_newa, e_anewa, e_min, e_abs, e_oinit, e_callI, e_callV, e_callS, e_iret, e_zret, e_lret, e_vret, e_tl1, e_tl0, e_tl2, e_tl3, z10, Bool.false_eq_true, e_argi, e_argr, e_argn, zld_c, zst_n, zst_c, zpick_n, zpick_c, List.drop_succ_cons, List.drop_zero, List.take_succ_cons, List.take_zero, List.length_cons, List.length_nil, List.reverse_cons, List.reverse_nil, List.nil_append, List.cons_append, List.append_nil, List.getElem?_cons_zero, List.getElem?_cons_succ, List.set_cons_zero, List.set_cons_succ, Nat.add_sub_cancel_left, Nat.sub_self, Nat.add_zero, Nat.zero_add, Nat.le_add_right, Nat.le_refl, true_and, and_true, va_rf, zok, Nat.add_left_cancel_iff, Nat.add_eq_left, Nat.left_eq_add, eq_self, if_true, if_false, not_false_eq_true, not_true_eq_false, false_implies, true_implies, Nat.reduceEqDiff, Nat.reduceAdd, Nat.reduceLT, Nat.reduceLeDiff, reduceIte, e0, e1, hi0, hj0, v0, hi5]
  refine ⟨i + 5, j + 5, n, many, past, rfl, i2', j2.congr (fun k a1 a2 => hk1 k (by omega)), by omega, by omega, by omega, fun E2 hm2 hk2 => ?_⟩
  simp only [e_cut, e_iload, e_aload, e_istore, e_astore, e_iinc, e_const, e_lconst, e_bin, e_bin0, e_un, e_ladd, e_dupi, e_dupr, e_dup2, e_pop, e_if, e_icmp, e_sw, e_sw0, e_sw1, e_get, e_put, e_ald, e_ast, e_aald, e_aast, e_copy, e_new, e_newa, e_anewa, e_min, e_abs, e_oinit, e_callI, e_callV, e_callS, e_iret, e_zret, e_lret, e_vret, e_tl1, e_tl0, e_tl2, e_tl3, z10, Bool.false_eq_true, e_argi, e_argr, e_argn, zld_c, zst_n, zst_c, zpick_n, zpick_c, List.drop_succ_cons, List.drop_zero, List.take_succ_cons, List.take_zero, List.length_cons, List.length_nil, List.reverse_cons, List.reverse_nil, List.nil_append, List.cons_append, List.append_nil, List.getElem?_cons_zero, List.getElem?_cons_succ, List.set_cons_zero, List.set_cons_succ, Nat.add_sub_cancel_left, Nat.sub_self, Nat.add_zero, Nat.zero_add, Nat.le_add_right, Nat.le_refl, true_and, and_true, va_rf, zok, Nat.add_left_cancel_iff, Nat.add_eq_left, Nat.left_eq_add, eq_self, if_true, if_false, not_false_eq_true, not_true_eq_false, false_implies, true_implies, Nat.reduceEqDiff, Nat.reduceAdd, Nat.reduceLT, Nat.reduceLeDiff, reduceIte]
  exact hP _ ⟨by rw [hk2 _ (by omega)]; exact e0, hm1.congr (fun k a1 a2 => hk2 k (by omega)), hm2⟩ (fun k hk => by rw [hk2 k (by omega), hk1 k (by omega)])
set_option maxRecDepth 20000 in
theorem f_X0_copyFrom_10 : Cond.fieldLink RX0 10 (TX0 0).1 (TX0 0).2.1 (TX0 0).2.2.1 ∈ wsX0_copyFrom := by decide +kernel
set_option maxRecDepth 20000 in
theorem k_X0_copyFrom_0 : ∀ w ∈ u_ws RX0 TX0 2, w ∈ wsX0_copyFrom := fun _ h => List.mem_cons_of_mem _ (List.mem_append_left _ (List.mem_append_left _ (List.mem_append_right _ h)))
set_option maxRecDepth 20000 in
theorem f_X0_copyFrom_19 : Cond.fieldLink RX0 19 (TX0 1).1 (TX0 1).2.1 (TX0 1).2.2.1 ∈ wsX0_copyFrom := by decide +kernel
set_option maxRecDepth 100000 in
set_option maxHeartbeats 4000000 in
theorem S_X0_copyFrom_0 {p : Program} {e : Env} {s : State} {m : MethodId} {args : Array Value} {below : List Frame} {meth : Method} {c : Code} {D : va_G} {cy : zY} {b n0 : Nat} {P : zPo} (la : Launch) (X : zX p la e (rm_X0_copyFrom) s m args below meth c 2 D cy b n0 cX0_copyFrom wsX0_copyFrom RX0) (hr : meth.sig.returnType = none) (h_X1_copyFrom : zMet la yX1_copyFrom wsX1_copyFrom rm_X1_copyFrom 0 0 sp_X1_copyFrom) (h_X2_copyFrom : zMet la yX2_copyFrom wsX2_copyFrom rm_X2_copyFrom 0 0 sp_X2_copyFrom) : zS p la e (rm_X0_copyFrom) s m args below meth c (MQ below (zQ D b (n0 + 0) P) args s 0 0 (fun q => b ≤ q)) 2 D b n0 0 (B_X0_copyFrom_0 b n0 cy P (zAt p la e (rm_X0_copyFrom) s m args below meth c (MQ below (zQ D b (n0 + 0) P) args s 0 0 (fun q => b ≤ q)) 2 D b n0)) := by
  unfold B_X0_copyFrom_0
  exact (s_aload_n X dX0_copyFrom_0 rfl (s_get X dX0_copyFrom_1 rfl k_X0_copyFrom_0 (by decide) f_X0_copyFrom_10 (s_aload_n X dX0_copyFrom_4 rfl (s_get X dX0_copyFrom_5 rfl k_X0_copyFrom_0 (by decide) f_X0_copyFrom_10 (s_callV X h_X1_copyFrom dX0_copyFrom_8 rfl gX0_copyFrom_X1_copyFrom rfl rfl rfl (by decide +kernel) ⟨by decide, by decide⟩ (s_aload_n X dX0_copyFrom_11 rfl (s_get X dX0_copyFrom_12 rfl k_X0_copyFrom_0 (by decide) f_X0_copyFrom_19 (s_aload_n X dX0_copyFrom_15 rfl (s_get X dX0_copyFrom_16 rfl k_X0_copyFrom_0 (by decide) f_X0_copyFrom_19 (s_callV X h_X2_copyFrom dX0_copyFrom_19 rfl gX0_copyFrom_X2_copyFrom rfl rfl rfl (by decide +kernel) ⟨by decide, by decide⟩ (s_vret X dX0_copyFrom_22 hr)))))))))))
theorem w_X0_copyFrom (la : Launch) (h_X1_copyFrom : zMet la yX1_copyFrom wsX1_copyFrom rm_X1_copyFrom 0 0 sp_X1_copyFrom) (h_X2_copyFrom : zMet la yX2_copyFrom wsX2_copyFrom rm_X2_copyFrom 0 0 sp_X2_copyFrom) (sp : zSp) (vc : zVC_X0_copyFrom sp) : zMet la yX0_copyFrom wsX0_copyFrom (rm_X0_copyFrom) 0 0 sp :=
  z_of (cc := cX0_copyFrom) (maxL := 2) (ret := none) (by decide +kernel) rfl (fun p e s m args below meth c D cy b n as E P hsp X hr hin => by
    obtain ⟨h1, h2⟩ := vc b cy n as E P (zAt p la e (rm_X0_copyFrom) s m args below meth c (MQ below (zQ D b (n + 0) P) args s 0 0 (fun q => b ≤ q)) 2 D b n) hsp
    exact ⟨h1, S_X0_copyFrom_0 la X hr h_X1_copyFrom h_X2_copyFrom _ _ _ _ _ h2⟩)

theorem m_X0_copyFrom (la : Launch) : zMet la yX0_copyFrom wsX0_copyFrom rm_X0_copyFrom 0 0 sp_X0_copyFrom := w_X0_copyFrom la (m_X1_copyFrom la) (m_X2_copyFrom la) _ vc_X0_copyFrom
def sp_X0_init : zSp := fun b cy as N E P => ∃ i : Nat, as = [.ref (b + i)] ∧ N = i + 1 ∧ E i = .inr (0, [.null, .null]) ∧ (∀ E', E' i = .inr (0, [.ref (b + (i + 1)), .ref (b + (i + 5))]) → zSh b cy E' (i + 1) → (∀ n past, zPa b cy E' (i + 5) n 0 past) → (∀ j, j < i → E' j = E j) → P none E')
abbrev rm_X0_init : Room := { frames := 3, cells := 46, slots := 618, locals := 81 }
def B_X0_init_0 (b n0 : Nat) (cy : zY) (P : zPo) (A : Nat → zC) : zC :=
  z_aload 0 (z_oinit (z_aload 0 (z_new b n0 46 618 1 7 [.int 0, .int 0, .int 0, .int 0, .null, .null, .null] (z_dup (z_callI b n0 46 618 cy 3 48 sp_X1_init (z_put b n0 0 0 1 (z_aload 0 (z_new b n0 46 618 2 3 [.int 0, .int 0, .null] (z_dup (z_callI b n0 46 618 cy 41 560 sp_X2_init (z_put b n0 0 1 1 (z_vret 46 618 P))))))))))))
def zVC_X0_init (sp : zSp) : Prop := ∀ (b : Nat) (cy : zY) (n : Nat) (as : List Value) (E : zE) (P : zPo) (A : Nat → zC), sp b cy as n E P → zgood as 1 ∧ B_X0_init_0 b n cy P A (lv_args 0 as) [] 0 0 E

set_option maxRecDepth 100000 in
set_option maxHeartbeats 4000000 in
theorem vc_X0_init : zVC_X0_init sp_X0_init := by
  intro b cy N as E P A hsp
  obtain ⟨i, rfl, rfl, h0, hP⟩ := hsp
  refine ⟨⟨Nat.le_of_ble_eq_true rfl, zg1 rfl (zg0)⟩, ?_⟩
  simp only [B_X0_init_0, e_cut, e_iload, e_aload, e_istore, e_astore, e_iinc, e_const, e_lconst, e_bin, e_bin0, e_un, e_ladd, e_dupi, e_dupr, e_dup2, e_pop, e_if, e_icmp, e_sw, e_sw0, e_sw1, e_get, e_put, e_ald, e_ast, e_aald, e_aast, e_copy, e_new, e_newa, e_anewa, e_min, e_abs, e_oinit, e_callI, e_callV, e_callS, e_iret, e_zret, e_lret, e_vret, e_tl1, e_tl0, e_tl2, e_tl3, z10, Bool.false_eq_true, e_argi, e_argr, e_argn, zld_c, zst_n, zst_c, zpick_n, zpick_c, List.drop_succ_cons, List.drop_zero, List.take_succ_cons, List.take_zero, List.length_cons, List.length_nil, List.reverse_cons, List.reverse_nil, List.nil_append, List.cons_append, List.append_nil, List.getElem?_cons_zero, List.getElem?_cons_succ, List.set_cons_zero, List.set_cons_succ, Nat.add_sub_cancel_left, Nat.sub_self, Nat.add_zero, Nat.zero_add, Nat.le_add_right, Nat.le_refl, true_and, and_true, va_rf, zok, Nat.add_left_cancel_iff, Nat.add_eq_left, Nat.left_eq_add, eq_self, if_true, if_false, not_false_eq_true, not_true_eq_false, false_implies, true_implies, Nat.reduceEqDiff, Nat.reduceAdd, Nat.reduceLT, Nat.reduceLeDiff, reduceIte]
  refine ⟨i + 1, rfl, rfl, by simp [e_up], fun E1 hs1 hk1 => ?_⟩
  have e0 : E1 i = .inr (0, [.null, .null]) := by rw [hk1 _ (by omega)]; simp only [e_up]; rw [if_neg (by omega)]; exact h0
  have l0 : i < i + 1 + 4 := by omega
  have ad : i + 1 + 4 = i + 5 := rfl
  simp only [e_cut, e_iload, e_aload, e_istore, e_astore, e_iinc, e_const, e_lconst, e_bin, e_bin0, e_un, e_ladd, e_dupi, e_dupr, e_dup2, e_pop, e_if, e_icmp, e_sw, e_sw0, e_sw1, e_get, e_put, e_ald, e_ast, e_aald, e_aast, e_copy, e_new, e_newa, e_anewa, e_min, e_abs, e_oinit, e_callI, e_callV, e_callS, e_iret, e_zret, e_lret, e_vret, e_tl1, e_tl0, e_tl2, e_tl3, z10, Bool.false_eq_true, e_argi, e_argr, e_argn, zld_c, zst_n, zst_c, zpick_n, zpick_c, List.drop_succ_cons, List.drop_zero, List.take_succ_cons, List.take_zero, List.length_cons, List.length_nil, List.reverse_cons, List.reverse_nil, List.nil_append, List.cons_append, List.append_nil, List.getElem?_cons_zero, List.getElem?_cons_succ, List.set_cons_zero, List.set_cons_succ, Nat.add_sub_cancel_left, Nat.sub_self, Nat.add_zero, Nat.zero_add, Nat.le_add_right, Nat.le_refl, true_and, and_true, va_rf, zok, Nat.add_left_cancel_iff, Nat.add_eq_left, Nat.left_eq_add, eq_self, if_true, if_false, not_false_eq_true, not_true_eq_false, false_implies, true_implies, Nat.reduceEqDiff, Nat.reduceAdd, Nat.reduceLT, Nat.reduceLeDiff, reduceIte, e0, l0, ad]
  refine ⟨i + 5, rfl, rfl, by simp [e_up], fun E2 hs2 hk2 => ?_⟩
  have k2 : ∀ k, k < i + 5 → E2 k = va_up E1 i (.inr (0, [.ref (b + (i + 1)), .null])) k := fun k hk => by rw [hk2 k hk]; simp only [e_up]; rw [if_neg (by omega)]
  have f0 : E2 i = .inr (0, [.ref (b + (i + 1)), .null]) := by rw [k2 _ (by omega)]; simp [e_up]
  have l1 : i < i + 1 + 46 := by omega
  simp only [e_cut, e_iload, e_aload, e_istore, e_astore, e_iinc, e_const, e_lconst, e_bin, e_bin0, e_un, e_ladd, e_dupi, e_dupr, e_dup2, e_pop, e_if, e_icmp, e_sw, e_sw0, e_sw1, e_get, e_put, e_ald, e_ast, e_aald, e_aast, e_copy, e_new, e_newa, e_anewa, e_min, e_abs, e_oinit, e_callI, e_callV, e_callS, e_iret, e_zret, e_lret, e_vret, e_tl1, e_tl0, e_tl2, e_tl3, z10, Bool.false_eq_true, e_argi, e_argr, e_argn, zld_c, zst_n, zst_c, zpick_n, zpick_c, List.drop_succ_cons, List.drop_zero, List.take_succ_cons, List.take_zero, List.length_cons, List.length_nil, List.reverse_cons, List.reverse_nil, List.nil_append, List.cons_append, List.append_nil, List.getElem?_cons_zero, List.getElem?_cons_succ, List.set_cons_zero, List.set_cons_succ, Nat.add_sub_cancel_left, Nat.sub_self, Nat.add_zero, Nat.zero_add, Nat.le_add_right, Nat.le_refl, true_and, and_true, va_rf, zok, Nat.add_left_cancel_iff, Nat.add_eq_left, Nat.left_eq_add, eq_self, if_true, if_false, not_false_eq_true, not_true_eq_false, false_implies, true_implies, Nat.reduceEqDiff, Nat.reduceAdd, Nat.reduceLT, Nat.reduceLeDiff, reduceIte, f0, l1]
  refine hP _ (by simp [e_up]) (hs1.congr (fun k a1 a2 => by simp only [e_up]; rw [if_neg (by omega), k2 _ (by omega)]; simp only [e_up]; rw [if_neg (by omega)])) (fun n past => (hs2 n past).congr (fun k a1 a2 => by simp only [e_up]; rw [if_neg (by omega)])) (fun k hk => ?_)
  simp only [e_up]; rw [if_neg (by omega), k2 _ (by omega)]; simp only [e_up]; rw [if_neg (by omega), hk1 _ (by omega)]; simp only [e_up]; rw [if_neg (by omega)]
set_option maxRecDepth 20000 in
theorem f_X0_init_m1 : Cond.methodLink RX0 1 Lib.objectInit ∈ wsX0_init := by decide +kernel
set_option maxRecDepth 20000 in
theorem f_X0_init_oi : Cond.instanceMethod Lib.objectInit ∈ wsX0_init := by decide +kernel
set_option maxRecDepth 20000 in
theorem f_X0_init_oc : Cond.code Lib.objectInit ⟨#[0xb1]⟩ 1 none ∈ wsX0_init := by decide +kernel
set_option maxRecDepth 20000 in
theorem k_X0_init_1 : ∀ w ∈ u_ws RX1 TX1 7, w ∈ wsX0_init := fun _ h => List.mem_cons_of_mem _ (List.mem_append_left _ (List.mem_append_left _ (List.mem_append_right _ h)))
set_option maxRecDepth 20000 in
theorem f_X0_init_l7 : Cond.classLink RX0 7 RX1 ∈ wsX0_init := by decide +kernel
set_option maxRecDepth 20000 in
theorem f_X0_init_i1 : Cond.instantiable RX1 7 ∈ wsX0_init := by decide +kernel
set_option maxRecDepth 20000 in
theorem f_X0_init_z1 : Cond.initialized RX1 ∈ wsX0_init := by decide +kernel
set_option maxRecDepth 20000 in
theorem f_X0_init_zX1_init : Cond.initialized yX1_init.cls ∈ wsX0_init := by decide +kernel
set_option maxRecDepth 20000 in
theorem f_X0_init_nX1_init : Cond.instanceMethod yX1_init ∈ wsX0_init := by decide +kernel
set_option maxRecDepth 20000 in
theorem f_X0_init_10 : Cond.fieldLink RX0 10 (TX0 0).1 (TX0 0).2.1 (TX0 0).2.2.1 ∈ wsX0_init := by decide +kernel
set_option maxRecDepth 20000 in
theorem k_X0_init_0 : ∀ w ∈ u_ws RX0 TX0 2, w ∈ wsX0_init := fun _ h => List.mem_cons_of_mem _ (List.mem_append_left _ (List.mem_append_right _ h))
set_option maxRecDepth 20000 in
theorem k_X0_init_2 : ∀ w ∈ u_ws RX2 TX2 3, w ∈ wsX0_init := fun _ h => List.mem_cons_of_mem _ (List.mem_append_right _ h)
set_option maxRecDepth 20000 in
theorem f_X0_init_l16 : Cond.classLink RX0 16 RX2 ∈ wsX0_init := by decide +kernel
set_option maxRecDepth 20000 in
theorem f_X0_init_i2 : Cond.instantiable RX2 3 ∈ wsX0_init := by decide +kernel
set_option maxRecDepth 20000 in
theorem f_X0_init_z2 : Cond.initialized RX2 ∈ wsX0_init := by decide +kernel
set_option maxRecDepth 20000 in
theorem f_X0_init_zX2_init : Cond.initialized yX2_init.cls ∈ wsX0_init := by decide +kernel
set_option maxRecDepth 20000 in
theorem f_X0_init_m18 : Cond.methodLink RX0 18 yX2_init ∈ wsX0_init := by decide +kernel
set_option maxRecDepth 20000 in
theorem f_X0_init_nX2_init : Cond.instanceMethod yX2_init ∈ wsX0_init := by decide +kernel
set_option maxRecDepth 20000 in
theorem f_X0_init_19 : Cond.fieldLink RX0 19 (TX0 1).1 (TX0 1).2.1 (TX0 1).2.2.1 ∈ wsX0_init := by decide +kernel
set_option maxRecDepth 100000 in
set_option maxHeartbeats 4000000 in
theorem S_X0_init_0 {p : Program} {e : Env} {s : State} {m : MethodId} {args : Array Value} {below : List Frame} {meth : Method} {c : Code} {D : va_G} {cy : zY} {b n0 : Nat} {P : zPo} (la : Launch) (X : zX p la e (rm_X0_init) s m args below meth c 1 D cy b n0 cX0_init wsX0_init RX0) (hr : meth.sig.returnType = none) (hin : yX0_init.name = "<init>" → meth.name = "<init>") (h_X1_init : zMet la yX1_init wsX1_init rm_X1_init 3 48 sp_X1_init) (h_X2_init : zMet la yX2_init wsX2_init rm_X2_init 41 560 sp_X2_init) : zS p la e (rm_X0_init) s m args below meth c (MQ below (zQ D b (n0 + 46) P) args s 46 618 (fun q => b ≤ q)) 1 D b n0 0 (B_X0_init_0 b n0 cy P (zAt p la e (rm_X0_init) s m args below meth c (MQ below (zQ D b (n0 + 46) P) args s 46 618 (fun q => b ≤ q)) 1 D b n0)) := by
  unfold B_X0_init_0
  exact (s_aload_n X dX0_init_0 rfl (s_objInit X dX0_init_1 f_X0_init_m1 f_X0_init_oi f_X0_init_oc (by decide) (by decide) (s_aload_n X dX0_init_4 rfl (s_new X dX0_init_5 rfl k_X0_init_1 tyX1_ok f_X0_init_l7 f_X0_init_i1 f_X0_init_z1 (by decide) (s_dup X dX0_init_8 (s_callN X h_X1_init dX0_init_9 gX0_init_X1_init_n9 rfl rfl rfl f_X0_init_zX1_init (host := RX5) (by decide +kernel) f_X0_init_nX1_init rfl (by decide +kernel) ⟨by decide, by decide⟩ (s_putF X dX0_init_12 (hin rfl) rfl k_X0_init_0 tyX0_ok nmX0 (by decide) f_X0_init_10 rfl rfl (tyX0_ok 0 (by decide)) zok_obj (s_aload_n X dX0_init_15 rfl (s_new X dX0_init_16 rfl k_X0_init_2 tyX2_ok f_X0_init_l16 f_X0_init_i2 f_X0_init_z2 (by decide) (s_dup X dX0_init_19 (s_callI X h_X2_init dX0_init_20 gX0_init_X2_init rfl rfl rfl f_X0_init_zX2_init f_X0_init_m18 f_X0_init_nX2_init rfl (by decide +kernel) ⟨by decide, by decide⟩ (s_putF X dX0_init_23 (hin rfl) rfl k_X0_init_0 tyX0_ok nmX0 (by decide) f_X0_init_19 rfl rfl (tyX0_ok 1 (by decide)) zok_obj (s_vret X dX0_init_26 hr)))))))))))))
theorem w_X0_init (la : Launch) (h_X1_init : zMet la yX1_init wsX1_init rm_X1_init 3 48 sp_X1_init) (h_X2_init : zMet la yX2_init wsX2_init rm_X2_init 41 560 sp_X2_init) (sp : zSp) (vc : zVC_X0_init sp) : zMet la yX0_init wsX0_init (rm_X0_init) 46 618 sp :=
  z_of (cc := cX0_init) (maxL := 1) (ret := none) (by decide +kernel) rfl (fun p e s m args below meth c D cy b n as E P hsp X hr hin => by
    obtain ⟨h1, h2⟩ := vc b cy n as E P (zAt p la e (rm_X0_init) s m args below meth c (MQ below (zQ D b (n + 46) P) args s 46 618 (fun q => b ≤ q)) 1 D b n) hsp
    exact ⟨h1, S_X0_init_0 la X hr hin h_X1_init h_X2_init _ _ _ _ _ h2⟩)

theorem m_X0_init (la : Launch) : zMet la yX0_init wsX0_init rm_X0_init 46 618 sp_X0_init := w_X0_init la (m_X1_init la) (m_X2_init la) _ vc_X0_init
/-! BellCars$Text: as it is made, a byte more -/
def sp_X3_init : zSp := fun b cy as N E P => ∃ i : Nat, as = [.ref (b + i)] ∧ N = i + 1 ∧ E i = .inr (3, [.int 0, .null, .int 0, .int 0, .int 0, .int 0, .int 0]) ∧ (∀ E', E' i = .inr (3, [.int 0, .ref (b + (i + 1)), .int 0, .int 0, .int 0, .int 0, .int 0]) → E' (i + 1) = .inl (cy 1, 120, .inl (fun _ => 0)) → (∀ j, j < i → E' j = E j) → P none E')
abbrev rm_X3_init : Room := { frames := 1, cells := 1, slots := 120, locals := 40 }
def B_X3_init_0 (b n0 : Nat) (cy : zY) (P : zPo) (A : Nat → zC) : zC :=
  z_aload 0 (z_oinit (z_aload 0 (z_const (120) (z_newa b n0 1 120 (cy 1) (z_put b n0 3 1 1 (z_vret 1 120 P))))))
def zVC_X3_init (sp : zSp) : Prop := ∀ (b : Nat) (cy : zY) (n : Nat) (as : List Value) (E : zE) (P : zPo) (A : Nat → zC), sp b cy as n E P → zgood as 1 ∧ B_X3_init_0 b n cy P A (lv_args 0 as) [] 0 0 E

set_option maxRecDepth 100000 in
set_option maxHeartbeats 4000000 in
theorem vc_X3_init : zVC_X3_init sp_X3_init := by
  intro b cy N as E P A hsp
  obtain ⟨i, rfl, rfl, h0, hP⟩ := hsp
  refine ⟨⟨Nat.le_of_ble_eq_true rfl, zg1 rfl (zg0)⟩, ?_⟩
  have d6 : (120 : Int32).toNatClampNeg = 120 := rfl
  have d60 : ¬ (120 : Int32) < 0 := by decide
  have l1 : i < i + 1 + 1 := by omega
  simp only [B_X3_init_0, e_cut, e_iload, e_aload, e_istore, e_astore, e_iinc, e_const, e_lconst, e_bin, e_bin0, e_un, e_ladd, e_dupi, e_dupr, e_dup2, e_pop, e_if, e_icmp, e_sw, e_sw0, e_sw1, e_get, e_put, e_ald, e_ast, e_aald, e_aast, e_copy, e_new, e_newa, e_anewa, e_min, e_abs, e_oinit, e_callI, e_callV, e_callS, e_iret, e_zret, e_lret, e_vret, e_tl1, e_tl0, e_tl2, e_tl3, z10, Bool.false_eq_true, e_argi, e_argr, e_argn, zld_c, zst_n, zst_c, zpick_n, zpick_c, List.drop_succ_cons, List.drop_zero, List.take_succ_cons, List.take_zero, List.length_cons, List.length_nil, List.reverse_cons, List.reverse_nil, List.nil_append, List.cons_append, List.append_nil, List.getElem?_cons_zero, List.getElem?_cons_succ, List.set_cons_zero, List.set_cons_succ, Nat.add_sub_cancel_left, Nat.sub_self, Nat.add_zero, Nat.zero_add, Nat.le_add_right, Nat.le_refl, true_and, and_true, va_rf, zok, Nat.add_left_cancel_iff, Nat.add_eq_left, Nat.left_eq_add, eq_self, if_true, if_false, not_false_eq_true, not_true_eq_false, false_implies, true_implies, Nat.reduceEqDiff, Nat.reduceAdd, Nat.reduceLT, Nat.reduceLeDiff, reduceIte, h0, d6, d60, l1, e_up]
  refine hP _ (by simp [e_up]) (by simp [e_up]) (fun k hk => ?_)
  simp only [e_up]; rw [if_neg (by omega), if_neg (by omega)]
set_option maxRecDepth 20000 in
theorem f_X3_init_m3 : Cond.methodLink RX3 3 Lib.objectInit ∈ wsX3_init := by decide +kernel
set_option maxRecDepth 20000 in
theorem f_X3_init_oi : Cond.instanceMethod Lib.objectInit ∈ wsX3_init := by decide +kernel
set_option maxRecDepth 20000 in
theorem f_X3_init_oc : Cond.code Lib.objectInit ⟨#[0xb1]⟩ 1 none ∈ wsX3_init := by decide +kernel
set_option maxRecDepth 20000 in
theorem f_X3_init_aint : Cond.arrayClass .int ∈ wsX3_init := by decide +kernel
set_option maxRecDepth 20000 in
theorem f_X3_init_9 : Cond.fieldLink RX3 9 (TX3 1).1 (TX3 1).2.1 (TX3 1).2.2.1 ∈ wsX3_init := by decide +kernel
set_option maxRecDepth 20000 in
theorem k_X3_init_3 : ∀ w ∈ u_ws RX3 TX3 7, w ∈ wsX3_init := fun _ h => List.mem_cons_of_mem _ (List.mem_append_right _ h)
set_option maxRecDepth 100000 in
set_option maxHeartbeats 4000000 in
theorem S_X3_init_0 {p : Program} {e : Env} {s : State} {m : MethodId} {args : Array Value} {below : List Frame} {meth : Method} {c : Code} {D : va_G} {cy : zY} {b n0 : Nat} {P : zPo} (la : Launch) (X : zX p la e (rm_X3_init) s m args below meth c 1 D cy b n0 cX3_init wsX3_init RX3) (hr : meth.sig.returnType = none) (hin : yX3_init.name = "<init>" → meth.name = "<init>") : zS p la e (rm_X3_init) s m args below meth c (MQ below (zQ D b (n0 + 1) P) args s 1 120 (fun q => b ≤ q)) 1 D b n0 0 (B_X3_init_0 b n0 cy P (zAt p la e (rm_X3_init) s m args below meth c (MQ below (zQ D b (n0 + 1) P) args s 1 120 (fun q => b ≤ q)) 1 D b n0)) := by
  unfold B_X3_init_0
  exact (s_aload_n X dX3_init_0 rfl (s_objInit X dX3_init_1 f_X3_init_m3 f_X3_init_oi f_X3_init_oc (by decide) (by decide) (s_aload_n X dX3_init_4 rfl (s_bipush X dX3_init_5 (by decide) (s_newa X dX3_init_7 rfl (t0 := 1) rfl f_X3_init_aint (by decide) (fun _ _ h1 h2 => Option.some.inj (h1.symm.trans h2)) (fun _ _ => rfl) (s_putF X dX3_init_9 (hin rfl) rfl k_X3_init_3 tyX3_ok nmX3 (by decide) f_X3_init_9 rfl rfl (tyX3_ok 1 (by decide)) zok_arr (s_vret X dX3_init_12 hr)))))))
theorem w_X3_init (la : Launch) (sp : zSp) (vc : zVC_X3_init sp) : zMet la yX3_init wsX3_init (rm_X3_init) 1 120 sp :=
  z_of (cc := cX3_init) (maxL := 1) (ret := none) (by decide +kernel) rfl (fun p e s m args below meth c D cy b n as E P hsp X hr hin => by
    obtain ⟨h1, h2⟩ := vc b cy n as E P (zAt p la e (rm_X3_init) s m args below meth c (MQ below (zQ D b (n + 1) P) args s 1 120 (fun q => b ≤ q)) 1 D b n) hsp
    exact ⟨h1, S_X3_init_0 la X hr hin _ _ _ _ _ h2⟩)

theorem m_X3_init (la : Launch) : zMet la yX3_init wsX3_init rm_X3_init 1 120 sp_X3_init := w_X3_init la _ vc_X3_init

