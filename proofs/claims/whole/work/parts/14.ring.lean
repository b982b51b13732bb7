theorem zMok.think {n r q : Nat} {c : Nat → Nat} (h : zMok n c) (hr : r < 6) (hq : q < 6) (hne : r ≠ q) (hc : c 2 + 1 < 1000000) : zMok n (zthink c r q) := by
  obtain ⟨h0, h1, h2, h3, h4, h5, h6⟩ := h
  refine ⟨h0, by rw [zthink_lo (by omega) (by omega)]; exact h1, by rw [zthink_lo (by omega) (by omega)]; exact h2, by rw [zthink_2]; exact hc, fun j hj => by rw [zthink_lo (by omega) (by omega)]; exact h4 j hj, fun j hj => ?_, fun j hj => ?_⟩
  · rw [zthink_hi, zthink_2]
    have := h5 j hj
    split <;> omega
  · rw [zthink_hi, if_neg (by omega)]; exact h6 j hj
theorem zwhom_lt {n : Nat} {lo c : Nat → Nat} {r by0 q : Nat} (h : zwhom n lo c r by0 = some q) : q < n ∧ q ≠ r ∧ (c 1).testBit q = true := by
  unfold zwhom at h
  by_cases e : (c 1).testBit r = true
  · rw [if_pos e] at h
    have := zfo_lt h
    simp at this
    exact ⟨this.1, this.2.1, this.2.2⟩
  · rw [if_neg e] at h; cases h
theorem zrideL_s {n : Nat} {lo la : Nat → Nat} {r : Nat} {c : Nat → Nat} : zrideL n lo la (r + 1) c = (match zwhom n lo (zrideL n lo la r c) r (la r) with | none => zrideL n lo la r c | some q => zthink (zrideL n lo la r c) r q) := by
  rw [zrideL]
  unfold zwhom
  by_cases e : ((zrideL n lo la r c) 1).testBit r = true
  · simp only [e, if_true]
    rfl
  · simp only [e]
    rfl
theorem zMok.rideL {n : Nat} {lo la c : Nat → Nat} (h : zMok n c) : ∀ k, k ≤ n → c 2 + k < 1000000 → zMok n (zrideL n lo la k c) ∧ (zrideL n lo la k c) 2 ≤ c 2 + k := by
  intro k
  induction k with
  | zero => intro _ _; exact ⟨h, Nat.le_refl _⟩
  | succ k ih =>
    intro hk hc
    obtain ⟨h1, h2⟩ := ih (by omega) (by omega)
    rw [zrideL_s]
    cases hz : zwhom n lo (zrideL n lo la k c) k (la k) with
    | none => exact ⟨h1, by show zrideL n lo la k c 2 ≤ _; omega⟩
    | some q =>
      have hq := zwhom_lt hz
      have hn := h.1
      exact ⟨h1.think (by omega) (by omega) (fun e => hq.2.1 e.symm) (by omega), by show zthink _ _ _ 2 ≤ _; rw [zthink_2]; omega⟩
theorem zMok.stop {n : Nat} {c : Nat → Nat} (h : zMok n c) (h2 : c 0 + 1 < 1000) : zMok n (zup c 0 (c 0 + 1)) := by
  obtain ⟨h0, h1, _, h3, h4, h5, h6⟩ := h
  refine ⟨h0, by unfold zup; rw [if_neg (by omega)]; exact h1, by unfold zup; rw [if_pos rfl]; exact h2, by unfold zup; rw [if_neg (by omega)]; exact h3, fun j hj => by unfold zup; rw [if_neg (by omega)]; exact h4 j hj, fun j hj => by unfold zup; rw [if_neg (by omega), if_neg (by omega)]; exact h5 j hj, fun j hj => by unfold zup; rw [if_neg (by omega)]; exact h6 j hj⟩
theorem zMok.ride {n : Nat} {lo la c : Nat → Nat} (h : zMok n c) (h2 : c 0 + 1 < 1000) (h3 : c 2 + 6 < 1000000) : zMok n (zride n lo la c) ∧ (zride n lo la c) 2 ≤ c 2 + 6 := by
  have hn := h.1
  have e : (zup c 0 (c 0 + 1)) 2 = c 2 := by unfold zup; rw [if_neg (by omega)]
  obtain ⟨g1, g2⟩ := (h.stop h2).rideL (lo := lo) (la := la) n (Nat.le_refl _) (by rw [e]; omega)
  rw [e] at g2
  exact ⟨g1, by unfold zride; omega⟩
def sp_X5_ride : zSp := fun b cy as N E P => ∃ (n : Nat) (lo la : Nat → Nat) (i : Nat) (c : Nat → Nat), as = [.ref b, .ref (b + i)] ∧ zP1 b cy N E n lo la i c ∧ 11 ≤ i ∧ c 0 + 1 < 1000 ∧ c 2 + 6 < 1000000 ∧ (∀ E', zMo b cy E' i n (zride n lo la c) → (∀ j, j < i ∨ i + 3 < j → E' j = E j) → P none E')
abbrev rm_X5_ride : Room := { frames := 4, cells := 0, slots := 0, locals := 111 }
def B_X5_ride_51 (b n0 : Nat) (cy : zY) (P : zPo) (A : Nat → zC) : zC :=
  z_iinc 2 (1) (z_cut [0, 1, 2] (A 12))
def B_X5_ride_12 (b n0 : Nat) (cy : zY) (P : zPo) (A : Nat → zC) : zC :=
  z_iload 2 (z_aload 0 (z_get b n0 5 1 (z_get b n0 4 0 (z_icmp (fun x y => y ≤ x) (z_vret 0 0 P) (z_aload 0 (z_aload 1 (z_iload 2 (z_aload 0 (z_get b n0 5 1 (z_get b n0 4 5 (z_iload 2 (z_ald b n0 (cy 1) (z_callV b n0 0 0 cy 5 3 0 0 sp_X5_whom (z_istore 3 (z_iload 3 (z_const (-9) (z_icmp (fun x y => x = y) (B_X5_ride_51 b n0 cy P A) (z_aload 1 (z_iload 2 (z_iload 3 (z_callV b n0 0 0 cy 1 2 0 0 sp_X1_think (B_X5_ride_51 b n0 cy P A))))))))))))))))))))))
def B_X5_ride_0 (b n0 : Nat) (cy : zY) (P : zPo) (A : Nat → zC) : zC :=
  z_aload 1 (z_dup (z_get b n0 1 0 (z_const (1) (z_bin (fun x y => x + y) (z_put b n0 1 0 0 (z_const (0) (z_istore 2 (z_cut [0, 1, 2] (A 12)))))))))
def zVC_X5_ride (sp : zSp) : Prop := ∀ (b : Nat) (cy : zY) (n : Nat) (as : List Value) (E : zE) (P : zPo) (A : Nat → zC), (∀ l st k u E, B_X5_ride_12 b n cy P A l st k u E → A 12 l st k u E) → sp b cy as n E P → zgood as 4 ∧ B_X5_ride_0 b n cy P A (lv_args 0 as) [] 0 0 E

theorem zRd.congr {b : Nat} {cy : zY} {E E' : zE} {n : Nat} {lo la : Nat → Nat} (h : zRd b cy E n lo la) (hE : ∀ j, j ≤ 6 → E' j = E j) : zRd b cy E' n lo la := by
  obtain ⟨⟨kept, cnt, tr, e0⟩, ⟨seat, line, items, ht⟩, hlo⟩ := h
  exact ⟨⟨kept, cnt, tr, by rw [hE _ (by omega)]; exact e0⟩, ⟨seat, line, items, ht.congr (fun k a1 a2 => hE k (by omega))⟩, hlo⟩
set_option maxRecDepth 100000 in
set_option maxHeartbeats 4000000 in
theorem vc_X5_ride : zVC_X5_ride sp_X5_ride := by
  intro b cy N as E P A hA hsp
  obtain ⟨n, lo, la, i, c, rfl, ⟨hrd, hmo, hok, hi, hN⟩, hi11, hc0, hc2, hP⟩ := hsp
  refine ⟨⟨Nat.le_of_ble_eq_true rfl, zg1 rfl (zg1 rfl (zg0))⟩, ?_⟩
  have hn := hok.1
  have N0 : 0 < N := by omega
  have N3 : 3 < N := by omega
  have N6 : 6 < N := by omega
  have hi0 : i < N := by omega
  have z2 : (zup c 0 (c 0 + 1)) 2 = c 2 := by unfold zup; rw [if_neg (by omega)]
  have loop : ∀ (d k : Nat) (E1 : zE) (hd : d + k = n), zMo b cy E1 i n (zrideL n lo la k (zup c 0 (c 0 + 1))) → (∀ j, j < i ∨ i + 3 < j → E1 j = E j) → A 12 [(0, .ref b), (1, .ref (b + i)), (2, .int (nI k))] [] 0 0 E1 := by
    intro d
    induction d with
    | zero =>
      intro k E1 hd hm1 hk1
      obtain rfl : k = n := by omega
      apply hA
      obtain ⟨⟨kept, cnt, tr, e0⟩, ⟨seat, line, items, ⟨_, f, g, h, h0, h1, h2, h3, hf, hg, hh⟩⟩, hlo⟩ := hrd.congr (E' := E1) (fun j hj => hk1 j (by omega))
      have cle : nI k ≤ nI k := nI_le (Nat.le_refl _) (by omega)
      simp only [B_X5_ride_0, B_X5_ride_12, B_X5_ride_51, e_cut, e_iload, e_aload, e_istore, e_astore, e_iinc, e_const, e_lconst, e_bin, e_bin0, e_un, e_ladd, e_dupi, e_dupr, e_dup2, e_pop, e_if, e_icmp, e_sw, e_sw0, e_sw1, e_get, e_put, e_ald, e_ast, e_aald, e_aast, e_copy, e_new, e_newa, e_anewa, e_min, e_abs, e_oinit, e_callI, e_callV, e_callS, e_iret, e_zret, e_lret, e_vret, e_tl1, e_tl0, e_tl2, e_tl3, z10, Bool.false_eq_true, e_argi, e_argr, e_argn, zld_c, zst_n, zst_c, zpick_n, zpick_c, List.drop_succ_cons, List.drop_zero, List.take_succ_cons, List.take_zero, List.length_cons, List.length_nil, List.reverse_cons, List.reverse_nil, List.nil_append, List.cons_append, List.append_nil, List.getElem?_cons_zero, List.getElem?_cons_succ, List.set_cons_zero, List.set_cons_succ, Nat.add_sub_cancel_left, Nat.sub_self, Nat.add_zero, Nat.zero_add, Nat.le_add_right, Nat.le_refl, true_and, and_true, va_rf, zok, Nat.add_left_cancel_iff, Nat.add_eq_left, Nat.left_eq_add, eq_self, if_true, if_false, not_false_eq_true, not_true_eq_false, false_implies, true_implies, Nat.reduceEqDiff, Nat.reduceAdd, Nat.reduceLT, Nat.reduceLeDiff, reduceIte, zB0, e0, N0, N3, h0, cle]
      exact hP _ hm1 hk1
    | succ d ih =>
      intro k E1 hd hm1 hk1
      have hk : k < n := by omega
      apply hA
      have hrd1 := hrd.congr (E' := E1) (fun j hj => hk1 j (by omega))
      obtain ⟨⟨kept, cnt, tr, e0⟩, ⟨seat, line, items, ⟨_, f, g, h, h0, h1, h2, h3, hf, hg, hh⟩⟩, hlo⟩ := id hrd1
      replace h3 : E1 6 = .inl (cy 1, 6, .inl h) := h3
      have cle : ¬ nI n ≤ nI k := nI_ge hk (by omega)
      have hin : vp_in (nI k) 6 := vp_in_nI (by omega) (by omega)
      have hcl : (nI k).toNatClampNeg = k := nI_clamp (by omega)
      obtain ⟨hn1, mf, mg, mh, m0, m1, m2, m3, hmf, hmg, hmh⟩ := id hm1
      simp only [B_X5_ride_0, B_X5_ride_12, B_X5_ride_51, e_cut, e_iload, e_aload, e_istore, e_astore, e_iinc, e_const, e_lconst, e_bin, e_bin0, e_un, e_ladd, e_dupi, e_dupr, e_dup2, e_pop, e_if, e_icmp, e_sw, e_sw0, e_sw1, e_get, e_put, e_ald, e_ast, e_aald, e_aast, e_copy, e_new, e_newa, e_anewa, e_min, e_abs, e_oinit, e_callI, e_callV, e_callS, e_iret, e_zret, e_lret, e_vret, e_tl1, e_tl0, e_tl2, e_tl3, z10, Bool.false_eq_true, e_argi, e_argr, e_argn, zld_c, zst_n, zst_c, zpick_n, zpick_c, List.drop_succ_cons, List.drop_zero, List.take_succ_cons, List.take_zero, List.length_cons, List.length_nil, List.reverse_cons, List.reverse_nil, List.nil_append, List.cons_append, List.append_nil, List.getElem?_cons_zero, List.getElem?_cons_succ, List.set_cons_zero, List.set_cons_succ, Nat.add_sub_cancel_left, Nat.sub_self, Nat.add_zero, Nat.zero_add, Nat.le_add_right, Nat.le_refl, true_and, and_true, va_rf, zok, Nat.add_left_cancel_iff, Nat.add_eq_left, Nat.left_eq_add, eq_self, if_true, if_false, not_false_eq_true, not_true_eq_false, false_implies, true_implies, Nat.reduceEqDiff, Nat.reduceAdd, Nat.reduceLT, Nat.reduceLeDiff, reduceIte, zB0, e0, N0, N3, N6, h0, h3, cle, hin, hcl, hh k hk]
      obtain ⟨g1, g2⟩ := (hok.stop hc0).rideL (lo := lo) (la := la) k (by omega) (by rw [z2]; omega)
      refine ⟨n, lo, la, i, zrideL n lo la k (zup c 0 (c 0 + 1)), k, la k, rfl, ⟨hrd1, hm1, g1, hi, hN⟩, hk, (hlo k hk).2, ?_⟩
      cases hz : zwhom n lo (zrideL n lo la k (zup c 0 (c 0 + 1))) k (la k) with
      | none =>
        simp only [e_cut, e_iload, e_aload, e_istore, e_astore, e_iinc, e_const, e_lconst, e_bin, e_bin0, e_un, e_ladd, e_dupi, e_dupr, e_dup2, e_pop, e_if, e_icmp, e_sw, e_sw0, e_sw1, e_get, e_put, e_ald, e_ast, e_aald, e_aast, e_copy, e_new, e_newa, e_anewa, e_min, e_abs, e_oinit, e_callI, e_callV, e_callS, e_iret, e_zret, e_lret, e_vret, e_tl1, e_tl0, e_tl2, e_tl3, z10, Bool.false_eq_true, e_argi, e_argr, e_argn, zld_c, zst_n, zst_c, zpick_n, zpick_c, List.drop_succ_cons, List.drop_zero, List.take_succ_cons, List.take_zero, List.length_cons, List.length_nil, List.reverse_cons, List.reverse_nil, List.nil_append, List.cons_append, List.append_nil, List.getElem?_cons_zero, List.getElem?_cons_succ, List.set_cons_zero, List.set_cons_succ, Nat.add_sub_cancel_left, Nat.sub_self, Nat.add_zero, Nat.zero_add, Nat.le_add_right, Nat.le_refl, true_and, and_true, va_rf, zok, Nat.add_left_cancel_iff, Nat.add_eq_left, Nat.left_eq_add, eq_self, if_true, if_false, not_false_eq_true, not_true_eq_false, false_implies, true_implies, Nat.reduceEqDiff, Nat.reduceAdd, Nat.reduceLT, Nat.reduceLeDiff, reduceIte, zrv, B_X5_ride_0, B_X5_ride_12, B_X5_ride_51, nI_1]
        refine ih (k + 1) E1 (by omega) ?_ hk1
        rw [zrideL_s, hz]; exact hm1
      | some q =>
        have hq := zwhom_lt hz
        simp only [e_cut, e_iload, e_aload, e_istore, e_astore, e_iinc, e_const, e_lconst, e_bin, e_bin0, e_un, e_ladd, e_dupi, e_dupr, e_dup2, e_pop, e_if, e_icmp, e_sw, e_sw0, e_sw1, e_get, e_put, e_ald, e_ast, e_aald, e_aast, e_copy, e_new, e_newa, e_anewa, e_min, e_abs, e_oinit, e_callI, e_callV, e_callS, e_iret, e_zret, e_lret, e_vret, e_tl1, e_tl0, e_tl2, e_tl3, z10, Bool.false_eq_true, e_argi, e_argr, e_argn, zld_c, zst_n, zst_c, zpick_n, zpick_c, List.drop_succ_cons, List.drop_zero, List.take_succ_cons, List.take_zero, List.length_cons, List.length_nil, List.reverse_cons, List.reverse_nil, List.nil_append, List.cons_append, List.append_nil, List.getElem?_cons_zero, List.getElem?_cons_succ, List.set_cons_zero, List.set_cons_succ, Nat.add_sub_cancel_left, Nat.sub_self, Nat.add_zero, Nat.zero_add, Nat.le_add_right, Nat.le_refl, true_and, and_true, va_rf, zok, Nat.add_left_cancel_iff, Nat.add_eq_left, Nat.left_eq_add, eq_self, if_true, if_false, not_false_eq_true, not_true_eq_false, false_implies, true_implies, Nat.reduceEqDiff, Nat.reduceAdd, Nat.reduceLT, Nat.reduceLeDiff, reduceIte, zrv, zrv_nn (show q < 6 by omega), B_X5_ride_0, B_X5_ride_12, B_X5_ride_51, m0, hi0]
        refine ⟨i, k, q, n, _, rfl, hm1, hi, by omega, by omega, fun E2 hm2 hk2 => ?_⟩
        simp only [e_cut, e_iload, e_aload, e_istore, e_astore, e_iinc, e_const, e_lconst, e_bin, e_bin0, e_un, e_ladd, e_dupi, e_dupr, e_dup2, e_pop, e_if, e_icmp, e_sw, e_sw0, e_sw1, e_get, e_put, e_ald, e_ast, e_aald, e_aast, e_copy, e_new, e_newa, e_anewa, e_min, e_abs, e_oinit, e_callI, e_callV, e_callS, e_iret, e_zret, e_lret, e_vret, e_tl1, e_tl0, e_tl2, e_tl3, z10, Bool.false_eq_true, e_argi, e_argr, e_argn, zld_c, zst_n, zst_c, zpick_n, zpick_c, List.drop_succ_cons, List.drop_zero, List.take_succ_cons, List.take_zero, List.length_cons, List.length_nil, List.reverse_cons, List.reverse_nil, List.nil_append, List.cons_append, List.append_nil, List.getElem?_cons_zero, List.getElem?_cons_succ, List.set_cons_zero, List.set_cons_succ, Nat.add_sub_cancel_left, Nat.sub_self, Nat.add_zero, Nat.zero_add, Nat.le_add_right, Nat.le_refl, true_and, and_true, va_rf, zok, Nat.add_left_cancel_iff, Nat.add_eq_left, Nat.left_eq_add, eq_self, if_true, if_false, not_false_eq_true, not_true_eq_false, false_implies, true_implies, Nat.reduceEqDiff, Nat.reduceAdd, Nat.reduceLT, Nat.reduceLeDiff, reduceIte, nI_1]
        refine ih (k + 1) E2 (by omega) ?_ (fun j hj => by rw [hk2 j hj]; exact hk1 j hj)
        rw [zrideL_s, hz]; exact hm2
  obtain ⟨hn1, mf, mg, mh, m0, m1, m2, m3, hmf, hmg, hmh⟩ := id hmo
  simp only [B_X5_ride_0, B_X5_ride_12, B_X5_ride_51, e_cut, e_iload, e_aload, e_istore, e_astore, e_iinc, e_const, e_lconst, e_bin, e_bin0, e_un, e_ladd, e_dupi, e_dupr, e_dup2, e_pop, e_if, e_icmp, e_sw, e_sw0, e_sw1, e_get, e_put, e_ald, e_ast, e_aald, e_aast, e_copy, e_new, e_newa, e_anewa, e_min, e_abs, e_oinit, e_callI, e_callV, e_callS, e_iret, e_zret, e_lret, e_vret, e_tl1, e_tl0, e_tl2, e_tl3, z10, Bool.false_eq_true, e_argi, e_argr, e_argn, zld_c, zst_n, zst_c, zpick_n, zpick_c, List.drop_succ_cons, List.drop_zero, List.take_succ_cons, List.take_zero, List.length_cons, List.length_nil, List.reverse_cons, List.reverse_nil, List.nil_append, List.cons_append, List.append_nil, List.getElem?_cons_zero, List.getElem?_cons_succ, List.set_cons_zero, List.set_cons_succ, Nat.add_sub_cancel_left, Nat.sub_self, Nat.add_zero, Nat.zero_add, Nat.le_add_right, Nat.le_refl, true_and, and_true, va_rf, zok, Nat.add_left_cancel_iff, Nat.add_eq_left, Nat.left_eq_add, eq_self, if_true, if_false, not_false_eq_true, not_true_eq_false, false_implies, true_implies, Nat.reduceEqDiff, Nat.reduceAdd, Nat.reduceLT, Nat.reduceLeDiff, reduceIte, m0, hi0, nI_1]
  refine loop n 0 _ rfl ⟨hn, mf, mg, mh, ?_, ?_, ?_, ?_, ?_, ?_, ?_⟩ (fun j hj => by simp only [e_up]; rw [if_neg (by omega)])
  · simp [e_up, zrideL, zup]
  · simp [e_up, m1]
  · simp [e_up, m2]
  · simp [e_up, m3]
  · intro j hj; rw [zrideL]; unfold zup; rw [if_neg (by omega)]; exact hmf j hj
  · intro j hj; rw [zrideL]; unfold zup; rw [if_neg (by omega)]; exact hmg j hj
  · intro j hj; rw [zrideL]; unfold zup; rw [if_neg (by omega)]; exact hmh j hj
set_option maxRecDepth 20000 in
theorem f_X5_ride_19 : Cond.fieldLink RX5 19 (TX5 1).1 (TX5 1).2.1 (TX5 1).2.2.1 ∈ wsX5_ride := by decide +kernel
set_option maxRecDepth 20000 in
theorem k_X5_ride_5 : ∀ w ∈ u_ws RX5 TX5 11, w ∈ wsX5_ride := fun _ h => List.mem_cons_of_mem _ (List.mem_append_left _ (List.mem_append_right _ h))
set_option maxRecDepth 20000 in
theorem f_X5_ride_200 : Cond.fieldLink RX5 200 (TX4 0).1 (TX4 0).2.1 (TX4 0).2.2.1 ∈ wsX5_ride := by decide +kernel
set_option maxRecDepth 20000 in
theorem k_X5_ride_4 : ∀ w ∈ u_ws RX4 TX4 6, w ∈ wsX5_ride := fun _ h => List.mem_cons_of_mem _ (List.mem_append_right _ h)
set_option maxRecDepth 20000 in
theorem f_X5_ride_85 : Cond.fieldLink RX5 85 (TX4 5).1 (TX4 5).2.1 (TX4 5).2.2.1 ∈ wsX5_ride := by decide +kernel
set_option maxRecDepth 20000 in
theorem f_X5_ride_116 : Cond.fieldLink RX5 116 (TX1 0).1 (TX1 0).2.1 (TX1 0).2.2.1 ∈ wsX5_ride := by decide +kernel
set_option maxRecDepth 20000 in
theorem k_X5_ride_1 : ∀ w ∈ u_ws RX1 TX1 7, w ∈ wsX5_ride := fun _ h => List.mem_cons_of_mem _ (List.mem_append_left _ (List.mem_append_left _ (List.mem_append_right _ h)))
set_option maxRecDepth 100000 in
set_option maxHeartbeats 4000000 in
theorem S_X5_ride_51 {p : Program} {e : Env} {s : State} {m : MethodId} {args : Array Value} {below : List Frame} {meth : Method} {c : Code} {D : va_G} {cy : zY} {b n0 : Nat} {P : zPo} (la : Launch) (X : zX p la e (rm_X5_ride) s m args below meth c 4 D cy b n0 cX5_ride wsX5_ride RX5) (hr : meth.sig.returnType = none) (h_X1_think : zMet la yX1_think wsX1_think rm_X1_think 0 0 sp_X1_think) (h_X5_whom : zMet la yX5_whom wsX5_whom rm_X5_whom 0 0 sp_X5_whom) : zS p la e (rm_X5_ride) s m args below meth c (MQ below (zQ D b (n0 + 0) P) args s 0 0 (fun q => b ≤ q)) 4 D b n0 51 (B_X5_ride_51 b n0 cy P (zAt p la e (rm_X5_ride) s m args below meth c (MQ below (zQ D b (n0 + 0) P) args s 0 0 (fun q => b ≤ q)) 4 D b n0)) := by
  unfold B_X5_ride_51
  exact (s_iinc X dX5_ride_51 (by decide) (by decide) (s_goto X dX5_ride_54 (by decide) (s_cut (by decide) zS_at)))
set_option maxRecDepth 100000 in
set_option maxHeartbeats 4000000 in
theorem S_X5_ride_12 {p : Program} {e : Env} {s : State} {m : MethodId} {args : Array Value} {below : List Frame} {meth : Method} {c : Code} {D : va_G} {cy : zY} {b n0 : Nat} {P : zPo} (la : Launch) (X : zX p la e (rm_X5_ride) s m args below meth c 4 D cy b n0 cX5_ride wsX5_ride RX5) (hr : meth.sig.returnType = none) (h_X1_think : zMet la yX1_think wsX1_think rm_X1_think 0 0 sp_X1_think) (h_X5_whom : zMet la yX5_whom wsX5_whom rm_X5_whom 0 0 sp_X5_whom) : zS p la e (rm_X5_ride) s m args below meth c (MQ below (zQ D b (n0 + 0) P) args s 0 0 (fun q => b ≤ q)) 4 D b n0 12 (B_X5_ride_12 b n0 cy P (zAt p la e (rm_X5_ride) s m args below meth c (MQ below (zQ D b (n0 + 0) P) args s 0 0 (fun q => b ≤ q)) 4 D b n0)) := by
  unfold B_X5_ride_12
  exact (s_iload_n X dX5_ride_12 rfl (s_aload_n X dX5_ride_13 rfl (s_get X dX5_ride_14 rfl k_X5_ride_5 (by decide) f_X5_ride_19 (s_get X dX5_ride_17 rfl k_X5_ride_4 (by decide) f_X5_ride_200 (s_icmp_ge X dX5_ride_20 (by decide) (s_vret X dX5_ride_57 hr) (s_aload_n X dX5_ride_23 rfl (s_aload_n X dX5_ride_24 rfl (s_iload_n X dX5_ride_25 rfl (s_aload_n X dX5_ride_26 rfl (s_get X dX5_ride_27 rfl k_X5_ride_5 (by decide) f_X5_ride_19 (s_get X dX5_ride_30 rfl k_X5_ride_4 (by decide) f_X5_ride_85 (s_iload_n X dX5_ride_33 rfl (s_iald X dX5_ride_34 (s_callV X h_X5_whom dX5_ride_35 rfl gX5_ride_X5_whom rfl rfl rfl (by decide +kernel) ⟨by decide, by decide⟩ (s_istore_n X dX5_ride_38 rfl (by decide) (s_iload_n X dX5_ride_39 rfl (s_bipush X dX5_ride_40 (by decide) (s_icmp_eq X dX5_ride_42 (by decide) (S_X5_ride_51 la X hr h_X1_think h_X5_whom) (s_aload_n X dX5_ride_45 rfl (s_iload_n X dX5_ride_46 rfl (s_iload_n X dX5_ride_47 rfl (s_callV X h_X1_think dX5_ride_48 rfl gX5_ride_X1_think rfl rfl rfl (by decide +kernel) ⟨by decide, by decide⟩ (S_X5_ride_51 la X hr h_X1_think h_X5_whom)))))))))))))))))))))))
set_option maxRecDepth 100000 in
set_option maxHeartbeats 4000000 in
theorem S_X5_ride_0 {p : Program} {e : Env} {s : State} {m : MethodId} {args : Array Value} {below : List Frame} {meth : Method} {c : Code} {D : va_G} {cy : zY} {b n0 : Nat} {P : zPo} (la : Launch) (X : zX p la e (rm_X5_ride) s m args below meth c 4 D cy b n0 cX5_ride wsX5_ride RX5) (hr : meth.sig.returnType = none) (h_X1_think : zMet la yX1_think wsX1_think rm_X1_think 0 0 sp_X1_think) (h_X5_whom : zMet la yX5_whom wsX5_whom rm_X5_whom 0 0 sp_X5_whom) : zS p la e (rm_X5_ride) s m args below meth c (MQ below (zQ D b (n0 + 0) P) args s 0 0 (fun q => b ≤ q)) 4 D b n0 0 (B_X5_ride_0 b n0 cy P (zAt p la e (rm_X5_ride) s m args below meth c (MQ below (zQ D b (n0 + 0) P) args s 0 0 (fun q => b ≤ q)) 4 D b n0)) := by
  unfold B_X5_ride_0
  exact (s_aload_n X dX5_ride_0 rfl (s_dup X dX5_ride_1 (s_get X dX5_ride_2 rfl k_X5_ride_1 (by decide) f_X5_ride_116 (s_iconst X dX5_ride_5 (by decide) (s_iadd X dX5_ride_6 (s_put X dX5_ride_7 rfl k_X5_ride_1 tyX1_ok nmX1 (by decide) f_X5_ride_116 rfl (tyX1_ok 0 (by decide)) zok_int (s_iconst X dX5_ride_10 (by decide) (s_istore_n X dX5_ride_11 rfl (by decide) (s_cut (by decide) zS_at)))))))))
theorem w_X5_ride (la : Launch) (h_X1_think : zMet la yX1_think wsX1_think rm_X1_think 0 0 sp_X1_think) (h_X5_whom : zMet la yX5_whom wsX5_whom rm_X5_whom 0 0 sp_X5_whom) (sp : zSp) (vc : zVC_X5_ride sp) : zMet la yX5_ride wsX5_ride (rm_X5_ride) 0 0 sp :=
  z_of (cc := cX5_ride) (maxL := 4) (ret := none) (by decide +kernel) rfl (fun p e s m args below meth c D cy b n as E P hsp X hr hin => by
    obtain ⟨h1, h2⟩ := vc b cy n as E P (zAt p la e (rm_X5_ride) s m args below meth c (MQ below (zQ D b (n + 0) P) args s 0 0 (fun q => b ≤ q)) 4 D b n) (fun _ _ _ _ _ q => S_X5_ride_12 la X hr h_X1_think h_X5_whom _ _ _ _ _ q) hsp
    exact ⟨h1, S_X5_ride_0 la X hr h_X1_think h_X5_whom _ _ _ _ _ h2⟩)

theorem m_X5_ride (la : Launch) : zMet la yX5_ride wsX5_ride rm_X5_ride 0 0 sp_X5_ride := w_X5_ride la (m_X1_think la) (m_X5_whom la) _ vc_X5_ride
/-! who gets down -/
theorem zMok.lat {n : Nat} {c : Nat → Nat} (h : zMok n c) {a q : Nat} (ha : a < 6) (hq : q < 6) : c (16 + 6 * a + q) < 2 ^ 31 := by
  have h1 := h.2.2.2.2.2.1 (6 * a + q) (by omega)
  have h2 := h.2.2.2.1
  rw [← Nat.add_assoc] at h1
  omega
theorem ztb_no {M n q : Nat} (h : M < 2 ^ n) (hq : n ≤ q) : M.testBit q = false := Nat.testBit_lt_two_pow (Nat.lt_of_lt_of_le h (Nat.pow_le_pow_right (by omega) hq))
theorem zfo_more {ok : Nat → Bool} {bt : Nat → Nat → Bool} {n : Nat} (h : ∀ q, n ≤ q → ok q = false) : ∀ d, zfo ok bt (n + d) = zfo ok bt n := by
  intro d
  induction d with
  | zero => rfl
  | succ d ih => rw [← Nat.add_assoc, zfo_no (h _ (by omega))]; exact ih
theorem zring_6 {n M r : Nat} {c : Nat → Nat} (hn : n ≤ 6) (h : M < 2 ^ n) : zring n c M r = zring 6 c M r := by
  unfold zring
  have e := zfo_more (ok := fun q => decide (q ≠ r) && M.testBit q && decide (0 < c (16 + 6 * q + r))) (bt := fun q f => decide (c (16 + 6 * f + r) < c (16 + 6 * q + r))) (n := n) (fun q hq => by simp [ztb_no h hq]) (6 - n)
  rw [show n + (6 - n) = 6 by omega] at e
  exact e.symm
theorem ztwo_6 {n r : Nat} {c : Nat → Nat} (hn : n ≤ 6) (h : c 1 < 2 ^ n) : ztwo n c r = ztwo 6 c r := by
  unfold ztwo
  have e := zfo_more (ok := fun q => decide (q ≠ r) && (c 1).testBit q && decide (0 < c (16 + 6 * r + q))) (bt := fun q f => decide (c (16 + 6 * r + f) < c (16 + 6 * r + q))) (n := n) (fun q hq => by simp [ztb_no h hq]) (6 - n)
  rw [show n + (6 - n) = 6 by omega] at e
  exact e.symm
def sp_X5_downByRing : zSp := fun b cy as N E P => ∃ (n : Nat) (lo la : Nat → Nat) (i : Nat) (c : Nat → Nat) (M r : Nat), as = [.ref (b + i), .int (nI M), .int (nI r)] ∧ zP1 b cy N E n lo la i c ∧ M < 64 ∧ M < 2 ^ n ∧ r < 6 ∧ P (some (.int (zrv (zring n c M r)))) E
abbrev rm_X5_downByRing : Room := { frames := 2, cells := 0, slots := 0, locals := 62 }
def B_X5_downByRing_54 (b n0 : Nat) (cy : zY) (P : zPo) (A : Nat → zC) : zC :=
  z_iinc 5 (1) (z_cut [0, 1, 2, 3, 4, 5] (A 9))
def B_X5_downByRing_9 (b n0 : Nat) (cy : zY) (P : zPo) (A : Nat → zC) : zC :=
  z_iload 5 (z_const (6) (z_icmp (fun x y => y ≤ x) (z_iload 3 (z_iret 0 0 P)) (z_aload 0 (z_iload 5 (z_iload 2 (z_callV b n0 0 0 cy 1 2 0 0 sp_X1_thoughtOf (z_istore 6 (z_iload 5 (z_iload 2 (z_icmp (fun x y => x = y) (B_X5_downByRing_54 b n0 cy P A) (z_iload 1 (z_iload 5 (z_bin (fun x y => x >>> (y &&& 31)) (z_const (1) (z_bin (fun x y => x &&& y) (z_if (fun x => x = 0) (B_X5_downByRing_54 b n0 cy P A) (z_iload 6 (z_iload 4 (z_icmp (fun x y => x ≤ y) (B_X5_downByRing_54 b n0 cy P A) (z_iload 5 (z_istore 3 (z_iload 6 (z_istore 4 (B_X5_downByRing_54 b n0 cy P A))))))))))))))))))))))))
def B_X5_downByRing_0 (b n0 : Nat) (cy : zY) (P : zPo) (A : Nat → zC) : zC :=
  z_const (-9) (z_istore 3 (z_const (0) (z_istore 4 (z_const (0) (z_istore 5 (z_cut [0, 1, 2, 3, 4, 5] (A 9)))))))
def zVC_X5_downByRing (sp : zSp) : Prop := ∀ (b : Nat) (cy : zY) (n : Nat) (as : List Value) (E : zE) (P : zPo) (A : Nat → zC), (∀ l st k u E, B_X5_downByRing_9 b n cy P A l st k u E → A 9 l st k u E) → sp b cy as n E P → zgood as 7 ∧ B_X5_downByRing_0 b n cy P A (lv_args 0 as) [] 0 0 E

set_option maxRecDepth 100000 in
set_option maxHeartbeats 4000000 in
theorem vc_X5_downByRing : zVC_X5_downByRing sp_X5_downByRing := by
  intro b cy N as E P A hA hsp
  obtain ⟨n, lo, la, i, c, M, r, rfl, ⟨⟨⟨kept, cnt, tr, e0⟩, ⟨seat, line, items, ⟨hn, f, g, h, h0, h1, h2, h3, hf, hg, hh⟩⟩, hlo⟩, hmo, hok, hi, hN⟩, hM, hMn, hr, hP⟩ := hsp
  refine ⟨⟨Nat.le_of_ble_eq_true rfl, zg1 rfl (zg1 rfl (zg1 rfl (zg0)))⟩, ?_⟩
  have k6 : (6 : Int32) = nI 6 := rfl
  have N0 : 0 < N := by omega
  have N3 : 3 < N := by omega
  obtain ⟨hn', mf, mg, mh, m0, m1, m2, m3, hmf, hmg, hmh⟩ := id hmo
  have hi0 : i < N := by omega
  rw [zring_6 hn hMn] at hP
  unfold zring at hP
  generalize hok1 : (fun q => decide (q ≠ r) && M.testBit q && decide (0 < c (16 + 6 * q + r))) = ok at hP
  generalize hbt1 : (fun q f => decide (c (16 + 6 * f + r) < c (16 + 6 * q + r))) = bt at hP
  have loop : ∀ (d k : Nat) (w : Nat) (hd : d + k = 6), w < 2 ^ 31 → (∀ f, zfo ok bt k = some f → w = c (16 + 6 * f + r)) → (zfo ok bt k = none → w = 0) → A 9 [(0, .ref (b + i)), (1, .int (nI M)), (2, .int (nI r)), (3, .int (zrv (zfo ok bt k))), (4, .int (nI w)), (5, .int (nI k))] [] 0 0 E := by
    intro d
    induction d with
    | zero =>
      intro k w hd hw31 hw hw0
      obtain rfl : k = 6 := by omega
      apply hA
      have cle : nI 6 ≤ nI 6 := nI_le (Nat.le_refl _) (by omega)
      simp only [B_X5_downByRing_0, B_X5_downByRing_9, B_X5_downByRing_54, e_cut, e_iload, e_aload, e_istore, e_astore, e_iinc, e_const, e_lconst, e_bin, e_bin0, e_un, e_ladd, e_dupi, e_dupr, e_dup2, e_pop, e_if, e_icmp, e_sw, e_sw0, e_sw1, e_get, e_put, e_ald, e_ast, e_aald, e_aast, e_copy, e_new, e_newa, e_anewa, e_min, e_abs, e_oinit, e_callI, e_callV, e_callS, e_iret, e_zret, e_lret, e_vret, e_tl1, e_tl0, e_tl2, e_tl3, z10, Bool.false_eq_true, e_argi, e_argr, e_argn, zld_c, zst_n, zst_c, zpick_n, zpick_c, List.drop_succ_cons, List.drop_zero, List.take_succ_cons, List.take_zero, List.length_cons, List.length_nil, List.reverse_cons, List.reverse_nil, List.nil_append, List.cons_append, List.append_nil, List.getElem?_cons_zero, List.getElem?_cons_succ, List.set_cons_zero, List.set_cons_succ, Nat.add_sub_cancel_left, Nat.sub_self, Nat.add_zero, Nat.zero_add, Nat.le_add_right, Nat.le_refl, true_and, and_true, va_rf, zok, Nat.add_left_cancel_iff, Nat.add_eq_left, Nat.left_eq_add, eq_self, if_true, if_false, not_false_eq_true, not_true_eq_false, false_implies, true_implies, Nat.reduceEqDiff, Nat.reduceAdd, Nat.reduceLT, Nat.reduceLeDiff, reduceIte, k6, cle]
      exact hP
    | succ d ih =>
      intro k w hd hw31 hw hw0
      have hk6 : k < 6 := by omega
      apply hA
      have cle : ¬ nI 6 ≤ nI k := nI_ge hk6 (by omega)
      have hlt := hok.lat hk6 hr
      simp only [B_X5_downByRing_0, B_X5_downByRing_9, B_X5_downByRing_54, e_cut, e_iload, e_aload, e_istore, e_astore, e_iinc, e_const, e_lconst, e_bin, e_bin0, e_un, e_ladd, e_dupi, e_dupr, e_dup2, e_pop, e_if, e_icmp, e_sw, e_sw0, e_sw1, e_get, e_put, e_ald, e_ast, e_aald, e_aast, e_copy, e_new, e_newa, e_anewa, e_min, e_abs, e_oinit, e_callI, e_callV, e_callS, e_iret, e_zret, e_lret, e_vret, e_tl1, e_tl0, e_tl2, e_tl3, z10, Bool.false_eq_true, e_argi, e_argr, e_argn, zld_c, zst_n, zst_c, zpick_n, zpick_c, List.drop_succ_cons, List.drop_zero, List.take_succ_cons, List.take_zero, List.length_cons, List.length_nil, List.reverse_cons, List.reverse_nil, List.nil_append, List.cons_append, List.append_nil, List.getElem?_cons_zero, List.getElem?_cons_succ, List.set_cons_zero, List.set_cons_succ, Nat.add_sub_cancel_left, Nat.sub_self, Nat.add_zero, Nat.zero_add, Nat.le_add_right, Nat.le_refl, true_and, and_true, va_rf, zok, Nat.add_left_cancel_iff, Nat.add_eq_left, Nat.left_eq_add, eq_self, if_true, if_false, not_false_eq_true, not_true_eq_false, false_implies, true_implies, Nat.reduceEqDiff, Nat.reduceAdd, Nat.reduceLT, Nat.reduceLeDiff, reduceIte, k6, cle, m0, hi0]
      refine ⟨i, k, r, n, c, rfl, hmo, hi, hk6, hr, ?_⟩
      simp only [e_cut, e_iload, e_aload, e_istore, e_astore, e_iinc, e_const, e_lconst, e_bin, e_bin0, e_un, e_ladd, e_dupi, e_dupr, e_dup2, e_pop, e_if, e_icmp, e_sw, e_sw0, e_sw1, e_get, e_put, e_ald, e_ast, e_aald, e_aast, e_copy, e_new, e_newa, e_anewa, e_min, e_abs, e_oinit, e_callI, e_callV, e_callS, e_iret, e_zret, e_lret, e_vret, e_tl1, e_tl0, e_tl2, e_tl3, z10, Bool.false_eq_true, e_argi, e_argr, e_argn, zld_c, zst_n, zst_c, zpick_n, zpick_c, List.drop_succ_cons, List.drop_zero, List.take_succ_cons, List.take_zero, List.length_cons, List.length_nil, List.reverse_cons, List.reverse_nil, List.nil_append, List.cons_append, List.append_nil, List.getElem?_cons_zero, List.getElem?_cons_succ, List.set_cons_zero, List.set_cons_succ, Nat.add_sub_cancel_left, Nat.sub_self, Nat.add_zero, Nat.zero_add, Nat.le_add_right, Nat.le_refl, true_and, and_true, va_rf, zok, Nat.add_left_cancel_iff, Nat.add_eq_left, Nat.left_eq_add, eq_self, if_true, if_false, not_false_eq_true, not_true_eq_false, false_implies, true_implies, Nat.reduceEqDiff, Nat.reduceAdd, Nat.reduceLT, Nat.reduceLeDiff, reduceIte, nI_eq (show k < 2 ^ 31 by omega) (show r < 2 ^ 31 by omega), zbit hM hk6, nI_1, nI_leI hlt hw31]
      by_cases q0 : k = r
      · have e : zfo ok bt (k + 1) = zfo ok bt k := zfo_no (by rw [← hok1]; simp [q0])
        have h9 := ih (k + 1) w (by omega) hw31 (by rw [e]; exact hw) (by rw [e]; exact hw0)
        rw [e] at h9
        exact ⟨fun _ => h9, fun c1 => absurd q0 c1⟩
      · refine ⟨fun c1 => absurd c1 q0, fun _ => ?_⟩
        by_cases q1 : M.testBit k = true
        · simp only [q1, z10, e_cut, e_iload, e_aload, e_istore, e_astore, e_iinc, e_const, e_lconst, e_bin, e_bin0, e_un, e_ladd, e_dupi, e_dupr, e_dup2, e_pop, e_if, e_icmp, e_sw, e_sw0, e_sw1, e_get, e_put, e_ald, e_ast, e_aald, e_aast, e_copy, e_new, e_newa, e_anewa, e_min, e_abs, e_oinit, e_callI, e_callV, e_callS, e_iret, e_zret, e_lret, e_vret, e_tl1, e_tl0, e_tl2, e_tl3, z10, Bool.false_eq_true, e_argi, e_argr, e_argn, zld_c, zst_n, zst_c, zpick_n, zpick_c, List.drop_succ_cons, List.drop_zero, List.take_succ_cons, List.take_zero, List.length_cons, List.length_nil, List.reverse_cons, List.reverse_nil, List.nil_append, List.cons_append, List.append_nil, List.getElem?_cons_zero, List.getElem?_cons_succ, List.set_cons_zero, List.set_cons_succ, Nat.add_sub_cancel_left, Nat.sub_self, Nat.add_zero, Nat.zero_add, Nat.le_add_right, Nat.le_refl, true_and, and_true, va_rf, zok, Nat.add_left_cancel_iff, Nat.add_eq_left, Nat.left_eq_add, eq_self, if_true, if_false, not_false_eq_true, not_true_eq_false, false_implies, true_implies, Nat.reduceEqDiff, Nat.reduceAdd, Nat.reduceLT, Nat.reduceLeDiff, reduceIte]
          refine ⟨fun c2 => ?_, fun c2 => ?_⟩
          · have e : zfo ok bt (k + 1) = zfo ok bt k := by
              cases hz : zfo ok bt k with
              | none =>
                have := hw0 hz
                rw [← hz]; exact zfo_no (by rw [← hok1]; simp; intro _ _; omega)
              | some f0 =>
                have := hw f0 hz
                rw [← hz]; exact zfo_w hz (by rw [← hbt1]; simp; omega)
            have h9 := ih (k + 1) w (by omega) hw31 (by rw [e]; exact hw) (by rw [e]; exact hw0)
            rw [e] at h9; exact h9
          · have hokk : ok k = true := by rw [← hok1]; simp [q0, q1]; omega
            have e : zfo ok bt (k + 1) = some k := by
              cases hz : zfo ok bt k with
              | none => exact zfo_n hokk hz
              | some f0 =>
                have := hw f0 hz
                exact zfo_y hokk hz (by rw [← hbt1]; simp; omega)
            have h9 := ih (k + 1) (c (16 + 6 * k + r)) (by omega) hlt (by rw [e]; intro f hf; cases hf; rfl) (by rw [e]; intro h; cases h)
            rw [e] at h9; exact h9
        · have e : zfo ok bt (k + 1) = zfo ok bt k := zfo_no (by rw [← hok1]; simp [q1])
          have h9 := ih (k + 1) w (by omega) hw31 (by rw [e]; exact hw) (by rw [e]; exact hw0)
          rw [e] at h9
          simp only [q1, e_cut, e_iload, e_aload, e_istore, e_astore, e_iinc, e_const, e_lconst, e_bin, e_bin0, e_un, e_ladd, e_dupi, e_dupr, e_dup2, e_pop, e_if, e_icmp, e_sw, e_sw0, e_sw1, e_get, e_put, e_ald, e_ast, e_aald, e_aast, e_copy, e_new, e_newa, e_anewa, e_min, e_abs, e_oinit, e_callI, e_callV, e_callS, e_iret, e_zret, e_lret, e_vret, e_tl1, e_tl0, e_tl2, e_tl3, z10, Bool.false_eq_true, e_argi, e_argr, e_argn, zld_c, zst_n, zst_c, zpick_n, zpick_c, List.drop_succ_cons, List.drop_zero, List.take_succ_cons, List.take_zero, List.length_cons, List.length_nil, List.reverse_cons, List.reverse_nil, List.nil_append, List.cons_append, List.append_nil, List.getElem?_cons_zero, List.getElem?_cons_succ, List.set_cons_zero, List.set_cons_succ, Nat.add_sub_cancel_left, Nat.sub_self, Nat.add_zero, Nat.zero_add, Nat.le_add_right, Nat.le_refl, true_and, and_true, va_rf, zok, Nat.add_left_cancel_iff, Nat.add_eq_left, Nat.left_eq_add, eq_self, if_true, if_false, not_false_eq_true, not_true_eq_false, false_implies, true_implies, Nat.reduceEqDiff, Nat.reduceAdd, Nat.reduceLT, Nat.reduceLeDiff, reduceIte]
          exact h9
  simp only [B_X5_downByRing_0, B_X5_downByRing_9, B_X5_downByRing_54, e_cut, e_iload, e_aload, e_istore, e_astore, e_iinc, e_const, e_lconst, e_bin, e_bin0, e_un, e_ladd, e_dupi, e_dupr, e_dup2, e_pop, e_if, e_icmp, e_sw, e_sw0, e_sw1, e_get, e_put, e_ald, e_ast, e_aald, e_aast, e_copy, e_new, e_newa, e_anewa, e_min, e_abs, e_oinit, e_callI, e_callV, e_callS, e_iret, e_zret, e_lret, e_vret, e_tl1, e_tl0, e_tl2, e_tl3, z10, Bool.false_eq_true, e_argi, e_argr, e_argn, zld_c, zst_n, zst_c, zpick_n, zpick_c, List.drop_succ_cons, List.drop_zero, List.take_succ_cons, List.take_zero, List.length_cons, List.length_nil, List.reverse_cons, List.reverse_nil, List.nil_append, List.cons_append, List.append_nil, List.getElem?_cons_zero, List.getElem?_cons_succ, List.set_cons_zero, List.set_cons_succ, Nat.add_sub_cancel_left, Nat.sub_self, Nat.add_zero, Nat.zero_add, Nat.le_add_right, Nat.le_refl, true_and, and_true, va_rf, zok, Nat.add_left_cancel_iff, Nat.add_eq_left, Nat.left_eq_add, eq_self, if_true, if_false, not_false_eq_true, not_true_eq_false, false_implies, true_implies, Nat.reduceEqDiff, Nat.reduceAdd, Nat.reduceLT, Nat.reduceLeDiff, reduceIte]
  exact loop 6 0 0 rfl (by omega) (fun f hf => by cases hf) (fun _ => rfl)
set_option maxRecDepth 100000 in
set_option maxHeartbeats 4000000 in
theorem S_X5_downByRing_54 {p : Program} {e : Env} {s : State} {m : MethodId} {args : Array Value} {below : List Frame} {meth : Method} {c : Code} {D : va_G} {cy : zY} {b n0 : Nat} {P : zPo} (la : Launch) (X : zX p la e (rm_X5_downByRing) s m args below meth c 7 D cy b n0 cX5_downByRing wsX5_downByRing RX5) (hr : meth.sig.returnType = (some .int)) (h_X1_thoughtOf : zMet la yX1_thoughtOf wsX1_thoughtOf rm_X1_thoughtOf 0 0 sp_X1_thoughtOf) : zS p la e (rm_X5_downByRing) s m args below meth c (MQ below (zQ D b (n0 + 0) P) args s 0 0 (fun q => b ≤ q)) 7 D b n0 54 (B_X5_downByRing_54 b n0 cy P (zAt p la e (rm_X5_downByRing) s m args below meth c (MQ below (zQ D b (n0 + 0) P) args s 0 0 (fun q => b ≤ q)) 7 D b n0)) := by
  unfold B_X5_downByRing_54
  exact (s_iinc X dX5_downByRing_54 (by decide) (by decide) (s_goto X dX5_downByRing_57 (by decide) (s_cut (by decide) zS_at)))
set_option maxRecDepth 100000 in
set_option maxHeartbeats 4000000 in
theorem S_X5_downByRing_9 {p : Program} {e : Env} {s : State} {m : MethodId} {args : Array Value} {below : List Frame} {meth : Method} {c : Code} {D : va_G} {cy : zY} {b n0 : Nat} {P : zPo} (la : Launch) (X : zX p la e (rm_X5_downByRing) s m args below meth c 7 D cy b n0 cX5_downByRing wsX5_downByRing RX5) (hr : meth.sig.returnType = (some .int)) (h_X1_thoughtOf : zMet la yX1_thoughtOf wsX1_thoughtOf rm_X1_thoughtOf 0 0 sp_X1_thoughtOf) : zS p la e (rm_X5_downByRing) s m args below meth c (MQ below (zQ D b (n0 + 0) P) args s 0 0 (fun q => b ≤ q)) 7 D b n0 9 (B_X5_downByRing_9 b n0 cy P (zAt p la e (rm_X5_downByRing) s m args below meth c (MQ below (zQ D b (n0 + 0) P) args s 0 0 (fun q => b ≤ q)) 7 D b n0)) := by
  unfold B_X5_downByRing_9
  exact (s_iload X dX5_downByRing_9 (s_bipush X dX5_downByRing_11 (by decide) (s_icmp_ge X dX5_downByRing_13 (by decide) (s_iload_n X dX5_downByRing_60 rfl (s_iret X dX5_downByRing_61 hr)) (s_aload_n X dX5_downByRing_16 rfl (s_iload X dX5_downByRing_17 (s_iload_n X dX5_downByRing_19 rfl (s_callV X h_X1_thoughtOf dX5_downByRing_20 rfl gX5_downByRing_X1_thoughtOf rfl rfl rfl (by decide +kernel) ⟨by decide, by decide⟩ (s_istore X dX5_downByRing_23 (by decide) (s_iload X dX5_downByRing_25 (s_iload_n X dX5_downByRing_27 rfl (s_icmp_eq X dX5_downByRing_28 (by decide) (S_X5_downByRing_54 la X hr h_X1_thoughtOf) (s_iload_n X dX5_downByRing_31 rfl (s_iload X dX5_downByRing_32 (s_ishr X dX5_downByRing_34 (s_iconst X dX5_downByRing_35 (by decide) (s_iand X dX5_downByRing_36 (s_if_eq X dX5_downByRing_37 (by decide) (S_X5_downByRing_54 la X hr h_X1_thoughtOf) (s_iload X dX5_downByRing_40 (s_iload X dX5_downByRing_42 (s_icmp_le X dX5_downByRing_44 (by decide) (S_X5_downByRing_54 la X hr h_X1_thoughtOf) (s_iload X dX5_downByRing_47 (s_istore_n X dX5_downByRing_49 rfl (by decide) (s_iload X dX5_downByRing_50 (s_istore X dX5_downByRing_52 (by decide) (S_X5_downByRing_54 la X hr h_X1_thoughtOf)))))))))))))))))))))))))
set_option maxRecDepth 100000 in
set_option maxHeartbeats 4000000 in
theorem S_X5_downByRing_0 {p : Program} {e : Env} {s : State} {m : MethodId} {args : Array Value} {below : List Frame} {meth : Method} {c : Code} {D : va_G} {cy : zY} {b n0 : Nat} {P : zPo} (la : Launch) (X : zX p la e (rm_X5_downByRing) s m args below meth c 7 D cy b n0 cX5_downByRing wsX5_downByRing RX5) (hr : meth.sig.returnType = (some .int)) (h_X1_thoughtOf : zMet la yX1_thoughtOf wsX1_thoughtOf rm_X1_thoughtOf 0 0 sp_X1_thoughtOf) : zS p la e (rm_X5_downByRing) s m args below meth c (MQ below (zQ D b (n0 + 0) P) args s 0 0 (fun q => b ≤ q)) 7 D b n0 0 (B_X5_downByRing_0 b n0 cy P (zAt p la e (rm_X5_downByRing) s m args below meth c (MQ below (zQ D b (n0 + 0) P) args s 0 0 (fun q => b ≤ q)) 7 D b n0)) := by
  unfold B_X5_downByRing_0
  exact (s_bipush X dX5_downByRing_0 (by decide) (s_istore_n X dX5_downByRing_2 rfl (by decide) (s_iconst X dX5_downByRing_3 (by decide) (s_istore X dX5_downByRing_4 (by decide) (s_iconst X dX5_downByRing_6 (by decide) (s_istore X dX5_downByRing_7 (by decide) (s_cut (by decide) zS_at)))))))
theorem w_X5_downByRing (la : Launch) (h_X1_thoughtOf : zMet la yX1_thoughtOf wsX1_thoughtOf rm_X1_thoughtOf 0 0 sp_X1_thoughtOf) (sp : zSp) (vc : zVC_X5_downByRing sp) : zMet la yX5_downByRing wsX5_downByRing (rm_X5_downByRing) 0 0 sp :=
  z_of (cc := cX5_downByRing) (maxL := 7) (ret := (some .int)) (by decide +kernel) rfl (fun p e s m args below meth c D cy b n as E P hsp X hr hin => by
    obtain ⟨h1, h2⟩ := vc b cy n as E P (zAt p la e (rm_X5_downByRing) s m args below meth c (MQ below (zQ D b (n + 0) P) args s 0 0 (fun q => b ≤ q)) 7 D b n) (fun _ _ _ _ _ q => S_X5_downByRing_9 la X hr h_X1_thoughtOf _ _ _ _ _ q) hsp
    exact ⟨h1, S_X5_downByRing_0 la X hr h_X1_thoughtOf _ _ _ _ _ h2⟩)

theorem m_X5_downByRing (la : Launch) : zMet la yX5_downByRing wsX5_downByRing rm_X5_downByRing 0 0 sp_X5_downByRing := w_X5_downByRing la (m_X1_thoughtOf la) _ vc_X5_downByRing
def sp_X5_downByDoubleRing : zSp := fun b cy as N E P => ∃ (n : Nat) (lo la : Nat → Nat) (i : Nat) (c : Nat → Nat) (r : Nat), as = [.ref (b + i), .int (nI r)] ∧ zP1 b cy N E n lo la i c ∧ r < 6 ∧ P (some (.int (zrv (ztwo n c r)))) E
abbrev rm_X5_downByDoubleRing : Room := { frames := 2, cells := 0, slots := 0, locals := 62 }
def B_X5_downByDoubleRing_51 (b n0 : Nat) (cy : zY) (P : zPo) (A : Nat → zC) : zC :=
  z_iinc 4 (1) (z_cut [0, 1, 2, 3, 4] (A 8))
def B_X5_downByDoubleRing_8 (b n0 : Nat) (cy : zY) (P : zPo) (A : Nat → zC) : zC :=
  z_iload 4 (z_const (6) (z_icmp (fun x y => y ≤ x) (z_iload 2 (z_iret 0 0 P)) (z_aload 0 (z_iload 1 (z_iload 4 (z_callV b n0 0 0 cy 1 2 0 0 sp_X1_thoughtOf (z_istore 5 (z_iload 4 (z_iload 1 (z_icmp (fun x y => x = y) (B_X5_downByDoubleRing_51 b n0 cy P A) (z_aload 0 (z_iload 4 (z_callV b n0 0 0 cy 1 1 0 0 sp_X1_isAboard (z_if (fun x => x = 0) (B_X5_downByDoubleRing_51 b n0 cy P A) (z_iload 5 (z_iload 3 (z_icmp (fun x y => x ≤ y) (B_X5_downByDoubleRing_51 b n0 cy P A) (z_iload 4 (z_istore 2 (z_iload 5 (z_istore 3 (B_X5_downByDoubleRing_51 b n0 cy P A))))))))))))))))))))))
def B_X5_downByDoubleRing_0 (b n0 : Nat) (cy : zY) (P : zPo) (A : Nat → zC) : zC :=
  z_const (-9) (z_istore 2 (z_const (0) (z_istore 3 (z_const (0) (z_istore 4 (z_cut [0, 1, 2, 3, 4] (A 8)))))))
def zVC_X5_downByDoubleRing (sp : zSp) : Prop := ∀ (b : Nat) (cy : zY) (n : Nat) (as : List Value) (E : zE) (P : zPo) (A : Nat → zC), (∀ l st k u E, B_X5_downByDoubleRing_8 b n cy P A l st k u E → A 8 l st k u E) → sp b cy as n E P → zgood as 6 ∧ B_X5_downByDoubleRing_0 b n cy P A (lv_args 0 as) [] 0 0 E

set_option maxRecDepth 100000 in
set_option maxHeartbeats 4000000 in
theorem vc_X5_downByDoubleRing : zVC_X5_downByDoubleRing sp_X5_downByDoubleRing := by
  intro b cy N as E P A hA hsp
  obtain ⟨n, lo, la, i, c, r, rfl, ⟨⟨⟨kept, cnt, tr, e0⟩, ⟨seat, line, items, ⟨hn, f, g, h, h0, h1, h2, h3, hf, hg, hh⟩⟩, hlo⟩, hmo, hok, hi, hN⟩, hr, hP⟩ := hsp
  refine ⟨⟨Nat.le_of_ble_eq_true rfl, zg1 rfl (zg1 rfl (zg0))⟩, ?_⟩
  have k6 : (6 : Int32) = nI 6 := rfl
  have N0 : 0 < N := by omega
  have N3 : 3 < N := by omega
  obtain ⟨hn', mf, mg, mh, m0, m1, m2, m3, hmf, hmg, hmh⟩ := id hmo
  have hi0 : i < N := by omega
  rw [ztwo_6 hn hok.2.1] at hP
  unfold ztwo at hP
  generalize hok1 : (fun q => decide (q ≠ r) && (c 1).testBit q && decide (0 < c (16 + 6 * r + q))) = ok at hP
  generalize hbt1 : (fun q f => decide (c (16 + 6 * r + f) < c (16 + 6 * r + q))) = bt at hP
  have loop : ∀ (d k : Nat) (w : Nat) (hd : d + k = 6), w < 2 ^ 31 → (∀ f, zfo ok bt k = some f → w = c (16 + 6 * r + f)) → (zfo ok bt k = none → w = 0) → A 8 [(0, .ref (b + i)), (1, .int (nI r)), (2, .int (zrv (zfo ok bt k))), (3, .int (nI w)), (4, .int (nI k))] [] 0 0 E := by
    intro d
    induction d with
    | zero =>
      intro k w hd hw31 hw hw0
      obtain rfl : k = 6 := by omega
      apply hA
      have cle : nI 6 ≤ nI 6 := nI_le (Nat.le_refl _) (by omega)
      simp only [B_X5_downByDoubleRing_0, B_X5_downByDoubleRing_8, B_X5_downByDoubleRing_51, e_cut, e_iload, e_aload, e_istore, e_astore, e_iinc, e_const, e_lconst, e_bin, e_bin0, e_un, e_ladd, e_dupi, e_dupr, e_dup2, e_pop, e_if, e_icmp, e_sw, e_sw0, e_sw1, e_get, e_put, e_ald, e_ast, e_aald, e_aast, e_copy, e_new, e_newa, e_anewa, e_min, e_abs, e_oinit, e_callI, e_callV, e_callS, e_iret, e_zret, e_lret, e_vret, e_tl1, e_tl0, e_tl2, e_tl3, z10, Bool.false_eq_true, e_argi, e_argr, e_argn, zld_c, zst_n, zst_c, zpick_n, zpick_c, List.drop_succ_cons, List.drop_zero, List.take_succ_cons, List.take_zero, List.length_cons, List.length_nil, List.reverse_cons, List.reverse_nil, List.nil_append, List.cons_append, List.append_nil, List.getElem?_cons_zero, List.getElem?_cons_succ, List.set_cons_zero, List.set_cons_succ, Nat.add_sub_cancel_left, Nat.sub_self, Nat.add_zero, Nat.zero_add, Nat.le_add_right, Nat.le_refl, true_and, and_true, va_rf, zok, Nat.add_left_cancel_iff, Nat.add_eq_left, Nat.left_eq_add, eq_self, if_true, if_false, not_false_eq_true, not_true_eq_false, false_implies, true_implies, Nat.reduceEqDiff, Nat.reduceAdd, Nat.reduceLT, Nat.reduceLeDiff, reduceIte, k6, cle]
      exact hP
    | succ d ih =>
      intro k w hd hw31 hw hw0
      have hk6 : k < 6 := by omega
      apply hA
      have cle : ¬ nI 6 ≤ nI k := nI_ge hk6 (by omega)
      have hlt := hok.lat hr hk6
      simp only [B_X5_downByDoubleRing_0, B_X5_downByDoubleRing_8, B_X5_downByDoubleRing_51, e_cut, e_iload, e_aload, e_istore, e_astore, e_iinc, e_const, e_lconst, e_bin, e_bin0, e_un, e_ladd, e_dupi, e_dupr, e_dup2, e_pop, e_if, e_icmp, e_sw, e_sw0, e_sw1, e_get, e_put, e_ald, e_ast, e_aald, e_aast, e_copy, e_new, e_newa, e_anewa, e_min, e_abs, e_oinit, e_callI, e_callV, e_callS, e_iret, e_zret, e_lret, e_vret, e_tl1, e_tl0, e_tl2, e_tl3, z10, Bool.false_eq_true, e_argi, e_argr, e_argn, zld_c, zst_n, zst_c, zpick_n, zpick_c, List.drop_succ_cons, List.drop_zero, List.take_succ_cons, List.take_zero, List.length_cons, List.length_nil, List.reverse_cons, List.reverse_nil, List.nil_append, List.cons_append, List.append_nil, List.getElem?_cons_zero, List.getElem?_cons_succ, List.set_cons_zero, List.set_cons_succ, Nat.add_sub_cancel_left, Nat.sub_self, Nat.add_zero, Nat.zero_add, Nat.le_add_right, Nat.le_refl, true_and, and_true, va_rf, zok, Nat.add_left_cancel_iff, Nat.add_eq_left, Nat.left_eq_add, eq_self, if_true, if_false, not_false_eq_true, not_true_eq_false, false_implies, true_implies, Nat.reduceEqDiff, Nat.reduceAdd, Nat.reduceLT, Nat.reduceLeDiff, reduceIte, k6, cle, m0, hi0]
      refine ⟨i, r, k, n, c, rfl, hmo, hi, hr, hk6, ?_⟩
      simp only [e_cut, e_iload, e_aload, e_istore, e_astore, e_iinc, e_const, e_lconst, e_bin, e_bin0, e_un, e_ladd, e_dupi, e_dupr, e_dup2, e_pop, e_if, e_icmp, e_sw, e_sw0, e_sw1, e_get, e_put, e_ald, e_ast, e_aald, e_aast, e_copy, e_new, e_newa, e_anewa, e_min, e_abs, e_oinit, e_callI, e_callV, e_callS, e_iret, e_zret, e_lret, e_vret, e_tl1, e_tl0, e_tl2, e_tl3, z10, Bool.false_eq_true, e_argi, e_argr, e_argn, zld_c, zst_n, zst_c, zpick_n, zpick_c, List.drop_succ_cons, List.drop_zero, List.take_succ_cons, List.take_zero, List.length_cons, List.length_nil, List.reverse_cons, List.reverse_nil, List.nil_append, List.cons_append, List.append_nil, List.getElem?_cons_zero, List.getElem?_cons_succ, List.set_cons_zero, List.set_cons_succ, Nat.add_sub_cancel_left, Nat.sub_self, Nat.add_zero, Nat.zero_add, Nat.le_add_right, Nat.le_refl, true_and, and_true, va_rf, zok, Nat.add_left_cancel_iff, Nat.add_eq_left, Nat.left_eq_add, eq_self, if_true, if_false, not_false_eq_true, not_true_eq_false, false_implies, true_implies, Nat.reduceEqDiff, Nat.reduceAdd, Nat.reduceLT, Nat.reduceLeDiff, reduceIte, nI_eq (show k < 2 ^ 31 by omega) (show r < 2 ^ 31 by omega), nI_1, m0, hi0]
      by_cases q0 : k = r
      · have e : zfo ok bt (k + 1) = zfo ok bt k := zfo_no (by rw [← hok1]; simp [q0])
        have h9 := ih (k + 1) w (by omega) hw31 (by rw [e]; exact hw) (by rw [e]; exact hw0)
        rw [e] at h9
        exact ⟨fun _ => h9, fun c1 => absurd q0 c1⟩
      · refine ⟨fun c1 => absurd c1 q0, fun _ => ?_⟩
        refine ⟨i, k, n, c, rfl, hmo, hi, hk6, hok.l64, ?_⟩
        by_cases q1 : (c 1).testBit k = true
        · simp only [q1, z10, e_cut, e_iload, e_aload, e_istore, e_astore, e_iinc, e_const, e_lconst, e_bin, e_bin0, e_un, e_ladd, e_dupi, e_dupr, e_dup2, e_pop, e_if, e_icmp, e_sw, e_sw0, e_sw1, e_get, e_put, e_ald, e_ast, e_aald, e_aast, e_copy, e_new, e_newa, e_anewa, e_min, e_abs, e_oinit, e_callI, e_callV, e_callS, e_iret, e_zret, e_lret, e_vret, e_tl1, e_tl0, e_tl2, e_tl3, z10, Bool.false_eq_true, e_argi, e_argr, e_argn, zld_c, zst_n, zst_c, zpick_n, zpick_c, List.drop_succ_cons, List.drop_zero, List.take_succ_cons, List.take_zero, List.length_cons, List.length_nil, List.reverse_cons, List.reverse_nil, List.nil_append, List.cons_append, List.append_nil, List.getElem?_cons_zero, List.getElem?_cons_succ, List.set_cons_zero, List.set_cons_succ, Nat.add_sub_cancel_left, Nat.sub_self, Nat.add_zero, Nat.zero_add, Nat.le_add_right, Nat.le_refl, true_and, and_true, va_rf, zok, Nat.add_left_cancel_iff, Nat.add_eq_left, Nat.left_eq_add, eq_self, if_true, if_false, not_false_eq_true, not_true_eq_false, false_implies, true_implies, Nat.reduceEqDiff, Nat.reduceAdd, Nat.reduceLT, Nat.reduceLeDiff, reduceIte, nI_leI hlt hw31, nI_1]
          refine ⟨fun c2 => ?_, fun c2 => ?_⟩
          · have e : zfo ok bt (k + 1) = zfo ok bt k := by
              cases hz : zfo ok bt k with
              | none =>
                have := hw0 hz
                rw [← hz]; exact zfo_no (by rw [← hok1]; simp; intro _ _; omega)
              | some f0 =>
                have := hw f0 hz
                rw [← hz]; exact zfo_w hz (by rw [← hbt1]; simp; omega)
            have h9 := ih (k + 1) w (by omega) hw31 (by rw [e]; exact hw) (by rw [e]; exact hw0)
            rw [e] at h9; exact h9
          · have hokk : ok k = true := by rw [← hok1]; simp [q0, q1]; omega
            have e : zfo ok bt (k + 1) = some k := by
              cases hz : zfo ok bt k with
              | none => exact zfo_n hokk hz
              | some f0 =>
                have := hw f0 hz
                exact zfo_y hokk hz (by rw [← hbt1]; simp; omega)
            have h9 := ih (k + 1) (c (16 + 6 * r + k)) (by omega) hlt (by rw [e]; intro f hf; cases hf; rfl) (by rw [e]; intro h; cases h)
            rw [e] at h9; exact h9
        · have e : zfo ok bt (k + 1) = zfo ok bt k := zfo_no (by rw [← hok1]; simp [q1])
          have h9 := ih (k + 1) w (by omega) hw31 (by rw [e]; exact hw) (by rw [e]; exact hw0)
          rw [e] at h9
          simp only [q1, e_cut, e_iload, e_aload, e_istore, e_astore, e_iinc, e_const, e_lconst, e_bin, e_bin0, e_un, e_ladd, e_dupi, e_dupr, e_dup2, e_pop, e_if, e_icmp, e_sw, e_sw0, e_sw1, e_get, e_put, e_ald, e_ast, e_aald, e_aast, e_copy, e_new, e_newa, e_anewa, e_min, e_abs, e_oinit, e_callI, e_callV, e_callS, e_iret, e_zret, e_lret, e_vret, e_tl1, e_tl0, e_tl2, e_tl3, z10, Bool.false_eq_true, e_argi, e_argr, e_argn, zld_c, zst_n, zst_c, zpick_n, zpick_c, List.drop_succ_cons, List.drop_zero, List.take_succ_cons, List.take_zero, List.length_cons, List.length_nil, List.reverse_cons, List.reverse_nil, List.nil_append, List.cons_append, List.append_nil, List.getElem?_cons_zero, List.getElem?_cons_succ, List.set_cons_zero, List.set_cons_succ, Nat.add_sub_cancel_left, Nat.sub_self, Nat.add_zero, Nat.zero_add, Nat.le_add_right, Nat.le_refl, true_and, and_true, va_rf, zok, Nat.add_left_cancel_iff, Nat.add_eq_left, Nat.left_eq_add, eq_self, if_true, if_false, not_false_eq_true, not_true_eq_false, false_implies, true_implies, Nat.reduceEqDiff, Nat.reduceAdd, Nat.reduceLT, Nat.reduceLeDiff, reduceIte, nI_1]
          exact h9
  simp only [B_X5_downByDoubleRing_0, B_X5_downByDoubleRing_8, B_X5_downByDoubleRing_51, e_cut, e_iload, e_aload, e_istore, e_astore, e_iinc, e_const, e_lconst, e_bin, e_bin0, e_un, e_ladd, e_dupi, e_dupr, e_dup2, e_pop, e_if, e_icmp, e_sw, e_sw0, e_sw1, e_get, e_put, e_ald, e_ast, e_aald, e_aast, e_copy, e_new, e_newa, e_anewa, e_min, e_abs, e_oinit, e_callI, e_callV, e_callS, e_iret, e_zret, e_lret, e_vret, e_tl1, e_tl0, e_tl2, e_tl3, z10, Bool.false_eq_true, e_argi, e_argr, e_argn, zld_c, zst_n, zst_c, zpick_n, zpick_c, List.drop_succ_cons, List.drop_zero, List.take_succ_cons, List.take_zero, List.length_cons, List.length_nil, List.reverse_cons, List.reverse_nil, List.nil_append, List.cons_append, List.append_nil, List.getElem?_cons_zero, List.getElem?_cons_succ, List.set_cons_zero, List.set_cons_succ, Nat.add_sub_cancel_left, Nat.sub_self, Nat.add_zero, Nat.zero_add, Nat.le_add_right, Nat.le_refl, true_and, and_true, va_rf, zok, Nat.add_left_cancel_iff, Nat.add_eq_left, Nat.left_eq_add, eq_self, if_true, if_false, not_false_eq_true, not_true_eq_false, false_implies, true_implies, Nat.reduceEqDiff, Nat.reduceAdd, Nat.reduceLT, Nat.reduceLeDiff, reduceIte]
  exact loop 6 0 0 rfl (by omega) (fun f hf => by cases hf) (fun _ => rfl)
set_option maxRecDepth 100000 in
set_option maxHeartbeats 4000000 in
theorem S_X5_downByDoubleRing_51 {p : Program} {e : Env} {s : State} {m : MethodId} {args : Array Value} {below : List Frame} {meth : Method} {c : Code} {D : va_G} {cy : zY} {b n0 : Nat} {P : zPo} (la : Launch) (X : zX p la e (rm_X5_downByDoubleRing) s m args below meth c 6 D cy b n0 cX5_downByDoubleRing wsX5_downByDoubleRing RX5) (hr : meth.sig.returnType = (some .int)) (h_X1_isAboard : zMet la yX1_isAboard wsX1_isAboard rm_X1_isAboard 0 0 sp_X1_isAboard) (h_X1_thoughtOf : zMet la yX1_thoughtOf wsX1_thoughtOf rm_X1_thoughtOf 0 0 sp_X1_thoughtOf) : zS p la e (rm_X5_downByDoubleRing) s m args below meth c (MQ below (zQ D b (n0 + 0) P) args s 0 0 (fun q => b ≤ q)) 6 D b n0 51 (B_X5_downByDoubleRing_51 b n0 cy P (zAt p la e (rm_X5_downByDoubleRing) s m args below meth c (MQ below (zQ D b (n0 + 0) P) args s 0 0 (fun q => b ≤ q)) 6 D b n0)) := by
  unfold B_X5_downByDoubleRing_51
  exact (s_iinc X dX5_downByDoubleRing_51 (by decide) (by decide) (s_goto X dX5_downByDoubleRing_54 (by decide) (s_cut (by decide) zS_at)))
set_option maxRecDepth 100000 in
set_option maxHeartbeats 4000000 in
theorem S_X5_downByDoubleRing_8 {p : Program} {e : Env} {s : State} {m : MethodId} {args : Array Value} {below : List Frame} {meth : Method} {c : Code} {D : va_G} {cy : zY} {b n0 : Nat} {P : zPo} (la : Launch) (X : zX p la e (rm_X5_downByDoubleRing) s m args below meth c 6 D cy b n0 cX5_downByDoubleRing wsX5_downByDoubleRing RX5) (hr : meth.sig.returnType = (some .int)) (h_X1_isAboard : zMet la yX1_isAboard wsX1_isAboard rm_X1_isAboard 0 0 sp_X1_isAboard) (h_X1_thoughtOf : zMet la yX1_thoughtOf wsX1_thoughtOf rm_X1_thoughtOf 0 0 sp_X1_thoughtOf) : zS p la e (rm_X5_downByDoubleRing) s m args below meth c (MQ below (zQ D b (n0 + 0) P) args s 0 0 (fun q => b ≤ q)) 6 D b n0 8 (B_X5_downByDoubleRing_8 b n0 cy P (zAt p la e (rm_X5_downByDoubleRing) s m args below meth c (MQ below (zQ D b (n0 + 0) P) args s 0 0 (fun q => b ≤ q)) 6 D b n0)) := by
  unfold B_X5_downByDoubleRing_8
  exact (s_iload X dX5_downByDoubleRing_8 (s_bipush X dX5_downByDoubleRing_10 (by decide) (s_icmp_ge X dX5_downByDoubleRing_12 (by decide) (s_iload_n X dX5_downByDoubleRing_57 rfl (s_iret X dX5_downByDoubleRing_58 hr)) (s_aload_n X dX5_downByDoubleRing_15 rfl (s_iload_n X dX5_downByDoubleRing_16 rfl (s_iload X dX5_downByDoubleRing_17 (s_callV X h_X1_thoughtOf dX5_downByDoubleRing_19 rfl gX5_downByDoubleRing_X1_thoughtOf rfl rfl rfl (by decide +kernel) ⟨by decide, by decide⟩ (s_istore X dX5_downByDoubleRing_22 (by decide) (s_iload X dX5_downByDoubleRing_24 (s_iload_n X dX5_downByDoubleRing_26 rfl (s_icmp_eq X dX5_downByDoubleRing_27 (by decide) (S_X5_downByDoubleRing_51 la X hr h_X1_isAboard h_X1_thoughtOf) (s_aload_n X dX5_downByDoubleRing_30 rfl (s_iload X dX5_downByDoubleRing_31 (s_callV X h_X1_isAboard dX5_downByDoubleRing_33 rfl gX5_downByDoubleRing_X1_isAboard rfl rfl rfl (by decide +kernel) ⟨by decide, by decide⟩ (s_if_eq X dX5_downByDoubleRing_36 (by decide) (S_X5_downByDoubleRing_51 la X hr h_X1_isAboard h_X1_thoughtOf) (s_iload X dX5_downByDoubleRing_39 (s_iload_n X dX5_downByDoubleRing_41 rfl (s_icmp_le X dX5_downByDoubleRing_42 (by decide) (S_X5_downByDoubleRing_51 la X hr h_X1_isAboard h_X1_thoughtOf) (s_iload X dX5_downByDoubleRing_45 (s_istore_n X dX5_downByDoubleRing_47 rfl (by decide) (s_iload X dX5_downByDoubleRing_48 (s_istore_n X dX5_downByDoubleRing_50 rfl (by decide) (S_X5_downByDoubleRing_51 la X hr h_X1_isAboard h_X1_thoughtOf)))))))))))))))))))))))
set_option maxRecDepth 100000 in
set_option maxHeartbeats 4000000 in
theorem S_X5_downByDoubleRing_0 {p : Program} {e : Env} {s : State} {m : MethodId} {args : Array Value} {below : List Frame} {meth : Method} {c : Code} {D : va_G} {cy : zY} {b n0 : Nat} {P : zPo} (la : Launch) (X : zX p la e (rm_X5_downByDoubleRing) s m args below meth c 6 D cy b n0 cX5_downByDoubleRing wsX5_downByDoubleRing RX5) (hr : meth.sig.returnType = (some .int)) (h_X1_isAboard : zMet la yX1_isAboard wsX1_isAboard rm_X1_isAboard 0 0 sp_X1_isAboard) (h_X1_thoughtOf : zMet la yX1_thoughtOf wsX1_thoughtOf rm_X1_thoughtOf 0 0 sp_X1_thoughtOf) : zS p la e (rm_X5_downByDoubleRing) s m args below meth c (MQ below (zQ D b (n0 + 0) P) args s 0 0 (fun q => b ≤ q)) 6 D b n0 0 (B_X5_downByDoubleRing_0 b n0 cy P (zAt p la e (rm_X5_downByDoubleRing) s m args below meth c (MQ below (zQ D b (n0 + 0) P) args s 0 0 (fun q => b ≤ q)) 6 D b n0)) := by
  unfold B_X5_downByDoubleRing_0
  exact (s_bipush X dX5_downByDoubleRing_0 (by decide) (s_istore_n X dX5_downByDoubleRing_2 rfl (by decide) (s_iconst X dX5_downByDoubleRing_3 (by decide) (s_istore_n X dX5_downByDoubleRing_4 rfl (by decide) (s_iconst X dX5_downByDoubleRing_5 (by decide) (s_istore X dX5_downByDoubleRing_6 (by decide) (s_cut (by decide) zS_at)))))))
theorem w_X5_downByDoubleRing (la : Launch) (h_X1_isAboard : zMet la yX1_isAboard wsX1_isAboard rm_X1_isAboard 0 0 sp_X1_isAboard) (h_X1_thoughtOf : zMet la yX1_thoughtOf wsX1_thoughtOf rm_X1_thoughtOf 0 0 sp_X1_thoughtOf) (sp : zSp) (vc : zVC_X5_downByDoubleRing sp) : zMet la yX5_downByDoubleRing wsX5_downByDoubleRing (rm_X5_downByDoubleRing) 0 0 sp :=
  z_of (cc := cX5_downByDoubleRing) (maxL := 6) (ret := (some .int)) (by decide +kernel) rfl (fun p e s m args below meth c D cy b n as E P hsp X hr hin => by
    obtain ⟨h1, h2⟩ := vc b cy n as E P (zAt p la e (rm_X5_downByDoubleRing) s m args below meth c (MQ below (zQ D b (n + 0) P) args s 0 0 (fun q => b ≤ q)) 6 D b n) (fun _ _ _ _ _ q => S_X5_downByDoubleRing_8 la X hr h_X1_isAboard h_X1_thoughtOf _ _ _ _ _ q) hsp
    exact ⟨h1, S_X5_downByDoubleRing_0 la X hr h_X1_isAboard h_X1_thoughtOf _ _ _ _ _ h2⟩)

theorem m_X5_downByDoubleRing (la : Launch) : zMet la yX5_downByDoubleRing wsX5_downByDoubleRing rm_X5_downByDoubleRing 0 0 sp_X5_downByDoubleRing := w_X5_downByDoubleRing la (m_X1_isAboard la) (m_X1_thoughtOf la) _ vc_X5_downByDoubleRing

