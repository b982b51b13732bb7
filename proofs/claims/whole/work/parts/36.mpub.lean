theorem zCa.put {f g : Nat → Int32} {n m : Nat} {c0 c : Nat → Nat} {p : Nat → Nat → Nat} (h : zCa f 0 n (c0, m, p)) (hn : n ≤ 6) (hc : zCm g 0 n c) (hg : ∀ j, 52 ≤ j → g j = f j) : zCa g 0 n (c, m, p) := by
  obtain ⟨_, h1, h2⟩ := h
  refine ⟨hc, ?_, fun t ht => (h2 t ht).cp hn (fun j hj => hg _ (by omega))⟩
  rw [hg _ (by omega)]; exact h1
/-- only the present and what may be undone have changed -/
theorem zMD.cur {b : Nat} {cy : zY} {E E' : zE} {T : zT} {D : zD} {C C' : zCar} {I : zIg} {S : zSe} {tr : Int64} {f f' : Nat → Int32} (h : zMD b cy E (T, D, C, I, S, tr)) (hf : E 166 = .inl (cy 1, 1719, .inl f)) (hn : D.1 ≤ 6) (h6 : E' 166 = .inl (cy 1, 1719, .inl f')) (hC : zCa f' 0 D.1 C') (hg : ∀ j, 573 ≤ j → f' j = f j) (hE : ∀ j, j ≠ 166 → j ≠ 168 → j ≠ 169 → E' j = E j) (h8 : ∃ g : Nat → Int32, E' 168 = .inl (cy 1, 52, .inl g)) (h9 : ∃ g : Nat → Int32, E' 169 = .inl (cy 1, 6, .inl g)) : zMD b cy E' (T, D, C', I, S, tr) := by
  obtain ⟨a0, a1, a2, a3, a4, a5, a6, ⟨f0, a7, _, a8, a9⟩, a10, _, _, a13, a14⟩ := h
  rw [hf] at a7
  obtain rfl : f = f0 := by simpa using a7
  have up : ∀ o C2, 573 ≤ o → zCa f o D.1 C2 → zCa f' o D.1 C2 := fun o C2 ho hc => ⟨hc.1.cp hn (fun j hj => hg _ (by omega)), by rw [hg _ (by omega)]; exact hc.2.1, fun t ht => (hc.2.2 t ht).cp hn (fun j hj => hg _ (by omega))⟩
  refine ⟨?_, ?_, ?_, ?_, ?_, ?_, ?_, ⟨f', h6, hC, fun C2 h2 => up _ _ (by omega) (a8 C2 h2), fun C2 h2 => up _ _ (by omega) (a9 C2 h2)⟩, ?_, h8, h9, ?_, ?_⟩ <;> (rw [hE _ (by omega) (by omega) (by omega)]; assumption)
def sp_X6_rides : zSp := fun b cy as N E P => zPM op_rides [] b cy as N E P
abbrev rm_X6_rides : Room := { frames := 5, cells := 0, slots := 0, locals := 135 }
def B_X6_rides_0 (b n0 : Nat) (cy : zY) (P : zPo) (A : Nat → zC) : zC :=
  z_aload 0 (z_get b n0 6 14 (z_const (0) (z_ald b n0 (cy 1) (z_const (99) (z_icmp (fun x y => x = y) (z_const (-2) (z_iret 0 0 P)) (z_aload 0 (z_callV b n0 0 0 cy 6 0 0 0 sp_X6_know (z_aload 0 (z_aload 0 (z_get b n0 6 14 (z_callV b n0 0 0 cy 6 1 0 0 sp_X6_ride (z_aload 0 (z_get b n0 6 14 (z_const (0) (z_ald b n0 (cy 1) (z_iret 0 0 P))))))))))))))))
def zVC_X6_rides (sp : zSp) : Prop := ∀ (b : Nat) (cy : zY) (n : Nat) (as : List Value) (E : zE) (P : zPo) (A : Nat → zC), sp b cy as n E P → zgood as 1 ∧ B_X6_rides_0 b n cy P A (lv_args 0 as) [] 0 0 E

set_option maxRecDepth 100000 in
set_option maxHeartbeats 4000000 in
theorem vc_X6_rides : zVC_X6_rides sp_X6_rides := by
  intro b cy N as E P A hsp
  obtain ⟨K, ⟨T, D, C, I, S, tr⟩, rfl, hmd, hok, hK, hN, hP⟩ := hsp
  refine ⟨⟨Nat.le_of_ble_eq_true rfl, zg1 rfl (zg0)⟩, ?_⟩
  have N0 : 159 < N := by omega
  have N6 : 166 < N := by omega
  obtain ⟨lt, q, st, so, va, fa, e0⟩ := hmd.o
  replace e0 : E 159 = zM0 b tr (nI T.1) lt q st so va fa (nI S.1) := e0
  have hR := hmd.mr hok hN
  obtain ⟨f, hW, hCa⟩ := hmd.wr
  have hE := hW.2.2.1
  obtain ⟨h8, h9⟩ : (∃ g : Nat → Int32, E 168 = .inl (cy 1, 52, .inl g)) ∧ (∃ g : Nat → Int32, E 169 = .inl (cy 1, 6, .inl g)) := by
    obtain ⟨_, _, _, _, _, _, _, _, _, a, c, _⟩ := hmd; exact ⟨a, c⟩
  obtain ⟨hn, _, _, _, _, ⟨hmk, hs99, hth, hm10, _⟩, _⟩ := id hok
  replace hn : D.1 ≤ 6 := hn
  have hin : vp_in 0 1719 := (vp_in_nI (show 0 < 1719 by omega) (by omega) : vp_in (nI 0) 1719)
  have hcl : (0 : Int32).toNatClampNeg = 0 := by decide
  have v0 : f 0 = nI (C.1 0) := (zCm0 hW.2.2.2).1 0 (by omega)
  have k99 : (nI (C.1 0) = 99) = (C.1 0 = 99) := nI_lit (n := 99) (x := 99) rfl (by omega) (by omega)
  simp only [op_rides] at hP
  simp -implicitDefEqProofs only [B_X6_rides_0, e_cut, e_iload, e_aload, e_istore, e_astore, e_iinc, e_const, e_lconst, e_bin, e_bin0, e_un, e_ladd, e_dupi, e_dupr, e_dup2, e_pop, e_if, e_icmp, e_sw, e_sw0, e_sw1, e_get, e_put, e_ald, e_ast, e_aald, e_aast, e_copy, e_new, e_newa, e_anewa, e_min, e_abs, e_oinit, e_callI, e_callV, e_callS, e_iret, e_zret, e_lret, e_vret, e_tl1, e_tl0, e_tl2, e_tl3, z10, Bool.false_eq_true, e_argi, e_argr, e_argn, zld_c, zst_n, zst_c, zpick_n, zpick_c, List.drop_succ_cons, List.drop_zero, List.take_succ_cons, List.take_zero, List.length_cons, List.length_nil, List.reverse_cons, List.reverse_nil, List.nil_append, List.cons_append, List.append_nil, List.getElem?_cons_zero, List.getElem?_cons_succ, List.set_cons_zero, List.set_cons_succ, Nat.add_sub_cancel_left, Nat.sub_self, Nat.add_zero, Nat.zero_add, Nat.le_add_right, Nat.le_refl, true_and, and_true, va_rf, zok, Nat.add_left_cancel_iff, Nat.add_eq_left, Nat.left_eq_add, eq_self, if_true, if_false, not_false_eq_true, not_true_eq_false, false_implies, true_implies, Nat.reduceEqDiff, Nat.reduceAdd, Nat.reduceLT, Nat.reduceLeDiff, reduceIte, zM0, e0, hE, N0, N6, hin, hcl, v0, k99]
  refine ⟨fun c1 => ?_, fun c1 => ?_⟩
  · rw [if_neg (by omega)] at hP
    exact hP E hmd (fun _ _ => rfl)
  · rw [if_pos (by omega)] at hP
    refine ⟨D.1, D.2.1, D.2.2.1, C, f, rfl, hR, hE, hCa, hm10, fun E1 f1 g1 gC gf gk => ?_⟩
    have e01 := (gk 159 (by omega)).trans e0
    simp -implicitDefEqProofs only [e_cut, e_iload, e_aload, e_istore, e_astore, e_iinc, e_const, e_lconst, e_bin, e_bin0, e_un, e_ladd, e_dupi, e_dupr, e_dup2, e_pop, e_if, e_icmp, e_sw, e_sw0, e_sw1, e_get, e_put, e_ald, e_ast, e_aald, e_aast, e_copy, e_new, e_newa, e_anewa, e_min, e_abs, e_oinit, e_callI, e_callV, e_callS, e_iret, e_zret, e_lret, e_vret, e_tl1, e_tl0, e_tl2, e_tl3, z10, Bool.false_eq_true, e_argi, e_argr, e_argn, zld_c, zst_n, zst_c, zpick_n, zpick_c, List.drop_succ_cons, List.drop_zero, List.take_succ_cons, List.take_zero, List.length_cons, List.length_nil, List.reverse_cons, List.reverse_nil, List.nil_append, List.cons_append, List.append_nil, List.getElem?_cons_zero, List.getElem?_cons_succ, List.set_cons_zero, List.set_cons_succ, Nat.add_sub_cancel_left, Nat.sub_self, Nat.add_zero, Nat.zero_add, Nat.le_add_right, Nat.le_refl, true_and, and_true, va_rf, zok, Nat.add_left_cancel_iff, Nat.add_eq_left, Nat.left_eq_add, eq_self, if_true, if_false, not_false_eq_true, not_true_eq_false, false_implies, true_implies, Nat.reduceEqDiff, Nat.reduceAdd, Nat.reduceLT, Nat.reduceLeDiff, reduceIte, zM0, e01, N0]
    refine ⟨166, 1719, D.1, D.2.1, D.2.2.1, C.1, f1, rfl, hR.congr (gk _ (by omega)) (gk _ (by omega)) (gk _ (by omega)) (gk _ (by omega)), ⟨by omega, by omega, g1, gC.1⟩, hmk, by omega, by omega, by omega, by omega, fun E2 f2 hw2 hf2 hk2 => ?_⟩
    have e02 := (hk2 159 (by omega)).trans e01
    have v2 : f2 0 = nI (C.1 0 + 1) := by rw [(zCm0 hw2.2.2.2).1 0 (by omega), zride_lo.1]
    have g2 := hw2.2.2.1
    simp -implicitDefEqProofs only [e_cut, e_iload, e_aload, e_istore, e_astore, e_iinc, e_const, e_lconst, e_bin, e_bin0, e_un, e_ladd, e_dupi, e_dupr, e_dup2, e_pop, e_if, e_icmp, e_sw, e_sw0, e_sw1, e_get, e_put, e_ald, e_ast, e_aald, e_aast, e_copy, e_new, e_newa, e_anewa, e_min, e_abs, e_oinit, e_callI, e_callV, e_callS, e_iret, e_zret, e_lret, e_vret, e_tl1, e_tl0, e_tl2, e_tl3, z10, Bool.false_eq_true, e_argi, e_argr, e_argn, zld_c, zst_n, zst_c, zpick_n, zpick_c, List.drop_succ_cons, List.drop_zero, List.take_succ_cons, List.take_zero, List.length_cons, List.length_nil, List.reverse_cons, List.reverse_nil, List.nil_append, List.cons_append, List.append_nil, List.getElem?_cons_zero, List.getElem?_cons_succ, List.set_cons_zero, List.set_cons_succ, Nat.add_sub_cancel_left, Nat.sub_self, Nat.add_zero, Nat.zero_add, Nat.le_add_right, Nat.le_refl, true_and, and_true, va_rf, zok, Nat.add_left_cancel_iff, Nat.add_eq_left, Nat.left_eq_add, eq_self, if_true, if_false, not_false_eq_true, not_true_eq_false, false_implies, true_implies, Nat.reduceEqDiff, Nat.reduceAdd, Nat.reduceLT, Nat.reduceLeDiff, reduceIte, zM0, e02, g2, N0, N6, hin, hcl, v2]
    have kk : ∀ j, j ≠ 166 → E2 j = E j := fun j hj => (hk2 j hj).trans (gk j hj)
    refine hP E2 (hmd.cur hE hn g2 (gC.put hn hw2.2.2.2 hf2) (fun j hj => (hf2 j (by omega)).trans (gf j hj)) (fun j a _ _ => kk j a) (by rw [kk _ (by omega)]; exact h8) (by rw [kk _ (by omega)]; exact h9)) (fun j hj => kk j (by omega))
set_option maxRecDepth 20000 in
theorem f_X6_rides_29 : Cond.fieldLink RX6 29 (TX6 14).1 (TX6 14).2.1 (TX6 14).2.2.1 ∈ wsX6_rides := by decide +kernel
set_option maxRecDepth 20000 in
theorem k_X6_rides_6 : ∀ w ∈ u_ws RX6 TX6 21, w ∈ wsX6_rides := fun _ h => List.mem_cons_of_mem _ (List.mem_append_right _ h)
set_option maxRecDepth 100000 in
set_option maxHeartbeats 4000000 in
theorem S_X6_rides_0 {p : Program} {e : Env} {s : State} {m : MethodId} {args : Array Value} {below : List Frame} {meth : Method} {c : Code} {D : va_G} {cy : zY} {b n0 : Nat} {P : zPo} (la : Launch) (X : zX p la e (rm_X6_rides) s m args below meth c 1 D cy b n0 cX6_rides wsX6_rides RX6) (hr : meth.sig.returnType = (some .int)) (h_X6_know : zMet la yX6_know wsX6_know rm_X6_know 0 0 sp_X6_know) (h_X6_ride : zMet la yX6_ride wsX6_ride rm_X6_ride 0 0 sp_X6_ride) : zS p la e (rm_X6_rides) s m args below meth c (MQ below (zQ D b (n0 + 0) P) args s 0 0 (fun q => b ≤ q)) 1 D b n0 0 (B_X6_rides_0 b n0 cy P (zAt p la e (rm_X6_rides) s m args below meth c (MQ below (zQ D b (n0 + 0) P) args s 0 0 (fun q => b ≤ q)) 1 D b n0)) := by
  unfold B_X6_rides_0
  exact (s_aload_n X dX6_rides_0 rfl (s_get X dX6_rides_1 rfl k_X6_rides_6 (by decide) f_X6_rides_29 (s_iconst X dX6_rides_4 (by decide) (s_iald X dX6_rides_5 (s_bipush X dX6_rides_6 (by decide) (s_icmp_ne X dX6_rides_8 (by decide) (s_aload_n X dX6_rides_14 rfl (s_callV X h_X6_know dX6_rides_15 rfl gX6_rides_X6_know rfl rfl rfl (by decide +kernel) ⟨by decide, by decide⟩ (s_aload_n X dX6_rides_18 rfl (s_aload_n X dX6_rides_19 rfl (s_get X dX6_rides_20 rfl k_X6_rides_6 (by decide) f_X6_rides_29 (s_callV X h_X6_ride dX6_rides_23 rfl gX6_rides_X6_ride rfl rfl rfl (by decide +kernel) ⟨by decide, by decide⟩ (s_aload_n X dX6_rides_26 rfl (s_get X dX6_rides_27 rfl k_X6_rides_6 (by decide) f_X6_rides_29 (s_iconst X dX6_rides_30 (by decide) (s_iald X dX6_rides_31 (s_iret X dX6_rides_32 hr))))))))))) (s_bipush X dX6_rides_11 (by decide) (s_iret X dX6_rides_13 hr))))))))
theorem w_X6_rides (la : Launch) (h_X6_know : zMet la yX6_know wsX6_know rm_X6_know 0 0 sp_X6_know) (h_X6_ride : zMet la yX6_ride wsX6_ride rm_X6_ride 0 0 sp_X6_ride) (sp : zSp) (vc : zVC_X6_rides sp) : zMet la yX6_rides wsX6_rides (rm_X6_rides) 0 0 sp :=
  z_of (cc := cX6_rides) (maxL := 1) (ret := (some .int)) (by decide +kernel) rfl (fun p e s m args below meth c D cy b n as E P hsp X hr hin => by
    obtain ⟨h1, h2⟩ := vc b cy n as E P (zAt p la e (rm_X6_rides) s m args below meth c (MQ below (zQ D b (n + 0) P) args s 0 0 (fun q => b ≤ q)) 1 D b n) hsp
    exact ⟨h1, S_X6_rides_0 la X hr h_X6_know h_X6_ride _ _ _ _ _ h2⟩)

theorem m_X6_rides (la : Launch) : zMet la yX6_rides wsX6_rides rm_X6_rides 0 0 sp_X6_rides := w_X6_rides la (m_X6_know la) (m_X6_ride la) _ vc_X6_rides

