theorem zfo_congr {ok ok' : Nat → Bool} {bt bt' : Nat → Nat → Bool} : ∀ {n : Nat}, (∀ q, q < n → ok q = ok' q) → (∀ q f, q < n → f < n → ok q = true → ok f = true → bt q f = bt' q f) → zfo ok bt n = zfo ok' bt' n := by
  intro n
  induction n with
  | zero => intro _ _; rfl
  | succ n ih =>
    intro h1 h2
    have e := ih (fun q hq => h1 q (by omega)) (fun q f hq hf => h2 q f (by omega) (by omega))
    have e1 := h1 n (by omega)
    rw [zfo, zfo, ← e, ← e1]
    cases hz : zfo ok bt n with
    | none => rfl
    | some f =>
      have hf := zfo_lt hz
      cases hok : ok n with
      | false => simp
      | true => simp only [Bool.true_and]; rw [h2 n f (by omega) (by omega) hok hf.2]
theorem zup_self (c : Nat → Nat) (i : Nat) : zup c i (c i) = c := by
  funext k; unfold zup; split
  · next h => rw [h]
  · rfl
theorem zup_up (c : Nat → Nat) (i v w : Nat) : zup (zup c i v) i w = zup c i w := by
  funext k; unfold zup; split <;> rfl
theorem zMok.seat {n r s : Nat} {c : Nat → Nat} (h : zMok n c) (hr : r < 6) (hs : s ≤ 9) : zMok n (zup c (4 + r) s) := by
  obtain ⟨h1, h2, h3, h4, h5, h6, h7⟩ := h
  have e : ∀ k, k ≠ 4 + r → zup c (4 + r) s k = c k := fun k hk => by unfold zup; rw [if_neg hk]
  refine ⟨h1, by rw [e _ (by omega)]; exact h2, by rw [e _ (by omega)]; exact h3, by rw [e _ (by omega)]; exact h4, fun j hj => ?_, fun j hj => by rw [e _ (by omega), e _ (by omega)]; exact h6 j hj, fun j hj => by rw [e _ (by omega)]; exact h7 j hj⟩
  by_cases k : j = r
  · rw [k]; unfold zup; rw [if_pos rfl]; exact hs
  · rw [e _ (by omega)]; exact h5 j hj
theorem zwho_seat {n r s : Nat} {lo c : Nat → Nat} : zwho n lo (zup c (4 + r) s) r s 0 = zwho n lo c r s 0 := by
  have e : ∀ k, k ≠ 4 + r → zup c (4 + r) s k = c k := fun k hk => by unfold zup; rw [if_neg hk]
  unfold zwho
  refine zfo_congr (fun q _ => by rw [e 1 (by omega)]) (fun q f _ _ hq hf => ?_)
  simp only [Bool.and_eq_true, decide_eq_true_eq] at hq hf
  simp only [if_true]
  rw [e _ (by omega), e _ (by omega)]
def sp_X6_chair : zSp := fun b cy as N E P => ∃ x y : Int32, zPM (op_chair x y) [.int x, .int y] b cy as N E P
abbrev rm_X6_chair : Room := { frames := 4, cells := 0, slots := 0, locals := 112 }
def B_X6_chair_29 (b n0 : Nat) (cy : zY) (P : zPo) (A : Nat → zC) : zC :=
  z_iload 3 (z_const (9) (z_icmp (fun x y => y < x) (z_const (-9) (z_iret 0 0 P)) (z_aload 0 (z_get b n0 6 16 (z_const (4) (z_iload 1 (z_bin (fun x y => x + y) (z_iload 3 (z_ast b n0 (cy 1) (fun x => x) (z_aload 0 (z_aload 0 (z_get b n0 6 16 (z_iload 1 (z_const (0) (z_callV b n0 0 0 cy 6 3 0 0 sp_X6_whom (z_iload 2 (z_icmp (fun x y => x = y) (z_iload 3 (z_iret 0 0 P)) (z_iinc 3 (1) (z_cut [0, 1, 2, 3] (A 29))))))))))))))))))))
def B_X6_chair_21 (b n0 : Nat) (cy : zY) (P : zPo) (A : Nat → zC) : zC :=
  z_const (-1) (z_iret 0 0 P)
def B_X6_chair_0 (b n0 : Nat) (cy : zY) (P : zPo) (A : Nat → zC) : zC :=
  z_aload 0 (z_iload 1 (z_callV b n0 0 0 cy 6 1 0 0 sp_X6_isHere (z_if (fun x => x = 0) (B_X6_chair_21 b n0 cy P A) (z_aload 0 (z_iload 2 (z_callV b n0 0 0 cy 6 1 0 0 sp_X6_isHere (z_if (fun x => x = 0) (B_X6_chair_21 b n0 cy P A) (z_iload 1 (z_iload 2 (z_icmp (fun x y => x = y) (B_X6_chair_21 b n0 cy P A) (z_aload 0 (z_callV b n0 0 0 cy 6 0 0 0 sp_X6_take (z_const (0) (z_istore 3 (z_cut [0, 1, 2, 3] (A 29))))))))))))))))
def zVC_X6_chair (sp : zSp) : Prop := ∀ (b : Nat) (cy : zY) (n : Nat) (as : List Value) (E : zE) (P : zPo) (A : Nat → zC), (∀ l st k u E, B_X6_chair_29 b n cy P A l st k u E → A 29 l st k u E) → sp b cy as n E P → zgood as 4 ∧ B_X6_chair_0 b n cy P A (lv_args 0 as) [] 0 0 E

set_option maxRecDepth 100000 in
set_option maxHeartbeats 4000000 in
theorem vc_X6_chair : zVC_X6_chair sp_X6_chair := by
  intro b cy N as E P A hA hsp
  obtain ⟨x, y, K, ⟨T, D, C, I, S, tr⟩, rfl, hmd, hok, hK, hN, hP⟩ := hsp
  refine ⟨⟨Nat.le_of_ble_eq_true rfl, zg1 rfl (zg1 rfl (zg1 rfl (zg0)))⟩, ?_⟩
  have N0 : 159 < N := by omega
  have N6 : 166 < N := by omega
  obtain ⟨lt, q, st, so, va, fa, e0⟩ := hmd.o
  replace e0 : E 159 = zM0 b tr (nI T.1) lt q st so va fa (nI S.1) := e0
  have hR := hmd.mr hok hN
  obtain ⟨f, hW, hCa⟩ := hmd.wr
  have hE := hW.2.2.1
  obtain ⟨h8, h9⟩ : (∃ g : Nat → Int32, E 168 = .inl (cy 1, 52, .inl g)) ∧ (∃ g : Nat → Int32, E 169 = .inl (cy 1, 6, .inl g)) := by obtain ⟨_, _, _, _, _, _, _, _, _, a, c, _⟩ := hmd; exact ⟨a, c⟩
  obtain ⟨hn, hlo, _, _, _, ⟨hmk, hs99, hth, hm10, _⟩, _⟩ := id hok
  replace hn : D.1 ≤ 6 := hn
  obtain ⟨v0, v4, v10, v16⟩ := zCm0 hW.2.2.2
  have N8 : 168 < N := by omega
  simp only [op_chair, zisA_f] at hP
  simp -implicitDefEqProofs only [B_X6_chair_0, B_X6_chair_21, e_cut, e_iload, e_aload, e_istore, e_astore, e_iinc, e_const, e_lconst, e_bin, e_bin0, e_un, e_ladd, e_dupi, e_dupr, e_dup2, e_pop, e_sw, e_sw0, e_sw1, e_get, e_put, e_ald, e_ast, e_aald, e_aast, e_copy, e_new, e_newa, e_anewa, e_min, e_abs, e_oinit, e_callI, e_callV, e_callS, e_iret, e_zret, e_lret, e_vret, e_tl1, e_tl0, e_tl2, e_tl3, z10, Bool.false_eq_true, e_argi, e_argr, e_argn, zld_c, zst_n, zst_c, zpick_n, zpick_c, List.drop_succ_cons, List.drop_zero, List.take_succ_cons, List.take_zero, List.length_cons, List.length_nil, List.reverse_cons, List.reverse_nil, List.nil_append, List.cons_append, List.append_nil, List.getElem?_cons_zero, List.getElem?_cons_succ, List.set_cons_zero, List.set_cons_succ, Nat.add_sub_cancel_left, Nat.sub_self, Nat.add_zero, Nat.zero_add, Nat.le_add_right, Nat.le_refl, true_and, and_true, va_rf, zok, Nat.add_left_cancel_iff, Nat.add_eq_left, Nat.left_eq_add, eq_self, if_true, if_false, not_false_eq_true, not_true_eq_false, false_implies, true_implies, Nat.reduceEqDiff, Nat.reduceAdd, Nat.reduceLT, Nat.reduceLeDiff, reduceIte, zM0, e0, N0]
  refine ⟨_, _, _, C.1, x, rfl, hR, hW.ar, hmk.l64, ?_⟩
  by_cases q1 : zisB D.1 x = true ∧ (C.1 1).testBit (zcl x) = true
  · rw [if_pos q1]
    simp -implicitDefEqProofs only [e_cut, e_iload, e_aload, e_istore, e_astore, e_iinc, e_const, e_lconst, e_bin, e_bin0, e_un, e_ladd, e_dupi, e_dupr, e_dup2, e_pop, e_sw, e_sw0, e_sw1, e_get, e_put, e_ald, e_ast, e_aald, e_aast, e_copy, e_new, e_newa, e_anewa, e_min, e_abs, e_oinit, e_callI, e_callV, e_callS, e_iret, e_zret, e_lret, e_vret, e_tl1, e_tl0, e_tl2, e_tl3, z10, Bool.false_eq_true, e_argi, e_argr, e_argn, zld_c, zst_n, zst_c, zpick_n, zpick_c, List.drop_succ_cons, List.drop_zero, List.take_succ_cons, List.take_zero, List.length_cons, List.length_nil, List.reverse_cons, List.reverse_nil, List.nil_append, List.cons_append, List.append_nil, List.getElem?_cons_zero, List.getElem?_cons_succ, List.set_cons_zero, List.set_cons_succ, Nat.add_sub_cancel_left, Nat.sub_self, Nat.add_zero, Nat.zero_add, Nat.le_add_right, Nat.le_refl, true_and, and_true, va_rf, zok, Nat.add_left_cancel_iff, Nat.add_eq_left, Nat.left_eq_add, eq_self, if_true, if_false, not_false_eq_true, not_true_eq_false, false_implies, true_implies, Nat.reduceEqDiff, Nat.reduceAdd, Nat.reduceLT, Nat.reduceLeDiff, reduceIte, e_iff (c1 := fun x => x = 0) (x := 1) (by decide), zM0, e0, N0]
    refine ⟨_, _, _, C.1, y, rfl, hR, hW.ar, hmk.l64, ?_⟩
    by_cases q2 : zisB D.1 y = true ∧ (C.1 1).testBit (zcl y) = true
    · rw [if_pos q2]
      simp -implicitDefEqProofs only [e_cut, e_iload, e_aload, e_istore, e_astore, e_iinc, e_const, e_lconst, e_bin, e_bin0, e_un, e_ladd, e_dupi, e_dupr, e_dup2, e_pop, e_sw, e_sw0, e_sw1, e_get, e_put, e_ald, e_ast, e_aald, e_aast, e_copy, e_new, e_newa, e_anewa, e_min, e_abs, e_oinit, e_callI, e_callV, e_callS, e_iret, e_zret, e_lret, e_vret, e_tl1, e_tl0, e_tl2, e_tl3, z10, Bool.false_eq_true, e_argi, e_argr, e_argn, zld_c, zst_n, zst_c, zpick_n, zpick_c, List.drop_succ_cons, List.drop_zero, List.take_succ_cons, List.take_zero, List.length_cons, List.length_nil, List.reverse_cons, List.reverse_nil, List.nil_append, List.cons_append, List.append_nil, List.getElem?_cons_zero, List.getElem?_cons_succ, List.set_cons_zero, List.set_cons_succ, Nat.add_sub_cancel_left, Nat.sub_self, Nat.add_zero, Nat.zero_add, Nat.le_add_right, Nat.le_refl, true_and, and_true, va_rf, zok, Nat.add_left_cancel_iff, Nat.add_eq_left, Nat.left_eq_add, eq_self, if_true, if_false, not_false_eq_true, not_true_eq_false, false_implies, true_implies, Nat.reduceEqDiff, Nat.reduceAdd, Nat.reduceLT, Nat.reduceLeDiff, reduceIte, e_icmp, e_iff (c1 := fun x => x = 0) (x := 1) (by decide), zM0, e0, N0]
      refine ⟨fun c1 => ?_, fun c1 => ?_⟩
      · rw [if_neg (fun h => h.2.2 c1)] at hP; exact hP E hmd (fun _ _ => rfl)
      · rw [if_pos ⟨q1, q2, c1⟩] at hP
        obtain ⟨r, hr, rfl⟩ := zisB_t q1.1 hn
        obtain ⟨s, hs, rfl⟩ := zisB_t q2.1 hn
        rw [zcl_i (show r < 2 ^ 31 by omega), zcl_i (show s < 2 ^ 31 by omega)] at hP
        have hr6 : r < 6 := by omega
        obtain ⟨h, hh⟩ := h8
        refine ⟨D.1, 1719, D.2.1, D.2.2.1, C.1, f, h, rfl, hR, hW, hh, fun E1 f1 hw1 hk1 => ?_⟩
        simp -implicitDefEqProofs only [e_cut, e_iload, e_aload, e_istore, e_astore, e_iinc, e_const, e_lconst, e_bin, e_bin0, e_un, e_ladd, e_dupi, e_dupr, e_dup2, e_pop, e_sw, e_sw0, e_sw1, e_get, e_put, e_ald, e_ast, e_aald, e_aast, e_copy, e_new, e_newa, e_anewa, e_min, e_abs, e_oinit, e_callI, e_callV, e_callS, e_iret, e_zret, e_lret, e_vret, e_tl1, e_tl0, e_tl2, e_tl3, z10, Bool.false_eq_true, e_argi, e_argr, e_argn, zld_c, zst_n, zst_c, zpick_n, zpick_c, List.drop_succ_cons, List.drop_zero, List.take_succ_cons, List.take_zero, List.length_cons, List.length_nil, List.reverse_cons, List.reverse_nil, List.nil_append, List.cons_append, List.append_nil, List.getElem?_cons_zero, List.getElem?_cons_succ, List.set_cons_zero, List.set_cons_succ, Nat.add_sub_cancel_left, Nat.sub_self, Nat.add_zero, Nat.zero_add, Nat.le_add_right, Nat.le_refl, true_and, and_true, va_rf, zok, Nat.add_left_cancel_iff, Nat.add_eq_left, Nat.left_eq_add, eq_self, if_true, if_false, not_false_eq_true, not_true_eq_false, false_implies, true_implies, Nat.reduceEqDiff, Nat.reduceAdd, Nat.reduceLT, Nat.reduceLeDiff, reduceIte]
        generalize hR0 : zfind (fun t => decide (zwho D.1 D.2.1 C.1 r t 0 = some s)) 0 10 = R at hP
        have k4 : (4 : Int32) + nI r = nI (4 + r) := nI_add 4 r
        have i4 : vp_in (nI (4 + r)) 52 := vp_in_nI (by omega) (by omega)
        have j4 : (nI (4 + r)).toNatClampNeg = 4 + r := nI_clamp (by omega)
        have fin : ∀ E' : zE, (∃ g : Nat → Int32, E' 168 = .inl (cy 1, 52, .inl g)) → (∀ j, j ≠ 168 → E' j = E j) → P (some (.int (zrv R))) E' := fun E' hg hk => hP E' (hmd.cur hE hn ((hk 166 (by omega)).trans hE) hCa (fun _ _ => rfl) (fun j a c d => hk j c) hg (by rw [hk 169 (by omega)]; exact h9)) (fun j hj => hk j (by omega))
        have loop : ∀ (d k v : Nat) (g : Nat → Int32) (E2 : zE), d + k = 10 → zfind (fun t => decide (zwho D.1 D.2.1 C.1 r t 0 = some s)) k d = R → zWr cy E2 168 52 D.1 g (zup C.1 (4 + r) v) → (∀ j, j ≠ 168 → E2 j = E j) → A 29 [(0, .ref (b + 159)), (1, .int (nI r)), (2, .int (nI s)), (3, .int (nI k))] [] 0 0 E2 := by
          intro d
          induction d with
          | zero =>
            intro k v g E2 hd hz hw hk
            obtain rfl : k = 10 := by omega
            apply hA
            have cle : (9 : Int32) < nI 10 := by decide
            simp -implicitDefEqProofs only [B_X6_chair_29, e_cut, e_iload, e_aload, e_istore, e_astore, e_iinc, e_const, e_lconst, e_bin, e_bin0, e_un, e_ladd, e_dupi, e_dupr, e_dup2, e_pop, e_sw, e_sw0, e_sw1, e_get, e_put, e_ald, e_ast, e_aald, e_aast, e_copy, e_new, e_newa, e_anewa, e_min, e_abs, e_oinit, e_callI, e_callV, e_callS, e_iret, e_zret, e_lret, e_vret, e_tl1, e_tl0, e_tl2, e_tl3, z10, Bool.false_eq_true, e_argi, e_argr, e_argn, zld_c, zst_n, zst_c, zpick_n, zpick_c, List.drop_succ_cons, List.drop_zero, List.take_succ_cons, List.take_zero, List.length_cons, List.length_nil, List.reverse_cons, List.reverse_nil, List.nil_append, List.cons_append, List.append_nil, List.getElem?_cons_zero, List.getElem?_cons_succ, List.set_cons_zero, List.set_cons_succ, Nat.add_sub_cancel_left, Nat.sub_self, Nat.add_zero, Nat.zero_add, Nat.le_add_right, Nat.le_refl, true_and, and_true, va_rf, zok, Nat.add_left_cancel_iff, Nat.add_eq_left, Nat.left_eq_add, eq_self, if_true, if_false, not_false_eq_true, not_true_eq_false, false_implies, true_implies, Nat.reduceEqDiff, Nat.reduceAdd, Nat.reduceLT, Nat.reduceLeDiff, reduceIte, e_icmpt (c2 := fun x y => y < x) cle]
            rw [zfind] at hz
            have := fin E2 ⟨g, hw.2.2.1⟩ hk
            rw [← hz] at this; exact this
          | succ d ih =>
            intro k v g E2 hd hz hw hk
            apply hA
            have cle : ¬ (9 : Int32) < nI k := fun h => by have := (nI_ltI (a := 9) (b := k) (by omega) (by omega)).mp h; omega
            have f0 := (hk 159 (by omega)).trans e0
            have g2 := hw.2.2.1
            simp -implicitDefEqProofs only [B_X6_chair_29, e_cut, e_iload, e_aload, e_istore, e_astore, e_iinc, e_const, e_lconst, e_bin, e_bin0, e_un, e_ladd, e_dupi, e_dupr, e_dup2, e_pop, e_sw, e_sw0, e_sw1, e_get, e_put, e_ald, e_ast, e_aald, e_aast, e_copy, e_new, e_newa, e_anewa, e_min, e_abs, e_oinit, e_callI, e_callV, e_callS, e_iret, e_zret, e_lret, e_vret, e_tl1, e_tl0, e_tl2, e_tl3, z10, Bool.false_eq_true, e_argi, e_argr, e_argn, zld_c, zst_n, zst_c, zpick_n, zpick_c, List.drop_succ_cons, List.drop_zero, List.take_succ_cons, List.take_zero, List.length_cons, List.length_nil, List.reverse_cons, List.reverse_nil, List.nil_append, List.cons_append, List.append_nil, List.getElem?_cons_zero, List.getElem?_cons_succ, List.set_cons_zero, List.set_cons_succ, Nat.add_sub_cancel_left, Nat.sub_self, Nat.add_zero, Nat.zero_add, Nat.le_add_right, Nat.le_refl, true_and, and_true, va_rf, zok, Nat.add_left_cancel_iff, Nat.add_eq_left, Nat.left_eq_add, eq_self, if_true, if_false, not_false_eq_true, not_true_eq_false, false_implies, true_implies, Nat.reduceEqDiff, Nat.reduceAdd, Nat.reduceLT, Nat.reduceLeDiff, reduceIte, e_icmpf (c2 := fun x y => y < x) cle, zM0, f0, N0, N8, k4, g2, i4, j4, e_up]
            have hw2 : zWr cy (va_up E2 168 (.inl (cy 1, 52, .inl (upd g (4 + r) (nI k))))) 168 52 D.1 (upd g (4 + r) (nI k)) (zup C.1 (4 + r) k) := by
              refine ⟨by omega, by omega, u_eq, ?_⟩
              have := hw.2.2.2.upv (k := 4 + r) (v := k) hn (by omega)
              rwa [zup_up] at this
            have hk2 : ∀ j, j ≠ 168 → va_up E2 168 (.inl (cy 1, 52, .inl (upd g (4 + r) (nI k)))) j = E j := fun j hj => (u_ne hj).trans (hk j hj)
            refine ⟨D.1, D.2.1, D.2.2.1, zup C.1 (4 + r) k, 168, r, 0, rfl, hR.congr (hk2 _ (by omega)) (hk2 _ (by omega)) (hk2 _ (by omega)) (hk2 _ (by omega)), hw2.ar, hmk.seat hr6 (by omega), N8, hr, by omega, ?_⟩
            rw [show zup C.1 (4 + r) k (4 + r) = k by unfold zup; rw [if_pos rfl], zwho_seat]
            have kw : (zrv (zwho D.1 D.2.1 C.1 r k 0) = nI s) = (zwho D.1 D.2.1 C.1 r k 0 = some s) := zrv_eq2 (fun q h => by have := (zfo_lt h).1; omega) (by omega)
            rw [zfind] at hz
            simp -implicitDefEqProofs only [e_cut, e_iload, e_aload, e_istore, e_astore, e_iinc, e_const, e_lconst, e_bin, e_bin0, e_un, e_ladd, e_dupi, e_dupr, e_dup2, e_pop, e_sw, e_sw0, e_sw1, e_get, e_put, e_ald, e_ast, e_aald, e_aast, e_copy, e_new, e_newa, e_anewa, e_min, e_abs, e_oinit, e_callI, e_callV, e_callS, e_iret, e_zret, e_lret, e_vret, e_tl1, e_tl0, e_tl2, e_tl3, z10, Bool.false_eq_true, e_argi, e_argr, e_argn, zld_c, zst_n, zst_c, zpick_n, zpick_c, List.drop_succ_cons, List.drop_zero, List.take_succ_cons, List.take_zero, List.length_cons, List.length_nil, List.reverse_cons, List.reverse_nil, List.nil_append, List.cons_append, List.append_nil, List.getElem?_cons_zero, List.getElem?_cons_succ, List.set_cons_zero, List.set_cons_succ, Nat.add_sub_cancel_left, Nat.sub_self, Nat.add_zero, Nat.zero_add, Nat.le_add_right, Nat.le_refl, true_and, and_true, va_rf, zok, Nat.add_left_cancel_iff, Nat.add_eq_left, Nat.left_eq_add, eq_self, if_true, if_false, not_false_eq_true, not_true_eq_false, false_implies, true_implies, Nat.reduceEqDiff, Nat.reduceAdd, Nat.reduceLT, Nat.reduceLeDiff, reduceIte, e_icmp, kw, nI_1]
            refine ⟨fun c2 => ?_, fun c2 => ?_⟩
            · rw [if_pos (decide_eq_true c2)] at hz
              have := fin _ ⟨_, hw2.2.2.1⟩ hk2
              rw [← hz] at this; exact this
            · rw [if_neg (by simp [c2])] at hz
              exact ih (k + 1) k _ _ (by omega) hz hw2 hk2
        exact loop 10 0 (C.1 (4 + r)) f1 E1 rfl hR0 (by rw [zup_self]; exact hw1) hk1
    · rw [if_neg q2]
      simp -implicitDefEqProofs only [e_cut, e_iload, e_aload, e_istore, e_astore, e_iinc, e_const, e_lconst, e_bin, e_bin0, e_un, e_ladd, e_dupi, e_dupr, e_dup2, e_pop, e_sw, e_sw0, e_sw1, e_get, e_put, e_ald, e_ast, e_aald, e_aast, e_copy, e_new, e_newa, e_anewa, e_min, e_abs, e_oinit, e_callI, e_callV, e_callS, e_iret, e_zret, e_lret, e_vret, e_tl1, e_tl0, e_tl2, e_tl3, z10, Bool.false_eq_true, e_argi, e_argr, e_argn, zld_c, zst_n, zst_c, zpick_n, zpick_c, List.drop_succ_cons, List.drop_zero, List.take_succ_cons, List.take_zero, List.length_cons, List.length_nil, List.reverse_cons, List.reverse_nil, List.nil_append, List.cons_append, List.append_nil, List.getElem?_cons_zero, List.getElem?_cons_succ, List.set_cons_zero, List.set_cons_succ, Nat.add_sub_cancel_left, Nat.sub_self, Nat.add_zero, Nat.zero_add, Nat.le_add_right, Nat.le_refl, true_and, and_true, va_rf, zok, Nat.add_left_cancel_iff, Nat.add_eq_left, Nat.left_eq_add, eq_self, if_true, if_false, not_false_eq_true, not_true_eq_false, false_implies, true_implies, Nat.reduceEqDiff, Nat.reduceAdd, Nat.reduceLT, Nat.reduceLeDiff, reduceIte, e_ift (c1 := fun x => x = 0) (x := 0) rfl]
      rw [if_neg (fun h => q2 h.2.1)] at hP; exact hP E hmd (fun _ _ => rfl)
  · rw [if_neg q1]
    simp -implicitDefEqProofs only [e_cut, e_iload, e_aload, e_istore, e_astore, e_iinc, e_const, e_lconst, e_bin, e_bin0, e_un, e_ladd, e_dupi, e_dupr, e_dup2, e_pop, e_sw, e_sw0, e_sw1, e_get, e_put, e_ald, e_ast, e_aald, e_aast, e_copy, e_new, e_newa, e_anewa, e_min, e_abs, e_oinit, e_callI, e_callV, e_callS, e_iret, e_zret, e_lret, e_vret, e_tl1, e_tl0, e_tl2, e_tl3, z10, Bool.false_eq_true, e_argi, e_argr, e_argn, zld_c, zst_n, zst_c, zpick_n, zpick_c, List.drop_succ_cons, List.drop_zero, List.take_succ_cons, List.take_zero, List.length_cons, List.length_nil, List.reverse_cons, List.reverse_nil, List.nil_append, List.cons_append, List.append_nil, List.getElem?_cons_zero, List.getElem?_cons_succ, List.set_cons_zero, List.set_cons_succ, Nat.add_sub_cancel_left, Nat.sub_self, Nat.add_zero, Nat.zero_add, Nat.le_add_right, Nat.le_refl, true_and, and_true, va_rf, zok, Nat.add_left_cancel_iff, Nat.add_eq_left, Nat.left_eq_add, eq_self, if_true, if_false, not_false_eq_true, not_true_eq_false, false_implies, true_implies, Nat.reduceEqDiff, Nat.reduceAdd, Nat.reduceLT, Nat.reduceLeDiff, reduceIte, e_ift (c1 := fun x => x = 0) (x := 0) rfl]
    rw [if_neg (fun h => q1 h.1)] at hP; exact hP E hmd (fun _ _ => rfl)
set_option maxRecDepth 20000 in
theorem f_X6_chair_36 : Cond.fieldLink RX6 36 (TX6 16).1 (TX6 16).2.1 (TX6 16).2.2.1 ∈ wsX6_chair := by decide +kernel
set_option maxRecDepth 20000 in
theorem k_X6_chair_6 : ∀ w ∈ u_ws RX6 TX6 21, w ∈ wsX6_chair := fun _ h => List.mem_cons_of_mem _ (List.mem_append_right _ h)
set_option maxRecDepth 100000 in
set_option maxHeartbeats 4000000 in
theorem S_X6_chair_29 {p : Program} {e : Env} {s : State} {m : MethodId} {args : Array Value} {below : List Frame} {meth : Method} {c : Code} {D : va_G} {cy : zY} {b n0 : Nat} {P : zPo} (la : Launch) (X : zX p la e (rm_X6_chair) s m args below meth c 4 D cy b n0 cX6_chair wsX6_chair RX6) (hr : meth.sig.returnType = (some .int)) (h_X6_isHere : zMet la yX6_isHere wsX6_isHere rm_X6_isHere 0 0 sp_X6_isHere) (h_X6_take : zMet la yX6_take wsX6_take rm_X6_take 0 0 sp_X6_take) (h_X6_whom : zMet la yX6_whom wsX6_whom rm_X6_whom 0 0 sp_X6_whom) : zS p la e (rm_X6_chair) s m args below meth c (MQ below (zQ D b (n0 + 0) P) args s 0 0 (fun q => b ≤ q)) 4 D b n0 29 (B_X6_chair_29 b n0 cy P (zAt p la e (rm_X6_chair) s m args below meth c (MQ below (zQ D b (n0 + 0) P) args s 0 0 (fun q => b ≤ q)) 4 D b n0)) := by
  unfold B_X6_chair_29
  exact (s_iload_n X dX6_chair_29 rfl (s_bipush X dX6_chair_30 (by decide) (s_icmp_gt X dX6_chair_32 (by decide) (s_bipush X dX6_chair_66 (by decide) (s_iret X dX6_chair_68 hr)) (s_aload_n X dX6_chair_35 rfl (s_get X dX6_chair_36 rfl k_X6_chair_6 (by decide) f_X6_chair_36 (s_iconst X dX6_chair_39 (by decide) (s_iload_n X dX6_chair_40 rfl (s_iadd X dX6_chair_41 (s_iload_n X dX6_chair_42 rfl (s_iast X dX6_chair_43 (s_aload_n X dX6_chair_44 rfl (s_aload_n X dX6_chair_45 rfl (s_get X dX6_chair_46 rfl k_X6_chair_6 (by decide) f_X6_chair_36 (s_iload_n X dX6_chair_49 rfl (s_iconst X dX6_chair_50 (by decide) (s_callV X h_X6_whom dX6_chair_51 rfl gX6_chair_X6_whom rfl rfl rfl (by decide +kernel) ⟨by decide, by decide⟩ (s_iload_n X dX6_chair_54 rfl (s_icmp_ne X dX6_chair_55 (by decide) (s_iinc X dX6_chair_60 (by decide) (by decide) (s_goto X dX6_chair_63 (by decide) (s_cut (by decide) zS_at))) (s_iload_n X dX6_chair_58 rfl (s_iret X dX6_chair_59 hr))))))))))))))))))))
set_option maxRecDepth 100000 in
set_option maxHeartbeats 4000000 in
theorem S_X6_chair_21 {p : Program} {e : Env} {s : State} {m : MethodId} {args : Array Value} {below : List Frame} {meth : Method} {c : Code} {D : va_G} {cy : zY} {b n0 : Nat} {P : zPo} (la : Launch) (X : zX p la e (rm_X6_chair) s m args below meth c 4 D cy b n0 cX6_chair wsX6_chair RX6) (hr : meth.sig.returnType = (some .int)) (h_X6_isHere : zMet la yX6_isHere wsX6_isHere rm_X6_isHere 0 0 sp_X6_isHere) (h_X6_take : zMet la yX6_take wsX6_take rm_X6_take 0 0 sp_X6_take) (h_X6_whom : zMet la yX6_whom wsX6_whom rm_X6_whom 0 0 sp_X6_whom) : zS p la e (rm_X6_chair) s m args below meth c (MQ below (zQ D b (n0 + 0) P) args s 0 0 (fun q => b ≤ q)) 4 D b n0 21 (B_X6_chair_21 b n0 cy P (zAt p la e (rm_X6_chair) s m args below meth c (MQ below (zQ D b (n0 + 0) P) args s 0 0 (fun q => b ≤ q)) 4 D b n0)) := by
  unfold B_X6_chair_21
  exact (s_iconst X dX6_chair_21 (by decide) (s_iret X dX6_chair_22 hr))
set_option maxRecDepth 100000 in
set_option maxHeartbeats 4000000 in
theorem S_X6_chair_0 {p : Program} {e : Env} {s : State} {m : MethodId} {args : Array Value} {below : List Frame} {meth : Method} {c : Code} {D : va_G} {cy : zY} {b n0 : Nat} {P : zPo} (la : Launch) (X : zX p la e (rm_X6_chair) s m args below meth c 4 D cy b n0 cX6_chair wsX6_chair RX6) (hr : meth.sig.returnType = (some .int)) (h_X6_isHere : zMet la yX6_isHere wsX6_isHere rm_X6_isHere 0 0 sp_X6_isHere) (h_X6_take : zMet la yX6_take wsX6_take rm_X6_take 0 0 sp_X6_take) (h_X6_whom : zMet la yX6_whom wsX6_whom rm_X6_whom 0 0 sp_X6_whom) : zS p la e (rm_X6_chair) s m args below meth c (MQ below (zQ D b (n0 + 0) P) args s 0 0 (fun q => b ≤ q)) 4 D b n0 0 (B_X6_chair_0 b n0 cy P (zAt p la e (rm_X6_chair) s m args below meth c (MQ below (zQ D b (n0 + 0) P) args s 0 0 (fun q => b ≤ q)) 4 D b n0)) := by
  unfold B_X6_chair_0
  exact (s_aload_n X dX6_chair_0 rfl (s_iload_n X dX6_chair_1 rfl (s_callV X h_X6_isHere dX6_chair_2 rfl gX6_chair_X6_isHere rfl rfl rfl (by decide +kernel) ⟨by decide, by decide⟩ (s_if_eq X dX6_chair_5 (by decide) (S_X6_chair_21 la X hr h_X6_isHere h_X6_take h_X6_whom) (s_aload_n X dX6_chair_8 rfl (s_iload_n X dX6_chair_9 rfl (s_callV X h_X6_isHere dX6_chair_10 rfl gX6_chair_X6_isHere rfl rfl rfl (by decide +kernel) ⟨by decide, by decide⟩ (s_if_eq X dX6_chair_13 (by decide) (S_X6_chair_21 la X hr h_X6_isHere h_X6_take h_X6_whom) (s_iload_n X dX6_chair_16 rfl (s_iload_n X dX6_chair_17 rfl (s_icmp_ne X dX6_chair_18 (by decide) (s_aload_n X dX6_chair_23 rfl (s_callV X h_X6_take dX6_chair_24 rfl gX6_chair_X6_take rfl rfl rfl (by decide +kernel) ⟨by decide, by decide⟩ (s_iconst X dX6_chair_27 (by decide) (s_istore_n X dX6_chair_28 rfl (by decide) (s_cut (by decide) zS_at))))) (S_X6_chair_21 la X hr h_X6_isHere h_X6_take h_X6_whom))))))))))))
theorem w_X6_chair (la : Launch) (h_X6_isHere : zMet la yX6_isHere wsX6_isHere rm_X6_isHere 0 0 sp_X6_isHere) (h_X6_take : zMet la yX6_take wsX6_take rm_X6_take 0 0 sp_X6_take) (h_X6_whom : zMet la yX6_whom wsX6_whom rm_X6_whom 0 0 sp_X6_whom) (sp : zSp) (vc : zVC_X6_chair sp) : zMet la yX6_chair wsX6_chair (rm_X6_chair) 0 0 sp :=
  z_of (cc := cX6_chair) (maxL := 4) (ret := (some .int)) (by decide +kernel) rfl (fun p e s m args below meth c D cy b n as E P hsp X hr hin => by
    obtain ⟨h1, h2⟩ := vc b cy n as E P (zAt p la e (rm_X6_chair) s m args below meth c (MQ below (zQ D b (n + 0) P) args s 0 0 (fun q => b ≤ q)) 4 D b n) (fun _ _ _ _ _ q => S_X6_chair_29 la X hr h_X6_isHere h_X6_take h_X6_whom _ _ _ _ _ q) hsp
    exact ⟨h1, S_X6_chair_0 la X hr h_X6_isHere h_X6_take h_X6_whom _ _ _ _ _ h2⟩)

theorem m_X6_chair (la : Launch) : zMet la yX6_chair wsX6_chair rm_X6_chair 0 0 sp_X6_chair := w_X6_chair la (m_X6_isHere la) (m_X6_take la) (m_X6_whom la) _ vc_X6_chair
theorem zsub1 (x : Int32) (a : Nat) : x - nI a - 1 = x - nI (a + 1) := by
  rw [← nI_1]; grind
def sp_X6_mark : zSp := fun b cy as N E P => ∃ w x : Int32, zPM (op_mark w x) [.int w, .int x] b cy as N E P
abbrev rm_X6_mark : Room := { frames := 3, cells := 0, slots := 0, locals := 83 }
def B_X6_mark_77 (b n0 : Nat) (cy : zY) (P : zPo) (A : Nat → zC) : zC :=
  z_bin (fun x y => x - y) (z_istore 4 (z_iinc 5 (1) (z_cut [0, 1, 2, 3, 4, 5] (A 35))))
def B_X6_mark_76 (b n0 : Nat) (cy : zY) (P : zPo) (A : Nat → zC) : zC :=
  z_const (0) (B_X6_mark_77 b n0 cy P A)
def B_X6_mark_35 (b n0 : Nat) (cy : zY) (P : zPo) (A : Nat → zC) : zC :=
  z_iload 5 (z_aload 0 (z_get b n0 6 3 (z_const (0) (z_ald b n0 (cy 1) (z_icmp (fun x y => y ≤ x) (z_iload 1 (z_switch [(0, (z_aload 0 (z_dup (z_get b n0 6 0 (z_lconst (1) (z_ladd (z_put b n0 6 0 2 (z_iload 3 (z_iret 0 0 P))))))))), (1, (z_aload 0 (z_dup (z_get b n0 6 0 (z_lconst (11) (z_ladd (z_put b n0 6 0 2 (z_iload 3 (z_aload 0 (z_get b n0 6 5 (z_iload 2 (z_ald b n0 (cy 1) (z_bin (fun x y => x + y) (z_iret 0 0 P)))))))))))))), (2, (z_aload 0 (z_dup (z_get b n0 6 0 (z_lconst (101) (z_ladd (z_put b n0 6 0 2 (z_iload 4 (z_iret 0 0 P))))))))), (3, (z_aload 0 (z_dup (z_get b n0 6 0 (z_lconst (1011) (z_ladd (z_put b n0 6 0 2 (z_const (2) (z_iload 3 (z_aload 0 (z_get b n0 6 5 (z_iload 2 (z_ald b n0 (cy 1) (z_bin (fun x y => x + y) (z_bin (fun x y => x * y) (z_iret 0 0 P)))))))))))))))), (4, (z_aload 0 (z_dup (z_get b n0 6 0 (z_lconst (10101) (z_ladd (z_put b n0 6 0 2 (z_iload 4 (z_iload 2 (z_bin (fun x y => x + y) (z_iret 0 0 P)))))))))))] (z_aload 0 (z_dup (z_get b n0 6 0 (z_lconst (100001) (z_ladd (z_put b n0 6 0 2 (z_iload 3 (z_aload 0 (z_get b n0 6 14 (z_const (0) (z_ald b n0 (cy 1) (z_bin (fun x y => x + y) (z_iret 0 0 P))))))))))))))) (z_iload 4 (z_iload 5 (z_iload 2 (z_icmp (fun x y => x = y) (B_X6_mark_76 b n0 cy P A) (z_aload 0 (z_get b n0 6 14 (z_const (16) (z_const (6) (z_iload 5 (z_bin (fun x y => x * y) (z_bin (fun x y => x + y) (z_iload 2 (z_bin (fun x y => x + y) (z_ald b n0 (cy 1) (z_if (fun x => x ≤ 0) (B_X6_mark_76 b n0 cy P A) (z_const (1) (B_X6_mark_77 b n0 cy P A))))))))))))))))))))))
def B_X6_mark_17 (b n0 : Nat) (cy : zY) (P : zPo) (A : Nat → zC) : zC :=
  z_const (-1000000) (z_iret 0 0 P)
def B_X6_mark_0 (b n0 : Nat) (cy : zY) (P : zPo) (A : Nat → zC) : zC :=
  z_iload 1 (z_const (0) (z_const (5) (z_callS b n0 0 0 cy 3 0 0 sp_X6_in (z_if (fun x => x = 0) (B_X6_mark_17 b n0 cy P A) (z_aload 0 (z_iload 2 (z_callV b n0 0 0 cy 6 1 0 0 sp_X6_isRider (z_if (fun x => x = 0) (B_X6_mark_17 b n0 cy P A) (z_aload 0 (z_get b n0 6 14 (z_const (4) (z_iload 2 (z_bin (fun x y => x + y) (z_ald b n0 (cy 1) (z_istore 3 (z_iload 3 (z_istore 4 (z_const (0) (z_istore 5 (z_cut [0, 1, 2, 3, 4, 5] (A 35)))))))))))))))))))))
def zVC_X6_mark (sp : zSp) : Prop := ∀ (b : Nat) (cy : zY) (n : Nat) (as : List Value) (E : zE) (P : zPo) (A : Nat → zC), (∀ l st k u E, B_X6_mark_35 b n cy P A l st k u E → A 35 l st k u E) → sp b cy as n E P → zgood as 6 ∧ B_X6_mark_0 b n cy P A (lv_args 0 as) [] 0 0 E

set_option maxRecDepth 100000 in
set_option maxHeartbeats 4000000 in
theorem vc_X6_mark : zVC_X6_mark sp_X6_mark := by
  intro b cy N as E P A hA hsp
  obtain ⟨w, x, K, ⟨T, D, C, I, S, tr⟩, rfl, hmd, hok, hK, hN, hP⟩ := hsp
  refine ⟨⟨Nat.le_of_ble_eq_true rfl, zg1 rfl (zg1 rfl (zg1 rfl (zg0)))⟩, ?_⟩
  have N0 : 159 < N := by omega
  have N6 : 166 < N := by omega
  obtain ⟨lt, q, st, so, va, fa, e0⟩ := hmd.o
  replace e0 : E 159 = zM0 b tr (nI T.1) lt q st so va fa (nI S.1) := e0
  have hR := hmd.mr hok hN
  obtain ⟨f, hW, hCa⟩ := hmd.wr
  have hE := hW.2.2.1
  obtain ⟨h8, h9⟩ : (∃ g : Nat → Int32, E 168 = .inl (cy 1, 52, .inl g)) ∧ (∃ g : Nat → Int32, E 169 = .inl (cy 1, 6, .inl g)) := by obtain ⟨_, _, _, _, _, _, _, _, _, a, c, _⟩ := hmd; exact ⟨a, c⟩
  obtain ⟨hn, hlo, _, _, _, ⟨hmk, hs99, hth, hm10, _⟩, _⟩ := id hok
  replace hn : D.1 ≤ 6 := hn
  obtain ⟨v0, v4, v10, v16⟩ := zCm0 hW.2.2.2
  have N1 : 161 < N := by omega
  have N3 : 163 < N := by omega
  obtain ⟨_, _, ⟨rf, r1, r2⟩, _, ⟨lf, l1, l2⟩, _⟩ := id hmd
  replace r1 : E 161 = .inl (cy 1, 2, .inl rf) := r1
  replace r2 : rf 0 = nI D.1 := r2
  replace l1 : E 163 = .inl (cy 1, 12, .inl lf) := l1
  have hin : vp_in 0 2 := (vp_in_nI (show 0 < 2 by omega) (by omega) : vp_in (nI 0) 2)
  have in0 : vp_in 0 1719 := (vp_in_nI (show 0 < 1719 by omega) (by omega) : vp_in (nI 0) 1719)
  have hcl : (0 : Int32).toNatClampNeg = 0 := by decide
  have z5 : ∀ y : Int32, (if ¬ y < 0 ∧ ¬ (5 : Int32) < y then (1 : Int32) else 0) = if zisB 6 y = true then 1 else 0 := fun y => zin_iff (k := 5) (by omega) y
  simp only [op_mark] at hP
  simp -implicitDefEqProofs only [B_X6_mark_0, B_X6_mark_17, e_cut, e_iload, e_aload, e_istore, e_astore, e_iinc, e_const, e_lconst, e_bin, e_bin0, e_un, e_ladd, e_dupi, e_dupr, e_dup2, e_pop, e_sw, e_sw0, e_sw1, e_get, e_put, e_ald, e_ast, e_aald, e_aast, e_copy, e_new, e_newa, e_anewa, e_min, e_abs, e_oinit, e_callI, e_callV, e_callS, e_iret, e_zret, e_lret, e_vret, e_tl1, e_tl0, e_tl2, e_tl3, z10, Bool.false_eq_true, e_argi, e_argr, e_argn, zld_c, zst_n, zst_c, zpick_n, zpick_c, List.drop_succ_cons, List.drop_zero, List.take_succ_cons, List.take_zero, List.length_cons, List.length_nil, List.reverse_cons, List.reverse_nil, List.nil_append, List.cons_append, List.append_nil, List.getElem?_cons_zero, List.getElem?_cons_succ, List.set_cons_zero, List.set_cons_succ, Nat.add_sub_cancel_left, Nat.sub_self, Nat.add_zero, Nat.zero_add, Nat.le_add_right, Nat.le_refl, true_and, and_true, va_rf, zok, Nat.add_left_cancel_iff, Nat.add_eq_left, Nat.left_eq_add, eq_self, if_true, if_false, not_false_eq_true, not_true_eq_false, false_implies, true_implies, Nat.reduceEqDiff, Nat.reduceAdd, Nat.reduceLT, Nat.reduceLeDiff, reduceIte]
  refine ⟨w, 0, 5, rfl, ?_⟩
  rw [z5]
  by_cases q0 : zisB 6 w = true
  · rw [if_pos q0]
    obtain ⟨wj, hwj, hwe⟩ := zisB_u q0 (by omega)
    simp -implicitDefEqProofs only [e_cut, e_iload, e_aload, e_istore, e_astore, e_iinc, e_const, e_lconst, e_bin, e_bin0, e_un, e_ladd, e_dupi, e_dupr, e_dup2, e_pop, e_sw, e_sw0, e_sw1, e_get, e_put, e_ald, e_ast, e_aald, e_aast, e_copy, e_new, e_newa, e_anewa, e_min, e_abs, e_oinit, e_callI, e_callV, e_callS, e_iret, e_zret, e_lret, e_vret, e_tl1, e_tl0, e_tl2, e_tl3, z10, Bool.false_eq_true, e_argi, e_argr, e_argn, zld_c, zst_n, zst_c, zpick_n, zpick_c, List.drop_succ_cons, List.drop_zero, List.take_succ_cons, List.take_zero, List.length_cons, List.length_nil, List.reverse_cons, List.reverse_nil, List.nil_append, List.cons_append, List.append_nil, List.getElem?_cons_zero, List.getElem?_cons_succ, List.set_cons_zero, List.set_cons_succ, Nat.add_sub_cancel_left, Nat.sub_self, Nat.add_zero, Nat.zero_add, Nat.le_add_right, Nat.le_refl, true_and, and_true, va_rf, zok, Nat.add_left_cancel_iff, Nat.add_eq_left, Nat.left_eq_add, eq_self, if_true, if_false, not_false_eq_true, not_true_eq_false, false_implies, true_implies, Nat.reduceEqDiff, Nat.reduceAdd, Nat.reduceLT, Nat.reduceLeDiff, reduceIte, e_iff (c1 := fun x => x = 0) (x := 1) (by decide), zM0, e0, N0]
    refine ⟨_, _, _, x, rfl, hR, ?_⟩
    by_cases q1 : zisB D.1 x = true
    · obtain ⟨r, hr, rfl⟩ := zisB_t q1 hn
      have hr6 : r < 6 := by omega
      rw [if_pos q1] at hP
      simp only [zcl_i (show r < 2 ^ 31 by omega)] at hP
      have k4 : (4 : Int32) + nI r = nI (4 + r) := nI_add 4 r
      have i4 : vp_in (nI (4 + r)) 1719 := vp_in_nI (by omega) (by omega)
      have j4 : (nI (4 + r)).toNatClampNeg = 4 + r := nI_clamp (by omega)
      have ir : vp_in (nI r) 12 := vp_in_nI (by omega) (by omega)
      have jr : (nI r).toNatClampNeg = r := nI_clamp (by omega)
      have k16 : (16 : Int32) = nI 16 := rfl
      have k6 : (6 : Int32) = nI 6 := rfl
      have l36 := hmk.2.2.2.2.2.1
      have l2b := hmk.2.2.2.1
      have l7 := hmk.2.2.2.2.2.2
      have hth : zthk D.1 C.1 r = zsum (fun q => if 0 < C.1 (16 + 6 * q + r) then 1 else 0) D.1 := rfl
      rw [hth] at hP
      generalize hg : (fun q => if 0 < C.1 (16 + 6 * q + r) then 1 else 0) = g at hP
      have loop : ∀ (d k : Nat) (hd : d + k = D.1), A 35 [(0, .ref (b + 159)), (1, .int w), (2, .int (nI r)), (3, .int (nI (C.1 (4 + r)))), (4, .int (nI (C.1 (4 + r)) - nI (zsum g k))), (5, .int (nI k))] [] 0 0 E := by
        intro d
        induction d with
        | zero =>
          intro k hd
          obtain rfl : k = D.1 := by omega
          apply hA
          have cle : nI D.1 ≤ nI D.1 := nI_le (Nat.le_refl _) (by omega)
          have t1 : tr + 10 + 1 = tr + 11 := by rw [Int64.add_assoc]; rfl
          have t2 : tr + 100 + 1 = tr + 101 := by rw [Int64.add_assoc]; rfl
          have t3 : tr + 1000 + 10 + 1 = tr + 1011 := by rw [Int64.add_assoc, Int64.add_assoc]; rfl
          have t4 : tr + 10000 + 100 + 1 = tr + 10101 := by rw [Int64.add_assoc, Int64.add_assoc]; rfl
          have t5 : tr + 100000 + 1 = tr + 100001 := by rw [Int64.add_assoc]; rfl
          rw [t1, t2, t3, t4, t5] at hP
          have fin : ∀ (v : Int32) (tr' : Int64), (∀ E', zMD b cy E' (T, D, C, I, S, tr') → (∀ j, j < 159 → E' j = E j) → P (some (.int v)) E') → P (some (.int v)) (va_up E 159 (zM0 b tr' (nI T.1) lt q st so va fa (nI S.1))) := fun v tr' h => h _ (hmd.fld (Nat.le_refl _) (Nat.le_refl _) ⟨_, _, _, _, _, _, u_eq⟩ (fun j hj => u_ne hj)) (fun j hj => u_ne (by omega))
          simp -implicitDefEqProofs only [B_X6_mark_35, e_cut, e_iload, e_aload, e_istore, e_astore, e_iinc, e_const, e_lconst, e_bin, e_bin0, e_un, e_ladd, e_dupi, e_dupr, e_dup2, e_pop, e_sw, e_sw0, e_sw1, e_get, e_put, e_ald, e_ast, e_aald, e_aast, e_copy, e_new, e_newa, e_anewa, e_min, e_abs, e_oinit, e_callI, e_callV, e_callS, e_iret, e_zret, e_lret, e_vret, e_tl1, e_tl0, e_tl2, e_tl3, z10, Bool.false_eq_true, e_argi, e_argr, e_argn, zld_c, zst_n, zst_c, zpick_n, zpick_c, List.drop_succ_cons, List.drop_zero, List.take_succ_cons, List.take_zero, List.length_cons, List.length_nil, List.reverse_cons, List.reverse_nil, List.nil_append, List.cons_append, List.append_nil, List.getElem?_cons_zero, List.getElem?_cons_succ, List.set_cons_zero, List.set_cons_succ, Nat.add_sub_cancel_left, Nat.sub_self, Nat.add_zero, Nat.zero_add, Nat.le_add_right, Nat.le_refl, true_and, and_true, va_rf, zok, Nat.add_left_cancel_iff, Nat.add_eq_left, Nat.left_eq_add, eq_self, if_true, if_false, not_false_eq_true, not_true_eq_false, false_implies, true_implies, Nat.reduceEqDiff, Nat.reduceAdd, Nat.reduceLT, Nat.reduceLeDiff, reduceIte, e_icmpt (c2 := fun x y => y ≤ x) cle, zM0, e0, N0, N1, N3, N6, r1, r2, l1, hE, hin, hcl, ir, jr, in0, v0 0 (by omega), l2 r hr, e_up]
          refine ⟨fun c0 => ?_, fun c0 => ⟨fun c1 => ?_, fun c1 => ⟨fun c2 => ?_, fun c2 => ⟨fun c3 => ?_, fun c3 => ⟨fun c4 => ?_, fun c4 => ?_⟩⟩⟩⟩⟩
          · rw [if_pos c0] at hP; exact fin _ _ hP
          · rw [if_neg c0, if_pos c1] at hP; exact fin _ _ hP
          · rw [if_neg c0, if_neg c1, if_pos c2] at hP; exact fin _ _ hP
          · rw [if_neg c0, if_neg c1, if_neg c2, if_pos c3] at hP
            rw [Int32.mul_comm]; exact fin _ _ hP
          · rw [if_neg c0, if_neg c1, if_neg c2, if_neg c3, if_pos c4] at hP; exact fin _ _ hP
          · have c5 : w = 5 := by
              rw [hwe] at c0 c1 c2 c3 c4 ⊢
              rcases (show wj = 0 ∨ wj = 1 ∨ wj = 2 ∨ wj = 3 ∨ wj = 4 ∨ wj = 5 by omega) with rfl | rfl | rfl | rfl | rfl | rfl
              · exact absurd rfl c0
              · exact absurd rfl c1
              · exact absurd rfl c2
              · exact absurd rfl c3
              · exact absurd rfl c4
              · rfl
            rw [if_neg c0, if_neg c1, if_neg c2, if_neg c3, if_neg c4, if_pos c5] at hP; exact fin _ _ hP
        | succ d ih =>
          intro k hd
          have hk : k < D.1 := by omega
          have hk6 : k < 6 := by omega
          apply hA
          have cle : ¬ nI D.1 ≤ nI k := nI_ge hk (by omega)
          have h9 := ih (k + 1) (by omega)
          rw [zsum] at h9
          have jb : C.1 (16 + 6 * k + r) < 2 ^ 31 := by have := l36 (6 * k + r) (by omega); rw [← Nat.add_assoc] at this; omega
          have jin : vp_in (nI (16 + 6 * k + r)) 1719 := vp_in_nI (by omega) (by omega)
          have jcl : (nI (16 + 6 * k + r)).toNatClampNeg = 16 + 6 * k + r := nI_clamp (by omega)
          have jv : f (16 + 6 * k + r) = nI (C.1 (16 + 6 * k + r)) := by have := v16 (6 * k + r) (by omega); rwa [← Nat.add_assoc] at this
          have kv0 : (nI (C.1 (16 + 6 * k + r)) ≤ 0) = (C.1 (16 + 6 * k + r) ≤ 0) := propext (nI_leI (b := 0) jb (by omega))
          have kr : (nI k = nI r) = (k = r) := propext (nI_eq (by omega) (by omega))
          have s0 : ∀ x : Int32, x - 0 = x := fun x => by simp
          simp -implicitDefEqProofs only [B_X6_mark_35, B_X6_mark_76, B_X6_mark_77, e_cut, e_iload, e_aload, e_istore, e_astore, e_iinc, e_const, e_lconst, e_bin, e_bin0, e_un, e_ladd, e_dupi, e_dupr, e_dup2, e_pop, e_sw, e_sw0, e_sw1, e_get, e_put, e_ald, e_ast, e_aald, e_aast, e_copy, e_new, e_newa, e_anewa, e_min, e_abs, e_oinit, e_callI, e_callV, e_callS, e_iret, e_zret, e_lret, e_vret, e_tl1, e_tl0, e_tl2, e_tl3, z10, Bool.false_eq_true, e_argi, e_argr, e_argn, zld_c, zst_n, zst_c, zpick_n, zpick_c, List.drop_succ_cons, List.drop_zero, List.take_succ_cons, List.take_zero, List.length_cons, List.length_nil, List.reverse_cons, List.reverse_nil, List.nil_append, List.cons_append, List.append_nil, List.getElem?_cons_zero, List.getElem?_cons_succ, List.set_cons_zero, List.set_cons_succ, Nat.add_sub_cancel_left, Nat.sub_self, Nat.add_zero, Nat.zero_add, Nat.le_add_right, Nat.le_refl, true_and, and_true, va_rf, zok, Nat.add_left_cancel_iff, Nat.add_eq_left, Nat.left_eq_add, eq_self, if_true, if_false, not_false_eq_true, not_true_eq_false, false_implies, true_implies, Nat.reduceEqDiff, Nat.reduceAdd, Nat.reduceLT, Nat.reduceLeDiff, reduceIte, cle, e_icmp, e_if, zM0, e0, N0, N1, N6, r1, r2, hE, hin, hcl, kr, k16, k6, zix6, jin, jcl, jv, kv0, zsub1, s0, nI_1]
          refine ⟨fun c1 => ?_, fun c1 => ⟨fun c2 => ?_, fun c2 => ?_⟩⟩
          · have z7 := l7 r hr6
            rw [show g k = 0 by rw [← hg, c1]; simp only; rw [if_neg (by rw [show 16 + 6 * r + r = 16 + 7 * r by omega]; omega)], Nat.add_zero] at h9
            exact h9
          · rw [show g k = 0 by rw [← hg]; simp only; rw [if_neg (by omega)], Nat.add_zero] at h9
            exact h9
          · rw [show g k = 1 by rw [← hg]; simp only; rw [if_pos (by omega)]] at h9
            exact h9
      have s00 : nI (C.1 (4 + r)) - nI (zsum g 0) = nI (C.1 (4 + r)) := by show nI (C.1 (4 + r)) - 0 = _; simp
      have h10 := loop D.1 0 rfl
      rw [s00] at h10
      simp -implicitDefEqProofs only [e_cut, e_iload, e_aload, e_istore, e_astore, e_iinc, e_const, e_lconst, e_bin, e_bin0, e_un, e_ladd, e_dupi, e_dupr, e_dup2, e_pop, e_sw, e_sw0, e_sw1, e_get, e_put, e_ald, e_ast, e_aald, e_aast, e_copy, e_new, e_newa, e_anewa, e_min, e_abs, e_oinit, e_callI, e_callV, e_callS, e_iret, e_zret, e_lret, e_vret, e_tl1, e_tl0, e_tl2, e_tl3, z10, Bool.false_eq_true, e_argi, e_argr, e_argn, zld_c, zst_n, zst_c, zpick_n, zpick_c, List.drop_succ_cons, List.drop_zero, List.take_succ_cons, List.take_zero, List.length_cons, List.length_nil, List.reverse_cons, List.reverse_nil, List.nil_append, List.cons_append, List.append_nil, List.getElem?_cons_zero, List.getElem?_cons_succ, List.set_cons_zero, List.set_cons_succ, Nat.add_sub_cancel_left, Nat.sub_self, Nat.add_zero, Nat.zero_add, Nat.le_add_right, Nat.le_refl, true_and, and_true, va_rf, zok, Nat.add_left_cancel_iff, Nat.add_eq_left, Nat.left_eq_add, eq_self, if_true, if_false, not_false_eq_true, not_true_eq_false, false_implies, true_implies, Nat.reduceEqDiff, Nat.reduceAdd, Nat.reduceLT, Nat.reduceLeDiff, reduceIte, e_iff (c1 := fun x => x = 0) (x := 1) (by decide), q1, zM0, e0, N0, N6, hE, k4, i4, j4, v4 r hr]
      exact h10
    · rw [if_neg q1] at hP
      simp -implicitDefEqProofs only [e_cut, e_iload, e_aload, e_istore, e_astore, e_iinc, e_const, e_lconst, e_bin, e_bin0, e_un, e_ladd, e_dupi, e_dupr, e_dup2, e_pop, e_sw, e_sw0, e_sw1, e_get, e_put, e_ald, e_ast, e_aald, e_aast, e_copy, e_new, e_newa, e_anewa, e_min, e_abs, e_oinit, e_callI, e_callV, e_callS, e_iret, e_zret, e_lret, e_vret, e_tl1, e_tl0, e_tl2, e_tl3, z10, Bool.false_eq_true, e_argi, e_argr, e_argn, zld_c, zst_n, zst_c, zpick_n, zpick_c, List.drop_succ_cons, List.drop_zero, List.take_succ_cons, List.take_zero, List.length_cons, List.length_nil, List.reverse_cons, List.reverse_nil, List.nil_append, List.cons_append, List.append_nil, List.getElem?_cons_zero, List.getElem?_cons_succ, List.set_cons_zero, List.set_cons_succ, Nat.add_sub_cancel_left, Nat.sub_self, Nat.add_zero, Nat.zero_add, Nat.le_add_right, Nat.le_refl, true_and, and_true, va_rf, zok, Nat.add_left_cancel_iff, Nat.add_eq_left, Nat.left_eq_add, eq_self, if_true, if_false, not_false_eq_true, not_true_eq_false, false_implies, true_implies, Nat.reduceEqDiff, Nat.reduceAdd, Nat.reduceLT, Nat.reduceLeDiff, reduceIte, e_ift (c1 := fun x => x = 0) (x := 0) rfl, q1]
      exact hP E hmd (fun _ _ => rfl)
  · rw [if_neg q0]
    simp -implicitDefEqProofs only [e_cut, e_iload, e_aload, e_istore, e_astore, e_iinc, e_const, e_lconst, e_bin, e_bin0, e_un, e_ladd, e_dupi, e_dupr, e_dup2, e_pop, e_sw, e_sw0, e_sw1, e_get, e_put, e_ald, e_ast, e_aald, e_aast, e_copy, e_new, e_newa, e_anewa, e_min, e_abs, e_oinit, e_callI, e_callV, e_callS, e_iret, e_zret, e_lret, e_vret, e_tl1, e_tl0, e_tl2, e_tl3, z10, Bool.false_eq_true, e_argi, e_argr, e_argn, zld_c, zst_n, zst_c, zpick_n, zpick_c, List.drop_succ_cons, List.drop_zero, List.take_succ_cons, List.take_zero, List.length_cons, List.length_nil, List.reverse_cons, List.reverse_nil, List.nil_append, List.cons_append, List.append_nil, List.getElem?_cons_zero, List.getElem?_cons_succ, List.set_cons_zero, List.set_cons_succ, Nat.add_sub_cancel_left, Nat.sub_self, Nat.add_zero, Nat.zero_add, Nat.le_add_right, Nat.le_refl, true_and, and_true, va_rf, zok, Nat.add_left_cancel_iff, Nat.add_eq_left, Nat.left_eq_add, eq_self, if_true, if_false, not_false_eq_true, not_true_eq_false, false_implies, true_implies, Nat.reduceEqDiff, Nat.reduceAdd, Nat.reduceLT, Nat.reduceLeDiff, reduceIte, e_ift (c1 := fun x => x = 0) (x := 0) rfl]
    have n0 : ¬ w = 0 := fun h => q0 (by rw [h]; decide)
    have n1 : ¬ w = 1 := fun h => q0 (by rw [h]; decide)
    have n2 : ¬ w = 2 := fun h => q0 (by rw [h]; decide)
    have n3 : ¬ w = 3 := fun h => q0 (by rw [h]; decide)
    have n4 : ¬ w = 4 := fun h => q0 (by rw [h]; decide)
    have n5 : ¬ w = 5 := fun h => q0 (by rw [h]; decide)
    rw [if_neg n0, if_neg n1, if_neg n2, if_neg n3, if_neg n4, if_neg n5] at hP
    by_cases q1 : zisB D.1 x = true
    · rw [if_pos q1] at hP; exact hP E hmd (fun _ _ => rfl)
    · rw [if_neg q1] at hP; exact hP E hmd (fun _ _ => rfl)
set_option maxRecDepth 20000 in
theorem f_X6_mark_13 : Cond.fieldLink RX6 13 (TX6 3).1 (TX6 3).2.1 (TX6 3).2.2.1 ∈ wsX6_mark := by decide +kernel
set_option maxRecDepth 20000 in
theorem k_X6_mark_6 : ∀ w ∈ u_ws RX6 TX6 21, w ∈ wsX6_mark := fun _ h => List.mem_cons_of_mem _ (List.mem_append_right _ h)
set_option maxRecDepth 20000 in
theorem f_X6_mark_170 : Cond.fieldLink RX6 170 (TX6 0).1 (TX6 0).2.1 (TX6 0).2.2.1 ∈ wsX6_mark := by decide +kernel
set_option maxRecDepth 20000 in
theorem f_X6_mark_c180 : Cond.constantLong RX6 180 (10101) ∈ wsX6_mark := by decide +kernel
set_option maxRecDepth 20000 in
theorem f_X6_mark_c178 : Cond.constantLong RX6 178 (1011) ∈ wsX6_mark := by decide +kernel
set_option maxRecDepth 20000 in
theorem f_X6_mark_20 : Cond.fieldLink RX6 20 (TX6 5).1 (TX6 5).2.1 (TX6 5).2.2.1 ∈ wsX6_mark := by decide +kernel
set_option maxRecDepth 20000 in
theorem f_X6_mark_c176 : Cond.constantLong RX6 176 (101) ∈ wsX6_mark := by decide +kernel
set_option maxRecDepth 20000 in
theorem f_X6_mark_c174 : Cond.constantLong RX6 174 (11) ∈ wsX6_mark := by decide +kernel
set_option maxRecDepth 20000 in
theorem f_X6_mark_c182 : Cond.constantLong RX6 182 (100001) ∈ wsX6_mark := by decide +kernel
set_option maxRecDepth 20000 in
theorem f_X6_mark_29 : Cond.fieldLink RX6 29 (TX6 14).1 (TX6 14).2.1 (TX6 14).2.2.1 ∈ wsX6_mark := by decide +kernel
set_option maxRecDepth 20000 in
theorem f_X6_mark_c169 : Cond.constant RX6 169 (-1000000) ∈ wsX6_mark := by decide +kernel
set_option maxRecDepth 100000 in
set_option maxHeartbeats 4000000 in
theorem S_X6_mark_77 {p : Program} {e : Env} {s : State} {m : MethodId} {args : Array Value} {below : List Frame} {meth : Method} {c : Code} {D : va_G} {cy : zY} {b n0 : Nat} {P : zPo} (la : Launch) (X : zX p la e (rm_X6_mark) s m args below meth c 6 D cy b n0 cX6_mark wsX6_mark RX6) (hr : meth.sig.returnType = (some .int)) (h_X6_in : zMet la yX6_in wsX6_in rm_X6_in 0 0 sp_X6_in) (h_X6_isRider : zMet la yX6_isRider wsX6_isRider rm_X6_isRider 0 0 sp_X6_isRider) : zS p la e (rm_X6_mark) s m args below meth c (MQ below (zQ D b (n0 + 0) P) args s 0 0 (fun q => b ≤ q)) 6 D b n0 77 (B_X6_mark_77 b n0 cy P (zAt p la e (rm_X6_mark) s m args below meth c (MQ below (zQ D b (n0 + 0) P) args s 0 0 (fun q => b ≤ q)) 6 D b n0)) := by
  unfold B_X6_mark_77
  exact (s_isub X dX6_mark_77 (s_istore X dX6_mark_78 (by decide) (s_iinc X dX6_mark_80 (by decide) (by decide) (s_goto X dX6_mark_83 (by decide) (s_cut (by decide) zS_at)))))
set_option maxRecDepth 100000 in
set_option maxHeartbeats 4000000 in
theorem S_X6_mark_76 {p : Program} {e : Env} {s : State} {m : MethodId} {args : Array Value} {below : List Frame} {meth : Method} {c : Code} {D : va_G} {cy : zY} {b n0 : Nat} {P : zPo} (la : Launch) (X : zX p la e (rm_X6_mark) s m args below meth c 6 D cy b n0 cX6_mark wsX6_mark RX6) (hr : meth.sig.returnType = (some .int)) (h_X6_in : zMet la yX6_in wsX6_in rm_X6_in 0 0 sp_X6_in) (h_X6_isRider : zMet la yX6_isRider wsX6_isRider rm_X6_isRider 0 0 sp_X6_isRider) : zS p la e (rm_X6_mark) s m args below meth c (MQ below (zQ D b (n0 + 0) P) args s 0 0 (fun q => b ≤ q)) 6 D b n0 76 (B_X6_mark_76 b n0 cy P (zAt p la e (rm_X6_mark) s m args below meth c (MQ below (zQ D b (n0 + 0) P) args s 0 0 (fun q => b ≤ q)) 6 D b n0)) := by
  unfold B_X6_mark_76
  exact (s_iconst X dX6_mark_76 (by decide) (S_X6_mark_77 la X hr h_X6_in h_X6_isRider))
set_option maxRecDepth 100000 in
set_option maxHeartbeats 4000000 in
theorem S_X6_mark_35 {p : Program} {e : Env} {s : State} {m : MethodId} {args : Array Value} {below : List Frame} {meth : Method} {c : Code} {D : va_G} {cy : zY} {b n0 : Nat} {P : zPo} (la : Launch) (X : zX p la e (rm_X6_mark) s m args below meth c 6 D cy b n0 cX6_mark wsX6_mark RX6) (hr : meth.sig.returnType = (some .int)) (h_X6_in : zMet la yX6_in wsX6_in rm_X6_in 0 0 sp_X6_in) (h_X6_isRider : zMet la yX6_isRider wsX6_isRider rm_X6_isRider 0 0 sp_X6_isRider) : zS p la e (rm_X6_mark) s m args below meth c (MQ below (zQ D b (n0 + 0) P) args s 0 0 (fun q => b ≤ q)) 6 D b n0 35 (B_X6_mark_35 b n0 cy P (zAt p la e (rm_X6_mark) s m args below meth c (MQ below (zQ D b (n0 + 0) P) args s 0 0 (fun q => b ≤ q)) 6 D b n0)) := by
  unfold B_X6_mark_35
  exact (s_iload X dX6_mark_35 (s_aload_n X dX6_mark_37 rfl (s_get X dX6_mark_38 rfl k_X6_mark_6 (by decide) f_X6_mark_13 (s_iconst X dX6_mark_41 (by decide) (s_iald X dX6_mark_42 (s_icmp_ge X dX6_mark_43 (by decide) (s_iload_n X dX6_mark_86 rfl (s_table X dX6_mark_87 (fun x hx => by have q0 := lv_neT (hx (0, _) (List.mem_of_getElem? (i := 0) rfl)) (a := 0) rfl; have q1 := lv_neT (hx (1, _) (List.mem_of_getElem? (i := 1) rfl)) (a := 1) rfl; have q2 := lv_neT (hx (2, _) (List.mem_of_getElem? (i := 2) rfl)) (a := 2) rfl; have q3 := lv_neT (hx (3, _) (List.mem_of_getElem? (i := 3) rfl)) (a := 3) rfl; have q4 := lv_neT (hx (4, _) (List.mem_of_getElem? (i := 4) rfl)) (a := 4) rfl; omega) (by decide) (s_aload_n X dX6_mark_208 rfl (s_dup X dX6_mark_209 (s_get X dX6_mark_210 rfl k_X6_mark_6 (by decide) f_X6_mark_170 (s_ldc2 X dX6_mark_213 f_X6_mark_c182 (s_ladd X dX6_mark_216 (s_put X dX6_mark_217 rfl k_X6_mark_6 tyX6_ok nmX6 (by decide) f_X6_mark_170 rfl (tyX6_ok 0 (by decide)) zok_long (s_iload_n X dX6_mark_220 rfl (s_aload_n X dX6_mark_221 rfl (s_get X dX6_mark_222 rfl k_X6_mark_6 (by decide) f_X6_mark_29 (s_iconst X dX6_mark_225 (by decide) (s_iald X dX6_mark_226 (s_iadd X dX6_mark_227 (s_iret X dX6_mark_228 hr))))))))))))) (List.forall_mem_cons.mpr ⟨⟨33, 120, (show ¬ (0 : Int32).toInt < 0 from by decide), (show ¬ 4 < (0 : Int32).toInt from by decide), rfl, by decide, (s_aload_n X dX6_mark_120 rfl (s_dup X dX6_mark_121 (s_get X dX6_mark_122 rfl k_X6_mark_6 (by decide) f_X6_mark_170 (s_lconst X dX6_mark_125 (by decide) (s_ladd X dX6_mark_126 (s_put X dX6_mark_127 rfl k_X6_mark_6 tyX6_ok nmX6 (by decide) f_X6_mark_170 rfl (tyX6_ok 0 (by decide)) zok_long (s_iload_n X dX6_mark_130 rfl (s_iret X dX6_mark_131 hr))))))))⟩, List.forall_mem_cons.mpr ⟨⟨45, 132, (show ¬ (1 : Int32).toInt < 0 from by decide), (show ¬ 4 < (1 : Int32).toInt from by decide), rfl, by decide, (s_aload_n X dX6_mark_132 rfl (s_dup X dX6_mark_133 (s_get X dX6_mark_134 rfl k_X6_mark_6 (by decide) f_X6_mark_170 (s_ldc2 X dX6_mark_137 f_X6_mark_c174 (s_ladd X dX6_mark_140 (s_put X dX6_mark_141 rfl k_X6_mark_6 tyX6_ok nmX6 (by decide) f_X6_mark_170 rfl (tyX6_ok 0 (by decide)) zok_long (s_iload_n X dX6_mark_144 rfl (s_aload_n X dX6_mark_145 rfl (s_get X dX6_mark_146 rfl k_X6_mark_6 (by decide) f_X6_mark_20 (s_iload_n X dX6_mark_149 rfl (s_iald X dX6_mark_150 (s_iadd X dX6_mark_151 (s_iret X dX6_mark_152 hr)))))))))))))⟩, List.forall_mem_cons.mpr ⟨⟨66, 153, (show ¬ (2 : Int32).toInt < 0 from by decide), (show ¬ 4 < (2 : Int32).toInt from by decide), rfl, by decide, (s_aload_n X dX6_mark_153 rfl (s_dup X dX6_mark_154 (s_get X dX6_mark_155 rfl k_X6_mark_6 (by decide) f_X6_mark_170 (s_ldc2 X dX6_mark_158 f_X6_mark_c176 (s_ladd X dX6_mark_161 (s_put X dX6_mark_162 rfl k_X6_mark_6 tyX6_ok nmX6 (by decide) f_X6_mark_170 rfl (tyX6_ok 0 (by decide)) zok_long (s_iload X dX6_mark_165 (s_iret X dX6_mark_167 hr))))))))⟩, List.forall_mem_cons.mpr ⟨⟨81, 168, (show ¬ (3 : Int32).toInt < 0 from by decide), (show ¬ 4 < (3 : Int32).toInt from by decide), rfl, by decide, (s_aload_n X dX6_mark_168 rfl (s_dup X dX6_mark_169 (s_get X dX6_mark_170 rfl k_X6_mark_6 (by decide) f_X6_mark_170 (s_ldc2 X dX6_mark_173 f_X6_mark_c178 (s_ladd X dX6_mark_176 (s_put X dX6_mark_177 rfl k_X6_mark_6 tyX6_ok nmX6 (by decide) f_X6_mark_170 rfl (tyX6_ok 0 (by decide)) zok_long (s_iconst X dX6_mark_180 (by decide) (s_iload_n X dX6_mark_181 rfl (s_aload_n X dX6_mark_182 rfl (s_get X dX6_mark_183 rfl k_X6_mark_6 (by decide) f_X6_mark_20 (s_iload_n X dX6_mark_186 rfl (s_iald X dX6_mark_187 (s_iadd X dX6_mark_188 (s_imul X dX6_mark_189 (s_iret X dX6_mark_190 hr)))))))))))))))⟩, List.forall_mem_cons.mpr ⟨⟨104, 191, (show ¬ (4 : Int32).toInt < 0 from by decide), (show ¬ 4 < (4 : Int32).toInt from by decide), rfl, by decide, (s_aload_n X dX6_mark_191 rfl (s_dup X dX6_mark_192 (s_get X dX6_mark_193 rfl k_X6_mark_6 (by decide) f_X6_mark_170 (s_ldc2 X dX6_mark_196 f_X6_mark_c180 (s_ladd X dX6_mark_199 (s_put X dX6_mark_200 rfl k_X6_mark_6 tyX6_ok nmX6 (by decide) f_X6_mark_170 rfl (tyX6_ok 0 (by decide)) zok_long (s_iload X dX6_mark_203 (s_iload_n X dX6_mark_205 rfl (s_iadd X dX6_mark_206 (s_iret X dX6_mark_207 hr))))))))))⟩, fun _ h => absurd h List.not_mem_nil⟩⟩⟩⟩⟩))) (s_iload X dX6_mark_46 (s_iload X dX6_mark_48 (s_iload_n X dX6_mark_50 rfl (s_icmp_eq X dX6_mark_51 (by decide) (S_X6_mark_76 la X hr h_X6_in h_X6_isRider) (s_aload_n X dX6_mark_54 rfl (s_get X dX6_mark_55 rfl k_X6_mark_6 (by decide) f_X6_mark_29 (s_bipush X dX6_mark_58 (by decide) (s_bipush X dX6_mark_60 (by decide) (s_iload X dX6_mark_62 (s_imul X dX6_mark_64 (s_iadd X dX6_mark_65 (s_iload_n X dX6_mark_66 rfl (s_iadd X dX6_mark_67 (s_iald X dX6_mark_68 (s_if_le X dX6_mark_69 (by decide) (S_X6_mark_76 la X hr h_X6_in h_X6_isRider) (s_iconst X dX6_mark_72 (by decide) (s_goto X dX6_mark_73 (by decide) (S_X6_mark_77 la X hr h_X6_in h_X6_isRider))))))))))))))))))))))))
set_option maxRecDepth 100000 in
set_option maxHeartbeats 4000000 in
theorem S_X6_mark_17 {p : Program} {e : Env} {s : State} {m : MethodId} {args : Array Value} {below : List Frame} {meth : Method} {c : Code} {D : va_G} {cy : zY} {b n0 : Nat} {P : zPo} (la : Launch) (X : zX p la e (rm_X6_mark) s m args below meth c 6 D cy b n0 cX6_mark wsX6_mark RX6) (hr : meth.sig.returnType = (some .int)) (h_X6_in : zMet la yX6_in wsX6_in rm_X6_in 0 0 sp_X6_in) (h_X6_isRider : zMet la yX6_isRider wsX6_isRider rm_X6_isRider 0 0 sp_X6_isRider) : zS p la e (rm_X6_mark) s m args below meth c (MQ below (zQ D b (n0 + 0) P) args s 0 0 (fun q => b ≤ q)) 6 D b n0 17 (B_X6_mark_17 b n0 cy P (zAt p la e (rm_X6_mark) s m args below meth c (MQ below (zQ D b (n0 + 0) P) args s 0 0 (fun q => b ≤ q)) 6 D b n0)) := by
  unfold B_X6_mark_17
  exact (s_ldc X dX6_mark_17 f_X6_mark_c169 (s_iret X dX6_mark_19 hr))
set_option maxRecDepth 100000 in
set_option maxHeartbeats 4000000 in
theorem S_X6_mark_0 {p : Program} {e : Env} {s : State} {m : MethodId} {args : Array Value} {below : List Frame} {meth : Method} {c : Code} {D : va_G} {cy : zY} {b n0 : Nat} {P : zPo} (la : Launch) (X : zX p la e (rm_X6_mark) s m args below meth c 6 D cy b n0 cX6_mark wsX6_mark RX6) (hr : meth.sig.returnType = (some .int)) (h_X6_in : zMet la yX6_in wsX6_in rm_X6_in 0 0 sp_X6_in) (h_X6_isRider : zMet la yX6_isRider wsX6_isRider rm_X6_isRider 0 0 sp_X6_isRider) : zS p la e (rm_X6_mark) s m args below meth c (MQ below (zQ D b (n0 + 0) P) args s 0 0 (fun q => b ≤ q)) 6 D b n0 0 (B_X6_mark_0 b n0 cy P (zAt p la e (rm_X6_mark) s m args below meth c (MQ below (zQ D b (n0 + 0) P) args s 0 0 (fun q => b ≤ q)) 6 D b n0)) := by
  unfold B_X6_mark_0
  exact (s_iload_n X dX6_mark_0 rfl (s_iconst X dX6_mark_1 (by decide) (s_iconst X dX6_mark_2 (by decide) (s_callS X h_X6_in dX6_mark_3 gX6_mark_X6_in rfl rfl rfl (by decide +kernel) ⟨by decide, by decide⟩ (s_if_eq X dX6_mark_6 (by decide) (S_X6_mark_17 la X hr h_X6_in h_X6_isRider) (s_aload_n X dX6_mark_9 rfl (s_iload_n X dX6_mark_10 rfl (s_callV X h_X6_isRider dX6_mark_11 rfl gX6_mark_X6_isRider rfl rfl rfl (by decide +kernel) ⟨by decide, by decide⟩ (s_if_ne X dX6_mark_14 (by decide) (s_aload_n X dX6_mark_20 rfl (s_get X dX6_mark_21 rfl k_X6_mark_6 (by decide) f_X6_mark_29 (s_iconst X dX6_mark_24 (by decide) (s_iload_n X dX6_mark_25 rfl (s_iadd X dX6_mark_26 (s_iald X dX6_mark_27 (s_istore_n X dX6_mark_28 rfl (by decide) (s_iload_n X dX6_mark_29 rfl (s_istore X dX6_mark_30 (by decide) (s_iconst X dX6_mark_32 (by decide) (s_istore X dX6_mark_33 (by decide) (s_cut (by decide) zS_at)))))))))))) (S_X6_mark_17 la X hr h_X6_in h_X6_isRider))))))))))
theorem w_X6_mark (la : Launch) (h_X6_in : zMet la yX6_in wsX6_in rm_X6_in 0 0 sp_X6_in) (h_X6_isRider : zMet la yX6_isRider wsX6_isRider rm_X6_isRider 0 0 sp_X6_isRider) (sp : zSp) (vc : zVC_X6_mark sp) : zMet la yX6_mark wsX6_mark (rm_X6_mark) 0 0 sp :=
  z_of (cc := cX6_mark) (maxL := 6) (ret := (some .int)) (by decide +kernel) rfl (fun p e s m args below meth c D cy b n as E P hsp X hr hin => by
    obtain ⟨h1, h2⟩ := vc b cy n as E P (zAt p la e (rm_X6_mark) s m args below meth c (MQ below (zQ D b (n + 0) P) args s 0 0 (fun q => b ≤ q)) 6 D b n) (fun _ _ _ _ _ q => S_X6_mark_35 la X hr h_X6_in h_X6_isRider _ _ _ _ _ q) hsp
    exact ⟨h1, S_X6_mark_0 la X hr h_X6_in h_X6_isRider _ _ _ _ _ h2⟩)

theorem m_X6_mark (la : Launch) : zMet la yX6_mark wsX6_mark rm_X6_mark 0 0 sp_X6_mark := w_X6_mark la (m_X6_in la) (m_X6_isRider la) _ vc_X6_mark

