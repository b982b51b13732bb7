theorem zfo_none {ok : Nat → Bool} {bt : Nat → Nat → Bool} {k : Nat} (h : ∀ q, q < k → ok q = false) : zfo ok bt k = none := by
  induction k with
  | zero => rfl
  | succ k ih => rw [zfo_no (h k (by omega))]; exact ih (fun q hq => h q (by omega))
theorem zfo_best {ok : Nat → Bool} {bt : Nat → Nat → Bool} {n q0 : Nat} (h0 : q0 < n) (hok : ok q0 = true) (hb : ∀ q, q < n → ok q = true → q ≠ q0 → bt q0 q = true ∧ bt q q0 = false) : zfo ok bt n = some q0 := by
  have key : ∀ k, k ≤ n → (q0 < k → zfo ok bt k = some q0) := by
    intro k
    induction k with
    | zero => intro _ h; omega
    | succ k ih =>
      intro hk hq
      by_cases e : q0 = k
      · subst e
        cases hz : zfo ok bt q0 with
        | none => exact zfo_n hok hz
        | some f =>
          have hf := zfo_lt hz
          exact zfo_y hok hz (hb f (by omega) hf.2 (by omega)).1
      · have hz := ih (by omega) (by omega)
        by_cases ho : ok k = true
        · rw [zfo_w hz (hb k (by omega) ho (by omega)).2]; exact hz
        · rw [zfo_no (by simpa using ho)]; exact hz
  exact key n (Nat.le_refl _) h0
def sp_X5_fairest : zSp := fun b cy as N E P => ∃ (n : Nat) (lo la : Nat → Nat) (i : Nat) (c : Nat → Nat) (r s : Nat), as = [.ref b, .ref (b + i), .int (nI r)] ∧ zP1 b cy N E n lo la i c ∧ r < 6 ∧ P (some (.int (zrv (zwho n lo c r s 1)))) E
abbrev rm_X5_fairest : Room := { frames := 2, cells := 0, slots := 0, locals := 61 }
def B_X5_fairest_68 (b n0 : Nat) (cy : zY) (P : zPo) (A : Nat → zC) : zC :=
  z_iinc 5 (1) (z_cut [0, 1, 2, 3, 4, 5] (A 9))
def B_X5_fairest_61 (b n0 : Nat) (cy : zY) (P : zPo) (A : Nat → zC) : zC :=
  z_iload 5 (z_istore 3 (z_iload 6 (z_istore 4 (B_X5_fairest_68 b n0 cy P A))))
def B_X5_fairest_9 (b n0 : Nat) (cy : zY) (P : zPo) (A : Nat → zC) : zC :=
  z_iload 5 (z_aload 0 (z_get b n0 5 1 (z_get b n0 4 0 (z_icmp (fun x y => y ≤ x) (z_iload 3 (z_iret 0 0 P)) (z_aload 0 (z_get b n0 5 1 (z_get b n0 4 4 (z_iload 5 (z_ald b n0 (cy 1) (z_istore 6 (z_iload 5 (z_iload 2 (z_icmp (fun x y => x = y) (B_X5_fairest_68 b n0 cy P A) (z_aload 1 (z_iload 5 (z_callV b n0 0 0 cy 1 1 0 0 sp_X1_isAboard (z_if (fun x => x = 0) (B_X5_fairest_68 b n0 cy P A) (z_iload 3 (z_const (-9) (z_icmp (fun x y => x = y) (B_X5_fairest_61 b n0 cy P A) (z_iload 6 (z_iload 4 (z_icmp (fun x y => x ≤ y) (B_X5_fairest_68 b n0 cy P A) (B_X5_fairest_61 b n0 cy P A))))))))))))))))))))))))
def B_X5_fairest_0 (b n0 : Nat) (cy : zY) (P : zPo) (A : Nat → zC) : zC :=
  z_const (-9) (z_istore 3 (z_const (0) (z_istore 4 (z_const (0) (z_istore 5 (z_cut [0, 1, 2, 3, 4, 5] (A 9)))))))
def zVC_X5_fairest (sp : zSp) : Prop := ∀ (b : Nat) (cy : zY) (n : Nat) (as : List Value) (E : zE) (P : zPo) (A : Nat → zC), (∀ l st k u E, B_X5_fairest_9 b n cy P A l st k u E → A 9 l st k u E) → sp b cy as n E P → zgood as 7 ∧ B_X5_fairest_0 b n cy P A (lv_args 0 as) [] 0 0 E

set_option maxRecDepth 100000 in
set_option maxHeartbeats 4000000 in
theorem vc_X5_fairest : zVC_X5_fairest sp_X5_fairest := by
  intro b cy N as E P A hA hsp
  obtain ⟨n, lo, la, i, c, r, s, rfl, ⟨⟨⟨kept, cnt, tr, e0⟩, ⟨seat, line, items, ⟨hn, f, g, h, h0, h1, h2, h3, hf, hg, hh⟩⟩, hlo⟩, hmo, hok, hi, hN⟩, hr, hP⟩ := hsp
  refine ⟨⟨Nat.le_of_ble_eq_true rfl, zg1 rfl (zg1 rfl (zg1 rfl (zg0)))⟩, ?_⟩
  replace h2 : E 5 = .inl (cy 1, 6, .inl g) := h2
  have N0 : 0 < N := by omega
  have N3 : 3 < N := by omega
  have N5 : 5 < N := by omega
  obtain ⟨hn', mf, mg, mh, m0, m1, m2, m3, hmf, hmg, hmh⟩ := id hmo
  have hi0 : i < N := by omega
  unfold zwho at hP
  generalize hok1 : (fun q => decide (q ≠ r) && (c 1).testBit q) = ok at hP
  generalize hbt1 : (fun q f => if 1 = 0 then decide (zad (c (4 + q)) s < zad (c (4 + f)) s) else if 1 = 1 then decide (lo f < lo q) else decide ((q + 6 - r) % 6 < (f + 6 - r) % 6)) = bt at hP
  have loop : ∀ (d k : Nat) (w : Int32) (hd : d + k = n), (∀ f, zfo ok bt k = some f → w = nI (lo f)) → A 9 [(0, .ref b), (1, .ref (b + i)), (2, .int (nI r)), (3, .int (zrv (zfo ok bt k))), (4, .int w), (5, .int (nI k))] [] 0 0 E := by
    intro d
    induction d with
    | zero =>
      intro k w hd hw
      obtain rfl : k = n := by omega
      apply hA
      have cle : nI k ≤ nI k := nI_le (Nat.le_refl _) (by omega)
      simp only [B_X5_fairest_0, B_X5_fairest_9, B_X5_fairest_61, B_X5_fairest_68, e_cut, e_iload, e_aload, e_istore, e_astore, e_iinc, e_const, e_lconst, e_bin, e_bin0, e_un, e_ladd, e_dupi, e_dupr, e_dup2, e_pop, e_if, e_icmp, e_sw, e_sw0, e_sw1, e_get, e_put, e_ald, e_ast, e_aald, e_aast, e_copy, e_new, e_newa, e_anewa, e_min, e_abs, e_oinit, e_callI, e_callV, e_callS, e_iret, e_zret, e_lret, e_vret, e_tl1, e_tl0, e_tl2, e_tl3, z10, Bool.false_eq_true, e_argi, e_argr, e_argn, zld_c, zst_n, zst_c, zpick_n, zpick_c, List.drop_succ_cons, List.drop_zero, List.take_succ_cons, List.take_zero, List.length_cons, List.length_nil, List.reverse_cons, List.reverse_nil, List.nil_append, List.cons_append, List.append_nil, List.getElem?_cons_zero, List.getElem?_cons_succ, List.set_cons_zero, List.set_cons_succ, Nat.add_sub_cancel_left, Nat.sub_self, Nat.add_zero, Nat.zero_add, Nat.le_add_right, Nat.le_refl, true_and, and_true, va_rf, zok, Nat.add_left_cancel_iff, Nat.add_eq_left, Nat.left_eq_add, eq_self, if_true, if_false, not_false_eq_true, not_true_eq_false, false_implies, true_implies, Nat.reduceEqDiff, Nat.reduceAdd, Nat.reduceLT, Nat.reduceLeDiff, reduceIte, zB0, e0, N0, N3, h0, cle]
      exact hP
    | succ d ih =>
      intro k w hd hw
      have hk : k < n := by omega
      have hk6 : k < 6 := by omega
      apply hA
      have cle : ¬ nI n ≤ nI k := nI_ge hk (by omega)
      have hin : vp_in (nI k) 6 := vp_in_nI hk6 (by omega)
      have hcl : (nI k).toNatClampNeg = k := nI_clamp (by omega)
      have l9 := (hlo k hk).1
      simp only [B_X5_fairest_0, B_X5_fairest_9, B_X5_fairest_61, B_X5_fairest_68, e_cut, e_iload, e_aload, e_istore, e_astore, e_iinc, e_const, e_lconst, e_bin, e_bin0, e_un, e_ladd, e_dupi, e_dupr, e_dup2, e_pop, e_if, e_icmp, e_sw, e_sw0, e_sw1, e_get, e_put, e_ald, e_ast, e_aald, e_aast, e_copy, e_new, e_newa, e_anewa, e_min, e_abs, e_oinit, e_callI, e_callV, e_callS, e_iret, e_zret, e_lret, e_vret, e_tl1, e_tl0, e_tl2, e_tl3, z10, Bool.false_eq_true, e_argi, e_argr, e_argn, zld_c, zst_n, zst_c, zpick_n, zpick_c, List.drop_succ_cons, List.drop_zero, List.take_succ_cons, List.take_zero, List.length_cons, List.length_nil, List.reverse_cons, List.reverse_nil, List.nil_append, List.cons_append, List.append_nil, List.getElem?_cons_zero, List.getElem?_cons_succ, List.set_cons_zero, List.set_cons_succ, Nat.add_sub_cancel_left, Nat.sub_self, Nat.add_zero, Nat.zero_add, Nat.le_add_right, Nat.le_refl, true_and, and_true, va_rf, zok, Nat.add_left_cancel_iff, Nat.add_eq_left, Nat.left_eq_add, eq_self, if_true, if_false, not_false_eq_true, not_true_eq_false, false_implies, true_implies, Nat.reduceEqDiff, Nat.reduceAdd, Nat.reduceLT, Nat.reduceLeDiff, reduceIte, zB0, e0, N0, N3, N5, h0, h2, cle, hin, hcl, hg k hk, nI_eq (show k < 2 ^ 31 by omega) (show r < 2 ^ 31 by omega), m0, hi0, nI_1]
      refine ⟨fun c1 => ?_, fun c1 => ?_⟩
      · have e : zfo ok bt (k + 1) = zfo ok bt k := zfo_no (by rw [← hok1]; simp [c1])
        have h9 := ih (k + 1) w (by omega) (by rw [e]; exact hw)
        rw [e] at h9; exact h9
      · refine ⟨i, k, n, c, rfl, hmo, hi, hk6, hok.l64, ?_⟩
        by_cases q1 : (c 1).testBit k = true
        · have hokk : ok k = true := by rw [← hok1]; simp [c1, q1]
          cases hz : zfo ok bt k with
          | none =>
            simp only [e_cut, e_iload, e_aload, e_istore, e_astore, e_iinc, e_const, e_lconst, e_bin, e_bin0, e_un, e_ladd, e_dupi, e_dupr, e_dup2, e_pop, e_if, e_icmp, e_sw, e_sw0, e_sw1, e_get, e_put, e_ald, e_ast, e_aald, e_aast, e_copy, e_new, e_newa, e_anewa, e_min, e_abs, e_oinit, e_callI, e_callV, e_callS, e_iret, e_zret, e_lret, e_vret, e_tl1, e_tl0, e_tl2, e_tl3, z10, Bool.false_eq_true, e_argi, e_argr, e_argn, zld_c, zst_n, zst_c, zpick_n, zpick_c, List.drop_succ_cons, List.drop_zero, List.take_succ_cons, List.take_zero, List.length_cons, List.length_nil, List.reverse_cons, List.reverse_nil, List.nil_append, List.cons_append, List.append_nil, List.getElem?_cons_zero, List.getElem?_cons_succ, List.set_cons_zero, List.set_cons_succ, Nat.add_sub_cancel_left, Nat.sub_self, Nat.add_zero, Nat.zero_add, Nat.le_add_right, Nat.le_refl, true_and, and_true, va_rf, zok, Nat.add_left_cancel_iff, Nat.add_eq_left, Nat.left_eq_add, eq_self, if_true, if_false, not_false_eq_true, not_true_eq_false, false_implies, true_implies, Nat.reduceEqDiff, Nat.reduceAdd, Nat.reduceLT, Nat.reduceLeDiff, reduceIte, q1, zrv, nI_1]
            have e : zfo ok bt (k + 1) = some k := zfo_n hokk hz
            have h9 := ih (k + 1) (nI (lo k)) (by omega) (by rw [e]; intro f hf; cases hf; rfl)
            rw [e] at h9; exact h9
          | some f0 =>
            have hf0 := (zfo_lt hz).1
            have w0 := hw f0 hz
            subst w0
            have l8 := (hlo f0 (by omega)).1
            simp only [e_cut, e_iload, e_aload, e_istore, e_astore, e_iinc, e_const, e_lconst, e_bin, e_bin0, e_un, e_ladd, e_dupi, e_dupr, e_dup2, e_pop, e_if, e_icmp, e_sw, e_sw0, e_sw1, e_get, e_put, e_ald, e_ast, e_aald, e_aast, e_copy, e_new, e_newa, e_anewa, e_min, e_abs, e_oinit, e_callI, e_callV, e_callS, e_iret, e_zret, e_lret, e_vret, e_tl1, e_tl0, e_tl2, e_tl3, z10, Bool.false_eq_true, e_argi, e_argr, e_argn, zld_c, zst_n, zst_c, zpick_n, zpick_c, List.drop_succ_cons, List.drop_zero, List.take_succ_cons, List.take_zero, List.length_cons, List.length_nil, List.reverse_cons, List.reverse_nil, List.nil_append, List.cons_append, List.append_nil, List.getElem?_cons_zero, List.getElem?_cons_succ, List.set_cons_zero, List.set_cons_succ, Nat.add_sub_cancel_left, Nat.sub_self, Nat.add_zero, Nat.zero_add, Nat.le_add_right, Nat.le_refl, true_and, and_true, va_rf, zok, Nat.add_left_cancel_iff, Nat.add_eq_left, Nat.left_eq_add, eq_self, if_true, if_false, not_false_eq_true, not_true_eq_false, false_implies, true_implies, Nat.reduceEqDiff, Nat.reduceAdd, Nat.reduceLT, Nat.reduceLeDiff, reduceIte, q1, zrv, zrv_nn (show f0 < 6 by omega), nI_1, nI_leI (show lo k < 2 ^ 31 by omega) (show lo f0 < 2 ^ 31 by omega)]
            refine ⟨fun c2 => ?_, fun c2 => ?_⟩
            · have e : zfo ok bt (k + 1) = zfo ok bt k := zfo_w hz (by rw [← hbt1]; simp; omega)
              have h9 := ih (k + 1) (nI (lo f0)) (by omega) (by rw [e]; exact hw)
              rw [e, hz] at h9; exact h9
            · have e : zfo ok bt (k + 1) = some k := zfo_y hokk hz (by rw [← hbt1]; simp; omega)
              have h9 := ih (k + 1) (nI (lo k)) (by omega) (by rw [e]; intro f hf; cases hf; rfl)
              rw [e] at h9; exact h9
        · simp only [e_cut, e_iload, e_aload, e_istore, e_astore, e_iinc, e_const, e_lconst, e_bin, e_bin0, e_un, e_ladd, e_dupi, e_dupr, e_dup2, e_pop, e_if, e_icmp, e_sw, e_sw0, e_sw1, e_get, e_put, e_ald, e_ast, e_aald, e_aast, e_copy, e_new, e_newa, e_anewa, e_min, e_abs, e_oinit, e_callI, e_callV, e_callS, e_iret, e_zret, e_lret, e_vret, e_tl1, e_tl0, e_tl2, e_tl3, z10, Bool.false_eq_true, e_argi, e_argr, e_argn, zld_c, zst_n, zst_c, zpick_n, zpick_c, List.drop_succ_cons, List.drop_zero, List.take_succ_cons, List.take_zero, List.length_cons, List.length_nil, List.reverse_cons, List.reverse_nil, List.nil_append, List.cons_append, List.append_nil, List.getElem?_cons_zero, List.getElem?_cons_succ, List.set_cons_zero, List.set_cons_succ, Nat.add_sub_cancel_left, Nat.sub_self, Nat.add_zero, Nat.zero_add, Nat.le_add_right, Nat.le_refl, true_and, and_true, va_rf, zok, Nat.add_left_cancel_iff, Nat.add_eq_left, Nat.left_eq_add, eq_self, if_true, if_false, not_false_eq_true, not_true_eq_false, false_implies, true_implies, Nat.reduceEqDiff, Nat.reduceAdd, Nat.reduceLT, Nat.reduceLeDiff, reduceIte, q1, B_X5_fairest_0, B_X5_fairest_9, B_X5_fairest_61, B_X5_fairest_68, nI_1]
          have e : zfo ok bt (k + 1) = zfo ok bt k := zfo_no (by rw [← hok1]; simp [q1])
          have h9 := ih (k + 1) w (by omega) (by rw [e]; exact hw)
          rw [e] at h9; exact h9
  simp only [B_X5_fairest_0, B_X5_fairest_9, B_X5_fairest_61, B_X5_fairest_68, e_cut, e_iload, e_aload, e_istore, e_astore, e_iinc, e_const, e_lconst, e_bin, e_bin0, e_un, e_ladd, e_dupi, e_dupr, e_dup2, e_pop, e_if, e_icmp, e_sw, e_sw0, e_sw1, e_get, e_put, e_ald, e_ast, e_aald, e_aast, e_copy, e_new, e_newa, e_anewa, e_min, e_abs, e_oinit, e_callI, e_callV, e_callS, e_iret, e_zret, e_lret, e_vret, e_tl1, e_tl0, e_tl2, e_tl3, z10, Bool.false_eq_true, e_argi, e_argr, e_argn, zld_c, zst_n, zst_c, zpick_n, zpick_c, List.drop_succ_cons, List.drop_zero, List.take_succ_cons, List.take_zero, List.length_cons, List.length_nil, List.reverse_cons, List.reverse_nil, List.nil_append, List.cons_append, List.append_nil, List.getElem?_cons_zero, List.getElem?_cons_succ, List.set_cons_zero, List.set_cons_succ, Nat.add_sub_cancel_left, Nat.sub_self, Nat.add_zero, Nat.zero_add, Nat.le_add_right, Nat.le_refl, true_and, and_true, va_rf, zok, Nat.add_left_cancel_iff, Nat.add_eq_left, Nat.left_eq_add, eq_self, if_true, if_false, not_false_eq_true, not_true_eq_false, false_implies, true_implies, Nat.reduceEqDiff, Nat.reduceAdd, Nat.reduceLT, Nat.reduceLeDiff, reduceIte]
  exact loop n 0 0 rfl (fun f hf => by cases hf)
set_option maxRecDepth 20000 in
theorem f_X5_fairest_19 : Cond.fieldLink RX5 19 (TX5 1).1 (TX5 1).2.1 (TX5 1).2.2.1 ∈ wsX5_fairest := by decide +kernel
set_option maxRecDepth 20000 in
theorem k_X5_fairest_5 : ∀ w ∈ u_ws RX5 TX5 11, w ∈ wsX5_fairest := fun _ h => List.mem_cons_of_mem _ (List.mem_append_left _ (List.mem_append_left _ (List.mem_append_right _ h)))
set_option maxRecDepth 20000 in
theorem f_X5_fairest_200 : Cond.fieldLink RX5 200 (TX4 0).1 (TX4 0).2.1 (TX4 0).2.2.1 ∈ wsX5_fairest := by decide +kernel
set_option maxRecDepth 20000 in
theorem k_X5_fairest_4 : ∀ w ∈ u_ws RX4 TX4 6, w ∈ wsX5_fairest := fun _ h => List.mem_cons_of_mem _ (List.mem_append_left _ (List.mem_append_right _ h))
set_option maxRecDepth 20000 in
theorem f_X5_fairest_82 : Cond.fieldLink RX5 82 (TX4 4).1 (TX4 4).2.1 (TX4 4).2.2.1 ∈ wsX5_fairest := by decide +kernel
set_option maxRecDepth 100000 in
set_option maxHeartbeats 4000000 in
theorem S_X5_fairest_68 {p : Program} {e : Env} {s : State} {m : MethodId} {args : Array Value} {below : List Frame} {meth : Method} {c : Code} {D : va_G} {cy : zY} {b n0 : Nat} {P : zPo} (la : Launch) (X : zX p la e (rm_X5_fairest) s m args below meth c 7 D cy b n0 cX5_fairest wsX5_fairest RX5) (hr : meth.sig.returnType = (some .int)) (h_X1_isAboard : zMet la yX1_isAboard wsX1_isAboard rm_X1_isAboard 0 0 sp_X1_isAboard) : zS p la e (rm_X5_fairest) s m args below meth c (MQ below (zQ D b (n0 + 0) P) args s 0 0 (fun q => b ≤ q)) 7 D b n0 68 (B_X5_fairest_68 b n0 cy P (zAt p la e (rm_X5_fairest) s m args below meth c (MQ below (zQ D b (n0 + 0) P) args s 0 0 (fun q => b ≤ q)) 7 D b n0)) := by
  unfold B_X5_fairest_68
  exact (s_iinc X dX5_fairest_68 (by decide) (by decide) (s_goto X dX5_fairest_71 (by decide) (s_cut (by decide) zS_at)))
set_option maxRecDepth 100000 in
set_option maxHeartbeats 4000000 in
theorem S_X5_fairest_61 {p : Program} {e : Env} {s : State} {m : MethodId} {args : Array Value} {below : List Frame} {meth : Method} {c : Code} {D : va_G} {cy : zY} {b n0 : Nat} {P : zPo} (la : Launch) (X : zX p la e (rm_X5_fairest) s m args below meth c 7 D cy b n0 cX5_fairest wsX5_fairest RX5) (hr : meth.sig.returnType = (some .int)) (h_X1_isAboard : zMet la yX1_isAboard wsX1_isAboard rm_X1_isAboard 0 0 sp_X1_isAboard) : zS p la e (rm_X5_fairest) s m args below meth c (MQ below (zQ D b (n0 + 0) P) args s 0 0 (fun q => b ≤ q)) 7 D b n0 61 (B_X5_fairest_61 b n0 cy P (zAt p la e (rm_X5_fairest) s m args below meth c (MQ below (zQ D b (n0 + 0) P) args s 0 0 (fun q => b ≤ q)) 7 D b n0)) := by
  unfold B_X5_fairest_61
  exact (s_iload X dX5_fairest_61 (s_istore_n X dX5_fairest_63 rfl (by decide) (s_iload X dX5_fairest_64 (s_istore X dX5_fairest_66 (by decide) (S_X5_fairest_68 la X hr h_X1_isAboard)))))
set_option maxRecDepth 100000 in
set_option maxHeartbeats 4000000 in
theorem S_X5_fairest_9 {p : Program} {e : Env} {s : State} {m : MethodId} {args : Array Value} {below : List Frame} {meth : Method} {c : Code} {D : va_G} {cy : zY} {b n0 : Nat} {P : zPo} (la : Launch) (X : zX p la e (rm_X5_fairest) s m args below meth c 7 D cy b n0 cX5_fairest wsX5_fairest RX5) (hr : meth.sig.returnType = (some .int)) (h_X1_isAboard : zMet la yX1_isAboard wsX1_isAboard rm_X1_isAboard 0 0 sp_X1_isAboard) : zS p la e (rm_X5_fairest) s m args below meth c (MQ below (zQ D b (n0 + 0) P) args s 0 0 (fun q => b ≤ q)) 7 D b n0 9 (B_X5_fairest_9 b n0 cy P (zAt p la e (rm_X5_fairest) s m args below meth c (MQ below (zQ D b (n0 + 0) P) args s 0 0 (fun q => b ≤ q)) 7 D b n0)) := by
  unfold B_X5_fairest_9
  exact (s_iload X dX5_fairest_9 (s_aload_n X dX5_fairest_11 rfl (s_get X dX5_fairest_12 rfl k_X5_fairest_5 (by decide) f_X5_fairest_19 (s_get X dX5_fairest_15 rfl k_X5_fairest_4 (by decide) f_X5_fairest_200 (s_icmp_ge X dX5_fairest_18 (by decide) (s_iload_n X dX5_fairest_74 rfl (s_iret X dX5_fairest_75 hr)) (s_aload_n X dX5_fairest_21 rfl (s_get X dX5_fairest_22 rfl k_X5_fairest_5 (by decide) f_X5_fairest_19 (s_get X dX5_fairest_25 rfl k_X5_fairest_4 (by decide) f_X5_fairest_82 (s_iload X dX5_fairest_28 (s_iald X dX5_fairest_30 (s_istore X dX5_fairest_31 (by decide) (s_iload X dX5_fairest_33 (s_iload_n X dX5_fairest_35 rfl (s_icmp_eq X dX5_fairest_36 (by decide) (S_X5_fairest_68 la X hr h_X1_isAboard) (s_aload_n X dX5_fairest_39 rfl (s_iload X dX5_fairest_40 (s_callV X h_X1_isAboard dX5_fairest_42 rfl gX5_fairest_X1_isAboard rfl rfl rfl (by decide +kernel) ⟨by decide, by decide⟩ (s_if_eq X dX5_fairest_45 (by decide) (S_X5_fairest_68 la X hr h_X1_isAboard) (s_iload_n X dX5_fairest_48 rfl (s_bipush X dX5_fairest_49 (by decide) (s_icmp_eq X dX5_fairest_51 (by decide) (S_X5_fairest_61 la X hr h_X1_isAboard) (s_iload X dX5_fairest_54 (s_iload X dX5_fairest_56 (s_icmp_le X dX5_fairest_58 (by decide) (S_X5_fairest_68 la X hr h_X1_isAboard) (S_X5_fairest_61 la X hr h_X1_isAboard)))))))))))))))))))))))))
set_option maxRecDepth 100000 in
set_option maxHeartbeats 4000000 in
theorem S_X5_fairest_0 {p : Program} {e : Env} {s : State} {m : MethodId} {args : Array Value} {below : List Frame} {meth : Method} {c : Code} {D : va_G} {cy : zY} {b n0 : Nat} {P : zPo} (la : Launch) (X : zX p la e (rm_X5_fairest) s m args below meth c 7 D cy b n0 cX5_fairest wsX5_fairest RX5) (hr : meth.sig.returnType = (some .int)) (h_X1_isAboard : zMet la yX1_isAboard wsX1_isAboard rm_X1_isAboard 0 0 sp_X1_isAboard) : zS p la e (rm_X5_fairest) s m args below meth c (MQ below (zQ D b (n0 + 0) P) args s 0 0 (fun q => b ≤ q)) 7 D b n0 0 (B_X5_fairest_0 b n0 cy P (zAt p la e (rm_X5_fairest) s m args below meth c (MQ below (zQ D b (n0 + 0) P) args s 0 0 (fun q => b ≤ q)) 7 D b n0)) := by
  unfold B_X5_fairest_0
  exact (s_bipush X dX5_fairest_0 (by decide) (s_istore_n X dX5_fairest_2 rfl (by decide) (s_iconst X dX5_fairest_3 (by decide) (s_istore X dX5_fairest_4 (by decide) (s_iconst X dX5_fairest_6 (by decide) (s_istore X dX5_fairest_7 (by decide) (s_cut (by decide) zS_at)))))))
theorem w_X5_fairest (la : Launch) (h_X1_isAboard : zMet la yX1_isAboard wsX1_isAboard rm_X1_isAboard 0 0 sp_X1_isAboard) (sp : zSp) (vc : zVC_X5_fairest sp) : zMet la yX5_fairest wsX5_fairest (rm_X5_fairest) 0 0 sp :=
  z_of (cc := cX5_fairest) (maxL := 7) (ret := (some .int)) (by decide +kernel) rfl (fun p e s m args below meth c D cy b n as E P hsp X hr hin => by
    obtain ⟨h1, h2⟩ := vc b cy n as E P (zAt p la e (rm_X5_fairest) s m args below meth c (MQ below (zQ D b (n + 0) P) args s 0 0 (fun q => b ≤ q)) 7 D b n) (fun _ _ _ _ _ q => S_X5_fairest_9 la X hr h_X1_isAboard _ _ _ _ _ q) hsp
    exact ⟨h1, S_X5_fairest_0 la X hr h_X1_isAboard _ _ _ _ _ h2⟩)

theorem m_X5_fairest (la : Launch) : zMet la yX5_fairest wsX5_fairest rm_X5_fairest 0 0 sp_X5_fairest := w_X5_fairest la (m_X1_isAboard la) _ vc_X5_fairest
def sp_X5_nextAboard : zSp := fun b cy as N E P => ∃ (n : Nat) (lo la : Nat → Nat) (i : Nat) (c : Nat → Nat) (r s : Nat), as = [.ref b, .ref (b + i), .int (nI r)] ∧ zP1 b cy N E n lo la i c ∧ r < n ∧ P (some (.int (zrv (zwho n lo c r s 2)))) E
abbrev rm_X5_nextAboard : Room := { frames := 2, cells := 0, slots := 0, locals := 61 }
def B_X5_nextAboard_43 (b n0 : Nat) (cy : zY) (P : zPo) (A : Nat → zC) : zC :=
  z_istore 4 (z_aload 1 (z_iload 4 (z_callV b n0 0 0 cy 1 1 0 0 sp_X1_isAboard (z_if (fun x => x = 0) (z_iinc 3 (1) (z_cut [0, 1, 2, 3] (A 2))) (z_iload 4 (z_iret 0 0 P))))))
def B_X5_nextAboard_2 (b n0 : Nat) (cy : zY) (P : zPo) (A : Nat → zC) : zC :=
  z_iload 3 (z_aload 0 (z_get b n0 5 1 (z_get b n0 4 0 (z_icmp (fun x y => y ≤ x) (z_const (-9) (z_iret 0 0 P)) (z_iload 2 (z_iload 3 (z_bin (fun x y => x + y) (z_aload 0 (z_get b n0 5 1 (z_get b n0 4 0 (z_icmp (fun x y => y ≤ x) (z_iload 2 (z_iload 3 (z_bin (fun x y => x + y) (z_aload 0 (z_get b n0 5 1 (z_get b n0 4 0 (z_bin (fun x y => x - y) (B_X5_nextAboard_43 b n0 cy P A)))))))) (z_iload 2 (z_iload 3 (z_bin (fun x y => x + y) (B_X5_nextAboard_43 b n0 cy P A)))))))))))))))
def B_X5_nextAboard_0 (b n0 : Nat) (cy : zY) (P : zPo) (A : Nat → zC) : zC :=
  z_const (1) (z_istore 3 (z_cut [0, 1, 2, 3] (A 2)))
def zVC_X5_nextAboard (sp : zSp) : Prop := ∀ (b : Nat) (cy : zY) (n : Nat) (as : List Value) (E : zE) (P : zPo) (A : Nat → zC), (∀ l st k u E, B_X5_nextAboard_2 b n cy P A l st k u E → A 2 l st k u E) → sp b cy as n E P → zgood as 5 ∧ B_X5_nextAboard_0 b n cy P A (lv_args 0 as) [] 0 0 E

set_option maxRecDepth 100000 in
set_option maxHeartbeats 4000000 in
theorem vc_X5_nextAboard : zVC_X5_nextAboard sp_X5_nextAboard := by
  intro b cy N as E P A hA hsp
  obtain ⟨n, lo, la, i, c, r, s, rfl, ⟨⟨⟨kept, cnt, tr, e0⟩, ⟨seat, line, items, ⟨hn, f, g, h, h0, h1, h2, h3, hf, hg, hh⟩⟩, hlo⟩, hmo, hok, hi, hN⟩, hr, hP⟩ := hsp
  refine ⟨⟨Nat.le_of_ble_eq_true rfl, zg1 rfl (zg1 rfl (zg1 rfl (zg0)))⟩, ?_⟩
  have N0 : 0 < N := by omega
  have N3 : 3 < N := by omega
  obtain ⟨hn', mf, mg, mh, m0, m1, m2, m3, hmf, hmg, hmh⟩ := id hmo
  have hi0 : i < N := by omega
  have loop : ∀ (d k : Nat) (hd : d + k = n) (hk1 : 1 ≤ k), (∀ t, 1 ≤ t → t < k → (c 1).testBit (if r + t < n then r + t else r + t - n) = false) → A 2 [(0, .ref b), (1, .ref (b + i)), (2, .int (nI r)), (3, .int (nI k))] [] 0 0 E := by
    intro d
    induction d with
    | zero =>
      intro k hd hk1 hw
      obtain rfl : k = n := by omega
      apply hA
      have cle : nI k ≤ nI k := nI_le (Nat.le_refl _) (by omega)
      simp only [B_X5_nextAboard_0, B_X5_nextAboard_2, B_X5_nextAboard_43, e_cut, e_iload, e_aload, e_istore, e_astore, e_iinc, e_const, e_lconst, e_bin, e_bin0, e_un, e_ladd, e_dupi, e_dupr, e_dup2, e_pop, e_if, e_icmp, e_sw, e_sw0, e_sw1, e_get, e_put, e_ald, e_ast, e_aald, e_aast, e_copy, e_new, e_newa, e_anewa, e_min, e_abs, e_oinit, e_callI, e_callV, e_callS, e_iret, e_zret, e_lret, e_vret, e_tl1, e_tl0, e_tl2, e_tl3, z10, Bool.false_eq_true, e_argi, e_argr, e_argn, zld_c, zst_n, zst_c, zpick_n, zpick_c, List.drop_succ_cons, List.drop_zero, List.take_succ_cons, List.take_zero, List.length_cons, List.length_nil, List.reverse_cons, List.reverse_nil, List.nil_append, List.cons_append, List.append_nil, List.getElem?_cons_zero, List.getElem?_cons_succ, List.set_cons_zero, List.set_cons_succ, Nat.add_sub_cancel_left, Nat.sub_self, Nat.add_zero, Nat.zero_add, Nat.le_add_right, Nat.le_refl, true_and, and_true, va_rf, zok, Nat.add_left_cancel_iff, Nat.add_eq_left, Nat.left_eq_add, eq_self, if_true, if_false, not_false_eq_true, not_true_eq_false, false_implies, true_implies, Nat.reduceEqDiff, Nat.reduceAdd, Nat.reduceLT, Nat.reduceLeDiff, reduceIte, zB0, e0, N0, N3, h0, cle]
      have e : zwho k lo c r s 2 = none := by
        refine zfo_none (fun q hq => ?_)
        by_cases h : q = r
        · simp [h]
        · have h5 := hw (if r < q then q - r else q + k - r) (by split <;> omega) (by split <;> omega)
          have h6 : (if r + (if r < q then q - r else q + k - r) < k then r + (if r < q then q - r else q + k - r) else r + (if r < q then q - r else q + k - r) - k) = q := by
            by_cases h7 : r < q
            · rw [if_pos h7, if_pos (by omega)]; omega
            · rw [if_neg h7, if_neg (by omega)]; omega
          rw [h6] at h5
          simp [h5]
      rw [e] at hP
      exact hP
    | succ d ih =>
      intro k hd hk1 hw
      have hk : k < n := by omega
      apply hA
      have cle : ¬ nI n ≤ nI k := nI_ge hk (by omega)
      generalize hq : (if r + k < n then r + k else r + k - n) = q
      have hqn : q < n := by rw [← hq]; split <;> omega
      have hqr : q ≠ r := by rw [← hq]; split <;> omega
      have fin : sp_X1_isAboard b cy [.ref (b + i), .int (nI q)] N E (fun v E' => z_if (fun x => x = 0) (z_iinc 3 (1) (z_cut [0, 1, 2, 3] (A 2))) (z_iload 4 (z_iret 0 0 P)) [(0, .ref b), (1, .ref (b + i)), (2, .int (nI r)), (3, .int (nI k)), (4, .int (nI q))] v.toList 0 0 E') := by
        refine ⟨i, q, n, c, rfl, hmo, hi, by omega, hok.l64, ?_⟩
        by_cases q1 : (c 1).testBit q = true
        · simp only [e_cut, e_iload, e_aload, e_istore, e_astore, e_iinc, e_const, e_lconst, e_bin, e_bin0, e_un, e_ladd, e_dupi, e_dupr, e_dup2, e_pop, e_if, e_icmp, e_sw, e_sw0, e_sw1, e_get, e_put, e_ald, e_ast, e_aald, e_aast, e_copy, e_new, e_newa, e_anewa, e_min, e_abs, e_oinit, e_callI, e_callV, e_callS, e_iret, e_zret, e_lret, e_vret, e_tl1, e_tl0, e_tl2, e_tl3, z10, Bool.false_eq_true, e_argi, e_argr, e_argn, zld_c, zst_n, zst_c, zpick_n, zpick_c, List.drop_succ_cons, List.drop_zero, List.take_succ_cons, List.take_zero, List.length_cons, List.length_nil, List.reverse_cons, List.reverse_nil, List.nil_append, List.cons_append, List.append_nil, List.getElem?_cons_zero, List.getElem?_cons_succ, List.set_cons_zero, List.set_cons_succ, Nat.add_sub_cancel_left, Nat.sub_self, Nat.add_zero, Nat.zero_add, Nat.le_add_right, Nat.le_refl, true_and, and_true, va_rf, zok, Nat.add_left_cancel_iff, Nat.add_eq_left, Nat.left_eq_add, eq_self, if_true, if_false, not_false_eq_true, not_true_eq_false, false_implies, true_implies, Nat.reduceEqDiff, Nat.reduceAdd, Nat.reduceLT, Nat.reduceLeDiff, reduceIte, q1]
          have e : zwho n lo c r s 2 = some q := by
            refine zfo_best hqn (by simp [hqr, q1]) (fun t ht hot hne => ?_)
            have htr : t ≠ r := by
              intro h; subst h; simp at hot
            have hta : (c 1).testBit t = true := by simp at hot; exact hot.2
            have h5 : ¬ (if r < t then t - r else t + n - r) < k := fun hlt => by
              have h8 := hw (if r < t then t - r else t + n - r) (by split <;> omega) hlt
              have h6 : (if r + (if r < t then t - r else t + n - r) < n then r + (if r < t then t - r else t + n - r) else r + (if r < t then t - r else t + n - r) - n) = t := by
                by_cases h7 : r < t
                · rw [if_pos h7, if_pos (by omega)]; omega
                · rw [if_neg h7, if_neg (by omega)]; omega
              rw [h6, hta] at h8
              cases h8
            have hkey : (q + 6 - r) % 6 < (t + 6 - r) % 6 := by
              by_cases h7 : r < t
              · rw [if_pos h7] at h5
                by_cases h8 : r + k < n
                · rw [if_pos h8] at hq; omega
                · rw [if_neg h8] at hq; omega
              · rw [if_neg h7] at h5
                by_cases h8 : r + k < n
                · rw [if_pos h8] at hq; omega
                · rw [if_neg h8] at hq; omega
            simp
            omega
          rw [e] at hP
          exact hP
        · simp only [e_cut, e_iload, e_aload, e_istore, e_astore, e_iinc, e_const, e_lconst, e_bin, e_bin0, e_un, e_ladd, e_dupi, e_dupr, e_dup2, e_pop, e_if, e_icmp, e_sw, e_sw0, e_sw1, e_get, e_put, e_ald, e_ast, e_aald, e_aast, e_copy, e_new, e_newa, e_anewa, e_min, e_abs, e_oinit, e_callI, e_callV, e_callS, e_iret, e_zret, e_lret, e_vret, e_tl1, e_tl0, e_tl2, e_tl3, z10, Bool.false_eq_true, e_argi, e_argr, e_argn, zld_c, zst_n, zst_c, zpick_n, zpick_c, List.drop_succ_cons, List.drop_zero, List.take_succ_cons, List.take_zero, List.length_cons, List.length_nil, List.reverse_cons, List.reverse_nil, List.nil_append, List.cons_append, List.append_nil, List.getElem?_cons_zero, List.getElem?_cons_succ, List.set_cons_zero, List.set_cons_succ, Nat.add_sub_cancel_left, Nat.sub_self, Nat.add_zero, Nat.zero_add, Nat.le_add_right, Nat.le_refl, true_and, and_true, va_rf, zok, Nat.add_left_cancel_iff, Nat.add_eq_left, Nat.left_eq_add, eq_self, if_true, if_false, not_false_eq_true, not_true_eq_false, false_implies, true_implies, Nat.reduceEqDiff, Nat.reduceAdd, Nat.reduceLT, Nat.reduceLeDiff, reduceIte, q1, nI_1]
          refine ih (k + 1) (by omega) (by omega) (fun t h1 h2 => ?_)
          by_cases h : t = k
          · rw [h, hq]; simpa using q1
          · exact hw t h1 (by omega)
      have N12 : n < 2 ^ 31 := by omega
      simp only [B_X5_nextAboard_0, B_X5_nextAboard_2, B_X5_nextAboard_43, e_cut, e_iload, e_aload, e_istore, e_astore, e_iinc, e_const, e_lconst, e_bin, e_bin0, e_un, e_ladd, e_dupi, e_dupr, e_dup2, e_pop, e_if, e_icmp, e_sw, e_sw0, e_sw1, e_get, e_put, e_ald, e_ast, e_aald, e_aast, e_copy, e_new, e_newa, e_anewa, e_min, e_abs, e_oinit, e_callI, e_callV, e_callS, e_iret, e_zret, e_lret, e_vret, e_tl1, e_tl0, e_tl2, e_tl3, z10, Bool.false_eq_true, e_argi, e_argr, e_argn, zld_c, zst_n, zst_c, zpick_n, zpick_c, List.drop_succ_cons, List.drop_zero, List.take_succ_cons, List.take_zero, List.length_cons, List.length_nil, List.reverse_cons, List.reverse_nil, List.nil_append, List.cons_append, List.append_nil, List.getElem?_cons_zero, List.getElem?_cons_succ, List.set_cons_zero, List.set_cons_succ, Nat.add_sub_cancel_left, Nat.sub_self, Nat.add_zero, Nat.zero_add, Nat.le_add_right, Nat.le_refl, true_and, and_true, va_rf, zok, Nat.add_left_cancel_iff, Nat.add_eq_left, Nat.left_eq_add, eq_self, if_true, if_false, not_false_eq_true, not_true_eq_false, false_implies, true_implies, Nat.reduceEqDiff, Nat.reduceAdd, Nat.reduceLT, Nat.reduceLeDiff, reduceIte, zB0, e0, N0, N3, h0, cle, nI_add, nI_leI N12 (show r + k < 2 ^ 31 by omega), m0, hi0]
      refine ⟨fun c2 => ?_, fun c2 => ?_⟩
      · have e : nI (r + k) - nI n = nI q := by
          rw [pk_sub c2, ← hq, if_neg (by omega)]
        rw [e]; exact fin
      · have e : r + k = q := by rw [← hq, if_pos (by omega)]
        rw [e]; exact fin
  simp only [B_X5_nextAboard_0, B_X5_nextAboard_2, B_X5_nextAboard_43, e_cut, e_iload, e_aload, e_istore, e_astore, e_iinc, e_const, e_lconst, e_bin, e_bin0, e_un, e_ladd, e_dupi, e_dupr, e_dup2, e_pop, e_if, e_icmp, e_sw, e_sw0, e_sw1, e_get, e_put, e_ald, e_ast, e_aald, e_aast, e_copy, e_new, e_newa, e_anewa, e_min, e_abs, e_oinit, e_callI, e_callV, e_callS, e_iret, e_zret, e_lret, e_vret, e_tl1, e_tl0, e_tl2, e_tl3, z10, Bool.false_eq_true, e_argi, e_argr, e_argn, zld_c, zst_n, zst_c, zpick_n, zpick_c, List.drop_succ_cons, List.drop_zero, List.take_succ_cons, List.take_zero, List.length_cons, List.length_nil, List.reverse_cons, List.reverse_nil, List.nil_append, List.cons_append, List.append_nil, List.getElem?_cons_zero, List.getElem?_cons_succ, List.set_cons_zero, List.set_cons_succ, Nat.add_sub_cancel_left, Nat.sub_self, Nat.add_zero, Nat.zero_add, Nat.le_add_right, Nat.le_refl, true_and, and_true, va_rf, zok, Nat.add_left_cancel_iff, Nat.add_eq_left, Nat.left_eq_add, eq_self, if_true, if_false, not_false_eq_true, not_true_eq_false, false_implies, true_implies, Nat.reduceEqDiff, Nat.reduceAdd, Nat.reduceLT, Nat.reduceLeDiff, reduceIte]
  exact loop (n - 1) 1 (by omega) (Nat.le_refl _) (fun t h1 h2 => by omega)
set_option maxRecDepth 20000 in
theorem f_X5_nextAboard_19 : Cond.fieldLink RX5 19 (TX5 1).1 (TX5 1).2.1 (TX5 1).2.2.1 ∈ wsX5_nextAboard := by decide +kernel
set_option maxRecDepth 20000 in
theorem k_X5_nextAboard_5 : ∀ w ∈ u_ws RX5 TX5 11, w ∈ wsX5_nextAboard := fun _ h => List.mem_cons_of_mem _ (List.mem_append_left _ (List.mem_append_left _ (List.mem_append_right _ h)))
set_option maxRecDepth 20000 in
theorem f_X5_nextAboard_200 : Cond.fieldLink RX5 200 (TX4 0).1 (TX4 0).2.1 (TX4 0).2.2.1 ∈ wsX5_nextAboard := by decide +kernel
set_option maxRecDepth 20000 in
theorem k_X5_nextAboard_4 : ∀ w ∈ u_ws RX4 TX4 6, w ∈ wsX5_nextAboard := fun _ h => List.mem_cons_of_mem _ (List.mem_append_left _ (List.mem_append_right _ h))
set_option maxRecDepth 100000 in
set_option maxHeartbeats 4000000 in
theorem S_X5_nextAboard_43 {p : Program} {e : Env} {s : State} {m : MethodId} {args : Array Value} {below : List Frame} {meth : Method} {c : Code} {D : va_G} {cy : zY} {b n0 : Nat} {P : zPo} (la : Launch) (X : zX p la e (rm_X5_nextAboard) s m args below meth c 5 D cy b n0 cX5_nextAboard wsX5_nextAboard RX5) (hr : meth.sig.returnType = (some .int)) (h_X1_isAboard : zMet la yX1_isAboard wsX1_isAboard rm_X1_isAboard 0 0 sp_X1_isAboard) : zS p la e (rm_X5_nextAboard) s m args below meth c (MQ below (zQ D b (n0 + 0) P) args s 0 0 (fun q => b ≤ q)) 5 D b n0 43 (B_X5_nextAboard_43 b n0 cy P (zAt p la e (rm_X5_nextAboard) s m args below meth c (MQ below (zQ D b (n0 + 0) P) args s 0 0 (fun q => b ≤ q)) 5 D b n0)) := by
  unfold B_X5_nextAboard_43
  exact (s_istore X dX5_nextAboard_43 (by decide) (s_aload_n X dX5_nextAboard_45 rfl (s_iload X dX5_nextAboard_46 (s_callV X h_X1_isAboard dX5_nextAboard_48 rfl gX5_nextAboard_X1_isAboard rfl rfl rfl (by decide +kernel) ⟨by decide, by decide⟩ (s_if_eq X dX5_nextAboard_51 (by decide) (s_iinc X dX5_nextAboard_57 (by decide) (by decide) (s_goto X dX5_nextAboard_60 (by decide) (s_cut (by decide) zS_at))) (s_iload X dX5_nextAboard_54 (s_iret X dX5_nextAboard_56 hr)))))))
set_option maxRecDepth 100000 in
set_option maxHeartbeats 4000000 in
theorem S_X5_nextAboard_2 {p : Program} {e : Env} {s : State} {m : MethodId} {args : Array Value} {below : List Frame} {meth : Method} {c : Code} {D : va_G} {cy : zY} {b n0 : Nat} {P : zPo} (la : Launch) (X : zX p la e (rm_X5_nextAboard) s m args below meth c 5 D cy b n0 cX5_nextAboard wsX5_nextAboard RX5) (hr : meth.sig.returnType = (some .int)) (h_X1_isAboard : zMet la yX1_isAboard wsX1_isAboard rm_X1_isAboard 0 0 sp_X1_isAboard) : zS p la e (rm_X5_nextAboard) s m args below meth c (MQ below (zQ D b (n0 + 0) P) args s 0 0 (fun q => b ≤ q)) 5 D b n0 2 (B_X5_nextAboard_2 b n0 cy P (zAt p la e (rm_X5_nextAboard) s m args below meth c (MQ below (zQ D b (n0 + 0) P) args s 0 0 (fun q => b ≤ q)) 5 D b n0)) := by
  unfold B_X5_nextAboard_2
  exact (s_iload_n X dX5_nextAboard_2 rfl (s_aload_n X dX5_nextAboard_3 rfl (s_get X dX5_nextAboard_4 rfl k_X5_nextAboard_5 (by decide) f_X5_nextAboard_19 (s_get X dX5_nextAboard_7 rfl k_X5_nextAboard_4 (by decide) f_X5_nextAboard_200 (s_icmp_ge X dX5_nextAboard_10 (by decide) (s_bipush X dX5_nextAboard_63 (by decide) (s_iret X dX5_nextAboard_65 hr)) (s_iload_n X dX5_nextAboard_13 rfl (s_iload_n X dX5_nextAboard_14 rfl (s_iadd X dX5_nextAboard_15 (s_aload_n X dX5_nextAboard_16 rfl (s_get X dX5_nextAboard_17 rfl k_X5_nextAboard_5 (by decide) f_X5_nextAboard_19 (s_get X dX5_nextAboard_20 rfl k_X5_nextAboard_4 (by decide) f_X5_nextAboard_200 (s_icmp_ge X dX5_nextAboard_23 (by decide) (s_iload_n X dX5_nextAboard_32 rfl (s_iload_n X dX5_nextAboard_33 rfl (s_iadd X dX5_nextAboard_34 (s_aload_n X dX5_nextAboard_35 rfl (s_get X dX5_nextAboard_36 rfl k_X5_nextAboard_5 (by decide) f_X5_nextAboard_19 (s_get X dX5_nextAboard_39 rfl k_X5_nextAboard_4 (by decide) f_X5_nextAboard_200 (s_isub X dX5_nextAboard_42 (S_X5_nextAboard_43 la X hr h_X1_isAboard)))))))) (s_iload_n X dX5_nextAboard_26 rfl (s_iload_n X dX5_nextAboard_27 rfl (s_iadd X dX5_nextAboard_28 (s_goto X dX5_nextAboard_29 (by decide) (S_X5_nextAboard_43 la X hr h_X1_isAboard)))))))))))))))))
set_option maxRecDepth 100000 in
set_option maxHeartbeats 4000000 in
theorem S_X5_nextAboard_0 {p : Program} {e : Env} {s : State} {m : MethodId} {args : Array Value} {below : List Frame} {meth : Method} {c : Code} {D : va_G} {cy : zY} {b n0 : Nat} {P : zPo} (la : Launch) (X : zX p la e (rm_X5_nextAboard) s m args below meth c 5 D cy b n0 cX5_nextAboard wsX5_nextAboard RX5) (hr : meth.sig.returnType = (some .int)) (h_X1_isAboard : zMet la yX1_isAboard wsX1_isAboard rm_X1_isAboard 0 0 sp_X1_isAboard) : zS p la e (rm_X5_nextAboard) s m args below meth c (MQ below (zQ D b (n0 + 0) P) args s 0 0 (fun q => b ≤ q)) 5 D b n0 0 (B_X5_nextAboard_0 b n0 cy P (zAt p la e (rm_X5_nextAboard) s m args below meth c (MQ below (zQ D b (n0 + 0) P) args s 0 0 (fun q => b ≤ q)) 5 D b n0)) := by
  unfold B_X5_nextAboard_0
  exact (s_iconst X dX5_nextAboard_0 (by decide) (s_istore_n X dX5_nextAboard_1 rfl (by decide) (s_cut (by decide) zS_at)))
theorem w_X5_nextAboard (la : Launch) (h_X1_isAboard : zMet la yX1_isAboard wsX1_isAboard rm_X1_isAboard 0 0 sp_X1_isAboard) (sp : zSp) (vc : zVC_X5_nextAboard sp) : zMet la yX5_nextAboard wsX5_nextAboard (rm_X5_nextAboard) 0 0 sp :=
  z_of (cc := cX5_nextAboard) (maxL := 5) (ret := (some .int)) (by decide +kernel) rfl (fun p e s m args below meth c D cy b n as E P hsp X hr hin => by
    obtain ⟨h1, h2⟩ := vc b cy n as E P (zAt p la e (rm_X5_nextAboard) s m args below meth c (MQ below (zQ D b (n + 0) P) args s 0 0 (fun q => b ≤ q)) 5 D b n) (fun _ _ _ _ _ q => S_X5_nextAboard_2 la X hr h_X1_isAboard _ _ _ _ _ q) hsp
    exact ⟨h1, S_X5_nextAboard_0 la X hr h_X1_isAboard _ _ _ _ _ h2⟩)

theorem m_X5_nextAboard (la : Launch) : zMet la yX5_nextAboard wsX5_nextAboard rm_X5_nextAboard 0 0 sp_X5_nextAboard := w_X5_nextAboard la (m_X1_isAboard la) _ vc_X5_nextAboard
/-- whom r thinks of by a law; nobody, if he isn't aboard -/
def zwhom (n : Nat) (lo c : Nat → Nat) (r by0 : Nat) : Option Nat := if (c 1).testBit r then zwho n lo c r (c (4 + r)) by0 else none
def sp_X5_whom : zSp := fun b cy as N E P => ∃ (n : Nat) (lo la : Nat → Nat) (i : Nat) (c : Nat → Nat) (r by0 : Nat), as = [.ref b, .ref (b + i), .int (nI r), .int (nI by0)] ∧ zP1 b cy N E n lo la i c ∧ r < n ∧ by0 ≤ 2 ∧ P (some (.int (zrv (zwhom n lo c r by0)))) E
abbrev rm_X5_whom : Room := { frames := 3, cells := 0, slots := 0, locals := 88 }
def B_X5_whom_0 (b n0 : Nat) (cy : zY) (P : zPo) (A : Nat → zC) : zC :=
  z_aload 1 (z_iload 2 (z_callV b n0 0 0 cy 1 1 0 0 sp_X1_isAboard (z_if (fun x => x = 0) (z_const (-9) (z_iret 0 0 P)) (z_iload 3 (z_switch [(0, (z_aload 0 (z_aload 1 (z_iload 2 (z_aload 1 (z_get b n0 1 4 (z_iload 2 (z_ald b n0 (cy 1) (z_callV b n0 0 0 cy 5 3 0 0 sp_X5_nearest (z_iret 0 0 P)))))))))), (1, (z_aload 0 (z_aload 1 (z_iload 2 (z_callV b n0 0 0 cy 5 2 0 0 sp_X5_fairest (z_iret 0 0 P))))))] (z_aload 0 (z_aload 1 (z_iload 2 (z_callV b n0 0 0 cy 5 2 0 0 sp_X5_nextAboard (z_iret 0 0 P))))))))))
def zVC_X5_whom (sp : zSp) : Prop := ∀ (b : Nat) (cy : zY) (n : Nat) (as : List Value) (E : zE) (P : zPo) (A : Nat → zC), sp b cy as n E P → zgood as 4 ∧ B_X5_whom_0 b n cy P A (lv_args 0 as) [] 0 0 E

set_option maxRecDepth 100000 in
set_option maxHeartbeats 4000000 in
theorem vc_X5_whom : zVC_X5_whom sp_X5_whom := by
  intro b cy N as E P A hsp
  obtain ⟨n, lo, la, i, c, r, by0, rfl, hp1, hr, hby, hP⟩ := hsp
  obtain ⟨⟨⟨kept, cnt, tr, e0⟩, ⟨seat, line, items, ⟨hn, f, g, h, h0, h1, h2, h3, hf, hg, hh⟩⟩, hlo⟩, hmo, hok, hi, hN⟩ := id hp1
  refine ⟨⟨Nat.le_of_ble_eq_true rfl, zg1 rfl (zg1 rfl (zg1 rfl (zg1 rfl (zg0))))⟩, ?_⟩
  have N0 : 0 < N := by omega
  obtain ⟨hn', mf, mg, mh, m0, m1, m2, m3, hmf, hmg, hmh⟩ := id hmo
  have hi0 : i < N := by omega
  have hi1 : i + 1 < N := by omega
  have hin : vp_in (nI r) 6 := vp_in_nI (by omega) (by omega)
  have hcl : (nI r).toNatClampNeg = r := nI_clamp (by omega)
  simp only [B_X5_whom_0, e_cut, e_iload, e_aload, e_istore, e_astore, e_iinc, e_const, e_lconst, e_bin, e_bin0, e_un, e_ladd, e_dupi, e_dupr, e_dup2, e_pop, e_if, e_icmp, e_sw, e_sw0, e_sw1, e_get, e_put, e_ald, e_ast, e_aald, e_aast, e_copy, e_new, e_newa, e_anewa, e_min, e_abs, e_oinit, e_callI, e_callV, e_callS, e_iret, e_zret, e_lret, e_vret, e_tl1, e_tl0, e_tl2, e_tl3, z10, Bool.false_eq_true, e_argi, e_argr, e_argn, zld_c, zst_n, zst_c, zpick_n, zpick_c, List.drop_succ_cons, List.drop_zero, List.take_succ_cons, List.take_zero, List.length_cons, List.length_nil, List.reverse_cons, List.reverse_nil, List.nil_append, List.cons_append, List.append_nil, List.getElem?_cons_zero, List.getElem?_cons_succ, List.set_cons_zero, List.set_cons_succ, Nat.add_sub_cancel_left, Nat.sub_self, Nat.add_zero, Nat.zero_add, Nat.le_add_right, Nat.le_refl, true_and, and_true, va_rf, zok, Nat.add_left_cancel_iff, Nat.add_eq_left, Nat.left_eq_add, eq_self, if_true, if_false, not_false_eq_true, not_true_eq_false, false_implies, true_implies, Nat.reduceEqDiff, Nat.reduceAdd, Nat.reduceLT, Nat.reduceLeDiff, reduceIte, m0, hi0]
  refine ⟨i, r, n, c, rfl, hmo, hi, by omega, hok.l64, ?_⟩
  by_cases q1 : (c 1).testBit r = true
  · unfold zwhom at hP
    rw [if_pos q1] at hP
    have k0 : (0 : Int32) = nI 0 := rfl
    have k1 : (1 : Int32) = nI 1 := rfl
    have d0 : (nI by0 = nI 0) = (by0 = 0) := propext (nI_eq (by omega) (by omega))
    have d1 : (nI by0 = nI 1) = (by0 = 1) := propext (nI_eq (by omega) (by omega))
    simp only [e_cut, e_iload, e_aload, e_istore, e_astore, e_iinc, e_const, e_lconst, e_bin, e_bin0, e_un, e_ladd, e_dupi, e_dupr, e_dup2, e_pop, e_if, e_icmp, e_sw, e_sw0, e_sw1, e_get, e_put, e_ald, e_ast, e_aald, e_aast, e_copy, e_new, e_newa, e_anewa, e_min, e_abs, e_oinit, e_callI, e_callV, e_callS, e_iret, e_zret, e_lret, e_vret, e_tl1, e_tl0, e_tl2, e_tl3, z10, Bool.false_eq_true, e_argi, e_argr, e_argn, zld_c, zst_n, zst_c, zpick_n, zpick_c, List.drop_succ_cons, List.drop_zero, List.take_succ_cons, List.take_zero, List.length_cons, List.length_nil, List.reverse_cons, List.reverse_nil, List.nil_append, List.cons_append, List.append_nil, List.getElem?_cons_zero, List.getElem?_cons_succ, List.set_cons_zero, List.set_cons_succ, Nat.add_sub_cancel_left, Nat.sub_self, Nat.add_zero, Nat.zero_add, Nat.le_add_right, Nat.le_refl, true_and, and_true, va_rf, zok, Nat.add_left_cancel_iff, Nat.add_eq_left, Nat.left_eq_add, eq_self, if_true, if_false, not_false_eq_true, not_true_eq_false, false_implies, true_implies, Nat.reduceEqDiff, Nat.reduceAdd, Nat.reduceLT, Nat.reduceLeDiff, reduceIte, q1, zB0, e0, N0, m0, m1, hi0, hi1, hin, hcl, hmf r hr]
    refine ⟨fun c1 => ?_, fun c1 => ⟨fun c2 => ?_, fun c2 => ?_⟩⟩
    · rw [k0, d0] at c1
      subst c1
      exact ⟨n, lo, la, i, c, r, c (4 + r), rfl, hp1, by omega, hok.2.2.2.2.1 r hr, by simp only [e_cut, e_iload, e_aload, e_istore, e_astore, e_iinc, e_const, e_lconst, e_bin, e_bin0, e_un, e_ladd, e_dupi, e_dupr, e_dup2, e_pop, e_if, e_icmp, e_sw, e_sw0, e_sw1, e_get, e_put, e_ald, e_ast, e_aald, e_aast, e_copy, e_new, e_newa, e_anewa, e_min, e_abs, e_oinit, e_callI, e_callV, e_callS, e_iret, e_zret, e_lret, e_vret, e_tl1, e_tl0, e_tl2, e_tl3, z10, Bool.false_eq_true, e_argi, e_argr, e_argn, zld_c, zst_n, zst_c, zpick_n, zpick_c, List.drop_succ_cons, List.drop_zero, List.take_succ_cons, List.take_zero, List.length_cons, List.length_nil, List.reverse_cons, List.reverse_nil, List.nil_append, List.cons_append, List.append_nil, List.getElem?_cons_zero, List.getElem?_cons_succ, List.set_cons_zero, List.set_cons_succ, Nat.add_sub_cancel_left, Nat.sub_self, Nat.add_zero, Nat.zero_add, Nat.le_add_right, Nat.le_refl, true_and, and_true, va_rf, zok, Nat.add_left_cancel_iff, Nat.add_eq_left, Nat.left_eq_add, eq_self, if_true, if_false, not_false_eq_true, not_true_eq_false, false_implies, true_implies, Nat.reduceEqDiff, Nat.reduceAdd, Nat.reduceLT, Nat.reduceLeDiff, reduceIte]; exact hP⟩
    · rw [k1, d1] at c2
      subst c2
      exact ⟨n, lo, la, i, c, r, c (4 + r), rfl, hp1, by omega, by simp only [e_cut, e_iload, e_aload, e_istore, e_astore, e_iinc, e_const, e_lconst, e_bin, e_bin0, e_un, e_ladd, e_dupi, e_dupr, e_dup2, e_pop, e_if, e_icmp, e_sw, e_sw0, e_sw1, e_get, e_put, e_ald, e_ast, e_aald, e_aast, e_copy, e_new, e_newa, e_anewa, e_min, e_abs, e_oinit, e_callI, e_callV, e_callS, e_iret, e_zret, e_lret, e_vret, e_tl1, e_tl0, e_tl2, e_tl3, z10, Bool.false_eq_true, e_argi, e_argr, e_argn, zld_c, zst_n, zst_c, zpick_n, zpick_c, List.drop_succ_cons, List.drop_zero, List.take_succ_cons, List.take_zero, List.length_cons, List.length_nil, List.reverse_cons, List.reverse_nil, List.nil_append, List.cons_append, List.append_nil, List.getElem?_cons_zero, List.getElem?_cons_succ, List.set_cons_zero, List.set_cons_succ, Nat.add_sub_cancel_left, Nat.sub_self, Nat.add_zero, Nat.zero_add, Nat.le_add_right, Nat.le_refl, true_and, and_true, va_rf, zok, Nat.add_left_cancel_iff, Nat.add_eq_left, Nat.left_eq_add, eq_self, if_true, if_false, not_false_eq_true, not_true_eq_false, false_implies, true_implies, Nat.reduceEqDiff, Nat.reduceAdd, Nat.reduceLT, Nat.reduceLeDiff, reduceIte]; exact hP⟩
    · rw [k0, d0] at c1
      rw [k1, d1] at c2
      obtain rfl : by0 = 2 := by omega
      exact ⟨n, lo, la, i, c, r, c (4 + r), rfl, hp1, hr, by simp only [e_cut, e_iload, e_aload, e_istore, e_astore, e_iinc, e_const, e_lconst, e_bin, e_bin0, e_un, e_ladd, e_dupi, e_dupr, e_dup2, e_pop, e_if, e_icmp, e_sw, e_sw0, e_sw1, e_get, e_put, e_ald, e_ast, e_aald, e_aast, e_copy, e_new, e_newa, e_anewa, e_min, e_abs, e_oinit, e_callI, e_callV, e_callS, e_iret, e_zret, e_lret, e_vret, e_tl1, e_tl0, e_tl2, e_tl3, z10, Bool.false_eq_true, e_argi, e_argr, e_argn, zld_c, zst_n, zst_c, zpick_n, zpick_c, List.drop_succ_cons, List.drop_zero, List.take_succ_cons, List.take_zero, List.length_cons, List.length_nil, List.reverse_cons, List.reverse_nil, List.nil_append, List.cons_append, List.append_nil, List.getElem?_cons_zero, List.getElem?_cons_succ, List.set_cons_zero, List.set_cons_succ, Nat.add_sub_cancel_left, Nat.sub_self, Nat.add_zero, Nat.zero_add, Nat.le_add_right, Nat.le_refl, true_and, and_true, va_rf, zok, Nat.add_left_cancel_iff, Nat.add_eq_left, Nat.left_eq_add, eq_self, if_true, if_false, not_false_eq_true, not_true_eq_false, false_implies, true_implies, Nat.reduceEqDiff, Nat.reduceAdd, Nat.reduceLT, Nat.reduceLeDiff, reduceIte]; exact hP⟩
  · unfold zwhom at hP
    rw [if_neg q1] at hP
    simp only [e_cut, e_iload, e_aload, e_istore, e_astore, e_iinc, e_const, e_lconst, e_bin, e_bin0, e_un, e_ladd, e_dupi, e_dupr, e_dup2, e_pop, e_if, e_icmp, e_sw, e_sw0, e_sw1, e_get, e_put, e_ald, e_ast, e_aald, e_aast, e_copy, e_new, e_newa, e_anewa, e_min, e_abs, e_oinit, e_callI, e_callV, e_callS, e_iret, e_zret, e_lret, e_vret, e_tl1, e_tl0, e_tl2, e_tl3, z10, Bool.false_eq_true, e_argi, e_argr, e_argn, zld_c, zst_n, zst_c, zpick_n, zpick_c, List.drop_succ_cons, List.drop_zero, List.take_succ_cons, List.take_zero, List.length_cons, List.length_nil, List.reverse_cons, List.reverse_nil, List.nil_append, List.cons_append, List.append_nil, List.getElem?_cons_zero, List.getElem?_cons_succ, List.set_cons_zero, List.set_cons_succ, Nat.add_sub_cancel_left, Nat.sub_self, Nat.add_zero, Nat.zero_add, Nat.le_add_right, Nat.le_refl, true_and, and_true, va_rf, zok, Nat.add_left_cancel_iff, Nat.add_eq_left, Nat.left_eq_add, eq_self, if_true, if_false, not_false_eq_true, not_true_eq_false, false_implies, true_implies, Nat.reduceEqDiff, Nat.reduceAdd, Nat.reduceLT, Nat.reduceLeDiff, reduceIte, q1]
    exact hP
set_option maxRecDepth 20000 in
theorem f_X5_whom_79 : Cond.fieldLink RX5 79 (TX1 4).1 (TX1 4).2.1 (TX1 4).2.2.1 ∈ wsX5_whom := by decide +kernel
set_option maxRecDepth 20000 in
theorem k_X5_whom_1 : ∀ w ∈ u_ws RX1 TX1 7, w ∈ wsX5_whom := fun _ h => List.mem_cons_of_mem _ (List.mem_append_left _ (List.mem_append_left _ (List.mem_append_right _ h)))
set_option maxRecDepth 100000 in
set_option maxHeartbeats 4000000 in
theorem S_X5_whom_0 {p : Program} {e : Env} {s : State} {m : MethodId} {args : Array Value} {below : List Frame} {meth : Method} {c : Code} {D : va_G} {cy : zY} {b n0 : Nat} {P : zPo} (la : Launch) (X : zX p la e (rm_X5_whom) s m args below meth c 4 D cy b n0 cX5_whom wsX5_whom RX5) (hr : meth.sig.returnType = (some .int)) (h_X1_isAboard : zMet la yX1_isAboard wsX1_isAboard rm_X1_isAboard 0 0 sp_X1_isAboard) (h_X5_fairest : zMet la yX5_fairest wsX5_fairest rm_X5_fairest 0 0 sp_X5_fairest) (h_X5_nearest : zMet la yX5_nearest wsX5_nearest rm_X5_nearest 0 0 sp_X5_nearest) (h_X5_nextAboard : zMet la yX5_nextAboard wsX5_nextAboard rm_X5_nextAboard 0 0 sp_X5_nextAboard) : zS p la e (rm_X5_whom) s m args below meth c (MQ below (zQ D b (n0 + 0) P) args s 0 0 (fun q => b ≤ q)) 4 D b n0 0 (B_X5_whom_0 b n0 cy P (zAt p la e (rm_X5_whom) s m args below meth c (MQ below (zQ D b (n0 + 0) P) args s 0 0 (fun q => b ≤ q)) 4 D b n0)) := by
  unfold B_X5_whom_0
  exact (s_aload_n X dX5_whom_0 rfl (s_iload_n X dX5_whom_1 rfl (s_callV X h_X1_isAboard dX5_whom_2 rfl gX5_whom_X1_isAboard rfl rfl rfl (by decide +kernel) ⟨by decide, by decide⟩ (s_if_ne X dX5_whom_5 (by decide) (s_iload_n X dX5_whom_11 rfl (s_lookup X dX5_whom_12 (by decide) (fun x hx => by have q0 := hx (0, _) (List.mem_of_getElem? (i := 0) rfl); have q1 := hx (1, _) (List.mem_of_getElem? (i := 1) rfl); show Op.lookupswitch.offset [(0, 28), (1, 41)] (48) x.toInt = (48); rw [lv_osw q0 (a := 0) rfl, lv_osw q1 (a := 1) rfl]; rfl) (by decide) (s_aload_n X dX5_whom_60 rfl (s_aload_n X dX5_whom_61 rfl (s_iload_n X dX5_whom_62 rfl (s_callV X h_X5_nextAboard dX5_whom_63 rfl gX5_whom_X5_nextAboard rfl rfl rfl (by decide +kernel) ⟨by decide, by decide⟩ (s_iret X dX5_whom_66 hr))))) (List.forall_mem_cons.mpr ⟨⟨28, 40, (show Op.lookupswitch.offset [(0, 28), (1, 41)] (48) (0 : Int32).toInt = 28 from by decide +kernel), by decide, (s_aload_n X dX5_whom_40 rfl (s_aload_n X dX5_whom_41 rfl (s_iload_n X dX5_whom_42 rfl (s_aload_n X dX5_whom_43 rfl (s_get X dX5_whom_44 rfl k_X5_whom_1 (by decide) f_X5_whom_79 (s_iload_n X dX5_whom_47 rfl (s_iald X dX5_whom_48 (s_callV X h_X5_nearest dX5_whom_49 rfl gX5_whom_X5_nearest rfl rfl rfl (by decide +kernel) ⟨by decide, by decide⟩ (s_iret X dX5_whom_52 hr)))))))))⟩, List.forall_mem_cons.mpr ⟨⟨41, 53, (show Op.lookupswitch.offset [(0, 28), (1, 41)] (48) (1 : Int32).toInt = 41 from by decide +kernel), by decide, (s_aload_n X dX5_whom_53 rfl (s_aload_n X dX5_whom_54 rfl (s_iload_n X dX5_whom_55 rfl (s_callV X h_X5_fairest dX5_whom_56 rfl gX5_whom_X5_fairest rfl rfl rfl (by decide +kernel) ⟨by decide, by decide⟩ (s_iret X dX5_whom_59 hr)))))⟩, fun _ h => absurd h List.not_mem_nil⟩⟩))) (s_bipush X dX5_whom_8 (by decide) (s_iret X dX5_whom_10 hr))))))
theorem w_X5_whom (la : Launch) (h_X1_isAboard : zMet la yX1_isAboard wsX1_isAboard rm_X1_isAboard 0 0 sp_X1_isAboard) (h_X5_fairest : zMet la yX5_fairest wsX5_fairest rm_X5_fairest 0 0 sp_X5_fairest) (h_X5_nearest : zMet la yX5_nearest wsX5_nearest rm_X5_nearest 0 0 sp_X5_nearest) (h_X5_nextAboard : zMet la yX5_nextAboard wsX5_nextAboard rm_X5_nextAboard 0 0 sp_X5_nextAboard) (sp : zSp) (vc : zVC_X5_whom sp) : zMet la yX5_whom wsX5_whom (rm_X5_whom) 0 0 sp :=
  z_of (cc := cX5_whom) (maxL := 4) (ret := (some .int)) (by decide +kernel) rfl (fun p e s m args below meth c D cy b n as E P hsp X hr hin => by
    obtain ⟨h1, h2⟩ := vc b cy n as E P (zAt p la e (rm_X5_whom) s m args below meth c (MQ below (zQ D b (n + 0) P) args s 0 0 (fun q => b ≤ q)) 4 D b n) hsp
    exact ⟨h1, S_X5_whom_0 la X hr h_X1_isAboard h_X5_fairest h_X5_nearest h_X5_nextAboard _ _ _ _ _ h2⟩)

theorem m_X5_whom (la : Launch) : zMet la yX5_whom wsX5_whom rm_X5_whom 0 0 sp_X5_whom := w_X5_whom la (m_X1_isAboard la) (m_X5_fairest la) (m_X5_nearest la) (m_X5_nextAboard la) _ vc_X5_whom

