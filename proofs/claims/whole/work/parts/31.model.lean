def zbt (lo c : Nat → Nat) (r s by0 : Nat) : Nat → Nat → Bool := fun q f => if by0 = 0 then decide (zad (c (4 + q)) s < zad (c (4 + f)) s) else if by0 = 1 then decide (lo f < lo q) else decide ((q + 6 - r) % 6 < (f + 6 - r) % 6)
theorem e_swt {x y : Int32} {Kt K : zC} {t : List (Int32 × zC)} {l : zL} {r : List Value} {k u : Nat} {E : zE} (h : x = y) : z_sw ((y, Kt) :: t) K x l r k u E = Kt l r k u E := by
  rw [e_sw1]; exact propext ⟨fun a => a.1 h, fun a => ⟨fun _ => a, fun c => absurd h c⟩⟩
theorem e_swf {x y : Int32} {Kt K : zC} {t : List (Int32 × zC)} {l : zL} {r : List Value} {k u : Nat} {E : zE} (h : ¬ x = y) : z_sw ((y, Kt) :: t) K x l r k u E = z_sw t K x l r k u E := by
  rw [e_sw1]; exact propext ⟨fun a => a.2 h, fun a => ⟨fun c => absurd c h, fun _ => a⟩⟩
theorem zad_comm (x y : Nat) : zad x y = zad y x := Nat.add_comm _ _
theorem zsh6 {a r : Nat} (_ha : a < 6) (hr : r < 6) : nI a - nI r + nI 6 = nI (a + 6 - r) := by
  rw [← pk_sub (show r ≤ a + 6 by omega), ← nI_add, Int32.sub_eq_add_neg, Int32.sub_eq_add_neg, Int32.add_assoc, Int32.add_assoc, Int32.add_comm (-nI r)]
theorem zCm0 {f : Nat → Int32} {n : Nat} {c : Nat → Nat} (h : zCm f 0 n c) : (∀ j, j < 4 → f j = nI (c j)) ∧ (∀ j, j < n → f (4 + j) = nI (c (4 + j))) ∧ (∀ j, j < 6 → f (10 + j) = zdn (c (10 + j))) ∧ (∀ j, j < 36 → f (16 + j) = nI (c (16 + j))) := by
  unfold zCm at h
  simp only [Nat.zero_add] at h
  exact h
def sp_X6_isNearer : zSp := fun b cy as N E P => ∃ (n : Nat) (lo la c : Nat → Nat) (i r by0 q f : Nat), as = [.ref (b + 159), .ref (b + i), .int (nI r), .int (nI by0), .int (nI q), .int (nI f)] ∧ zMR b cy N E n lo la ∧ zAr cy E i n c ∧ zMok n c ∧ i < N ∧ r < n ∧ q < n ∧ f < n ∧ by0 ≤ 2 ∧ P (some (.int (if zbt lo c r (c (4 + r)) by0 q f = true then 1 else 0))) E
abbrev rm_X6_isNearer : Room := { frames := 2, cells := 0, slots := 0, locals := 61 }
def B_X6_isNearer_116 (b n0 : Nat) (cy : zY) (P : zPo) (A : Nat → zC) : zC :=
  z_zret 0 0 P
def B_X6_isNearer_87 (b n0 : Nat) (cy : zY) (P : zPo) (A : Nat → zC) : zC :=
  z_zret 0 0 P
def B_X6_isNearer_64 (b n0 : Nat) (cy : zY) (P : zPo) (A : Nat → zC) : zC :=
  z_zret 0 0 P
def B_X6_isNearer_0 (b n0 : Nat) (cy : zY) (P : zPo) (A : Nat → zC) : zC :=
  z_iload 3 (z_switch [(0, (z_aload 1 (z_const (4) (z_iload 2 (z_bin (fun x y => x + y) (z_ald b n0 (cy 1) (z_aload 1 (z_const (4) (z_iload 4 (z_bin (fun x y => x + y) (z_ald b n0 (cy 1) (z_callS b n0 0 0 cy 2 0 0 sp_X6_apart (z_aload 1 (z_const (4) (z_iload 2 (z_bin (fun x y => x + y) (z_ald b n0 (cy 1) (z_aload 1 (z_const (4) (z_iload 5 (z_bin (fun x y => x + y) (z_ald b n0 (cy 1) (z_callS b n0 0 0 cy 2 0 0 sp_X6_apart (z_icmp (fun x y => y ≤ x) (z_const (0) (B_X6_isNearer_64 b n0 cy P A)) (z_const (1) (B_X6_isNearer_64 b n0 cy P A)))))))))))))))))))))))))), (1, (z_aload 0 (z_get b n0 6 5 (z_iload 4 (z_ald b n0 (cy 1) (z_aload 0 (z_get b n0 6 5 (z_iload 5 (z_ald b n0 (cy 1) (z_icmp (fun x y => x ≤ y) (z_const (0) (B_X6_isNearer_87 b n0 cy P A)) (z_const (1) (B_X6_isNearer_87 b n0 cy P A))))))))))))] (z_iload 4 (z_iload 2 (z_bin (fun x y => x - y) (z_const (6) (z_bin (fun x y => x + y) (z_const (6) (z_bin0 (fun x y => x - x / y * y) (z_iload 5 (z_iload 2 (z_bin (fun x y => x - y) (z_const (6) (z_bin (fun x y => x + y) (z_const (6) (z_bin0 (fun x y => x - x / y * y) (z_icmp (fun x y => y ≤ x) (z_const (0) (B_X6_isNearer_116 b n0 cy P A)) (z_const (1) (B_X6_isNearer_116 b n0 cy P A))))))))))))))))))
def zVC_X6_isNearer (sp : zSp) : Prop := ∀ (b : Nat) (cy : zY) (n : Nat) (as : List Value) (E : zE) (P : zPo) (A : Nat → zC), sp b cy as n E P → zgood as 6 ∧ B_X6_isNearer_0 b n cy P A (lv_args 0 as) [] 0 0 E

set_option maxRecDepth 100000 in
set_option maxHeartbeats 4000000 in
theorem vc_X6_isNearer : zVC_X6_isNearer sp_X6_isNearer := by
  intro b cy N as E P A hsp
  obtain ⟨n, lo, la, c, i, r, by0, q, f, rfl, hR, ⟨L, g, hL, hL2, hE, hc⟩, hok, hi, hr, hq, hf, hby, hP⟩ := hsp
  refine ⟨⟨Nat.le_of_ble_eq_true rfl, zg1 rfl (zg1 rfl (zg1 rfl (zg1 rfl (zg1 rfl (zg1 rfl (zg0))))))⟩, ?_⟩
  obtain ⟨⟨tr, ty, lt, qq, st, so, va, fa, se, e0⟩, _, ⟨lf, e3, e3'⟩, _, hn, hlo, hN⟩ := id hR
  have N0 : 159 < N := by omega
  have N3 : 163 < N := by omega
  obtain ⟨_, c4, _, _⟩ := zCm0 hc
  have k4 : (4 : Int32) = nI 4 := rfl
  have k6 : (6 : Int32) = nI 6 := rfl
  have iin : ∀ j, j < 6 → vp_in (nI (4 + j)) L := fun j hj => vp_in_nI (by omega) (by omega)
  have icl : ∀ j, j < 6 → (nI (4 + j)).toNatClampNeg = 4 + j := fun j hj => nI_clamp (by omega)
  have s9 := fun j hj => hok.2.2.2.2.1 j hj
  have sr := s9 r hr
  have sq := s9 q hq
  have sf := s9 f hf
  have s00 : (nI 0 = 0) = True := eq_true (by decide)
  have s10 : (nI 1 = 0) = False := eq_false (by decide)
  have s11 : (nI 1 = 1) = True := eq_true (by decide)
  have s20 : (nI 2 = 0) = False := eq_false (by decide)
  have s21 : (nI 2 = 1) = False := eq_false (by decide)
  simp only [B_X6_isNearer_0, e_iload, e_sw, e_argi, e_argr, e_argn, zld_c, Nat.reduceAdd, Nat.reduceEqDiff, reduceIte, if_false, if_true]
  rcases (show by0 = 0 ∨ by0 = 1 ∨ by0 = 2 by omega) with rfl | rfl | rfl
  · rw [e_swt (by decide)]
    simp only [B_X6_isNearer_64, e_cut, e_iload, e_aload, e_istore, e_astore, e_iinc, e_const, e_lconst, e_bin, e_bin0, e_un, e_ladd, e_dupi, e_dupr, e_dup2, e_pop, e_if, e_icmp, e_sw, e_sw0, e_sw1, e_get, e_put, e_ald, e_ast, e_aald, e_aast, e_copy, e_new, e_newa, e_anewa, e_min, e_abs, e_oinit, e_callI, e_callV, e_callS, e_iret, e_zret, e_lret, e_vret, e_tl1, e_tl0, e_tl2, e_tl3, z10, Bool.false_eq_true, e_argi, e_argr, e_argn, zld_c, zst_n, zst_c, zpick_n, zpick_c, List.drop_succ_cons, List.drop_zero, List.take_succ_cons, List.take_zero, List.length_cons, List.length_nil, List.reverse_cons, List.reverse_nil, List.nil_append, List.cons_append, List.append_nil, List.getElem?_cons_zero, List.getElem?_cons_succ, List.set_cons_zero, List.set_cons_succ, Nat.add_sub_cancel_left, Nat.sub_self, Nat.add_zero, Nat.zero_add, Nat.le_add_right, Nat.le_refl, true_and, and_true, va_rf, zok, Nat.add_left_cancel_iff, Nat.add_eq_left, Nat.left_eq_add, eq_self, if_true, if_false, not_false_eq_true, not_true_eq_false, false_implies, true_implies, Nat.reduceEqDiff, Nat.reduceAdd, Nat.reduceLT, Nat.reduceLeDiff, reduceIte, hE, hi, k4, nI_add, iin r (by omega), iin q (by omega), icl r (by omega), icl q (by omega), c4 r hr, c4 q hq]
    refine ⟨_, _, rfl, by omega, by omega, ?_⟩
    simp only [e_cut, e_iload, e_aload, e_istore, e_astore, e_iinc, e_const, e_lconst, e_bin, e_bin0, e_un, e_ladd, e_dupi, e_dupr, e_dup2, e_pop, e_if, e_icmp, e_sw, e_sw0, e_sw1, e_get, e_put, e_ald, e_ast, e_aald, e_aast, e_copy, e_new, e_newa, e_anewa, e_min, e_abs, e_oinit, e_callI, e_callV, e_callS, e_iret, e_zret, e_lret, e_vret, e_tl1, e_tl0, e_tl2, e_tl3, z10, Bool.false_eq_true, e_argi, e_argr, e_argn, zld_c, zst_n, zst_c, zpick_n, zpick_c, List.drop_succ_cons, List.drop_zero, List.take_succ_cons, List.take_zero, List.length_cons, List.length_nil, List.reverse_cons, List.reverse_nil, List.nil_append, List.cons_append, List.append_nil, List.getElem?_cons_zero, List.getElem?_cons_succ, List.set_cons_zero, List.set_cons_succ, Nat.add_sub_cancel_left, Nat.sub_self, Nat.add_zero, Nat.zero_add, Nat.le_add_right, Nat.le_refl, true_and, and_true, va_rf, zok, Nat.add_left_cancel_iff, Nat.add_eq_left, Nat.left_eq_add, eq_self, if_true, if_false, not_false_eq_true, not_true_eq_false, false_implies, true_implies, Nat.reduceEqDiff, Nat.reduceAdd, Nat.reduceLT, Nat.reduceLeDiff, reduceIte, hE, hi, nI_add, iin r (by omega), iin f (by omega), icl r (by omega), icl f (by omega), c4 r hr, c4 f hf]
    refine ⟨_, _, rfl, by omega, by omega, ?_⟩
    have z1 : zad (c (4 + r)) (c (4 + f)) < 1000 := by unfold zad; omega
    have z2 : zad (c (4 + r)) (c (4 + q)) < 1000 := by unfold zad; omega
    simp only [e_cut, e_iload, e_aload, e_istore, e_astore, e_iinc, e_const, e_lconst, e_bin, e_bin0, e_un, e_ladd, e_dupi, e_dupr, e_dup2, e_pop, e_if, e_icmp, e_sw, e_sw0, e_sw1, e_get, e_put, e_ald, e_ast, e_aald, e_aast, e_copy, e_new, e_newa, e_anewa, e_min, e_abs, e_oinit, e_callI, e_callV, e_callS, e_iret, e_zret, e_lret, e_vret, e_tl1, e_tl0, e_tl2, e_tl3, z10, Bool.false_eq_true, e_argi, e_argr, e_argn, zld_c, zst_n, zst_c, zpick_n, zpick_c, List.drop_succ_cons, List.drop_zero, List.take_succ_cons, List.take_zero, List.length_cons, List.length_nil, List.reverse_cons, List.reverse_nil, List.nil_append, List.cons_append, List.append_nil, List.getElem?_cons_zero, List.getElem?_cons_succ, List.set_cons_zero, List.set_cons_succ, Nat.add_sub_cancel_left, Nat.sub_self, Nat.add_zero, Nat.zero_add, Nat.le_add_right, Nat.le_refl, true_and, and_true, va_rf, zok, Nat.add_left_cancel_iff, Nat.add_eq_left, Nat.left_eq_add, eq_self, if_true, if_false, not_false_eq_true, not_true_eq_false, false_implies, true_implies, Nat.reduceEqDiff, Nat.reduceAdd, Nat.reduceLT, Nat.reduceLeDiff, reduceIte, nI_leI (show zad (c (4 + r)) (c (4 + f)) < 2 ^ 31 by omega) (show zad (c (4 + r)) (c (4 + q)) < 2 ^ 31 by omega)]
    refine ⟨fun c2 => ?_, fun c2 => ?_⟩
    · rw [if_neg (by simp [zbt]; rw [zad_comm (c (4 + q)), zad_comm (c (4 + f))]; exact c2)] at hP; exact ⟨Or.inl trivial, hP⟩
    · rw [if_pos (by simp [zbt]; rw [zad_comm (c (4 + q)), zad_comm (c (4 + f))]; omega)] at hP; exact ⟨Or.inr trivial, hP⟩
  · have jin : ∀ j, j < 6 → vp_in (nI j) 12 := fun j hj => vp_in_nI (by omega) (by omega)
    have jcl : ∀ j, j < 6 → (nI j).toNatClampNeg = j := fun j hj => nI_clamp (by omega)
    have l1 := (hlo q hq).1
    have l2 := (hlo f hf).1
    rw [e_swf (by decide), e_swt (by decide)]
    simp only [B_X6_isNearer_87, e_cut, e_iload, e_aload, e_istore, e_astore, e_iinc, e_const, e_lconst, e_bin, e_bin0, e_un, e_ladd, e_dupi, e_dupr, e_dup2, e_pop, e_if, e_icmp, e_sw, e_sw0, e_sw1, e_get, e_put, e_ald, e_ast, e_aald, e_aast, e_copy, e_new, e_newa, e_anewa, e_min, e_abs, e_oinit, e_callI, e_callV, e_callS, e_iret, e_zret, e_lret, e_vret, e_tl1, e_tl0, e_tl2, e_tl3, z10, Bool.false_eq_true, e_argi, e_argr, e_argn, zld_c, zst_n, zst_c, zpick_n, zpick_c, List.drop_succ_cons, List.drop_zero, List.take_succ_cons, List.take_zero, List.length_cons, List.length_nil, List.reverse_cons, List.reverse_nil, List.nil_append, List.cons_append, List.append_nil, List.getElem?_cons_zero, List.getElem?_cons_succ, List.set_cons_zero, List.set_cons_succ, Nat.add_sub_cancel_left, Nat.sub_self, Nat.add_zero, Nat.zero_add, Nat.le_add_right, Nat.le_refl, true_and, and_true, va_rf, zok, Nat.add_left_cancel_iff, Nat.add_eq_left, Nat.left_eq_add, eq_self, if_true, if_false, not_false_eq_true, not_true_eq_false, false_implies, true_implies, Nat.reduceEqDiff, Nat.reduceAdd, Nat.reduceLT, Nat.reduceLeDiff, reduceIte, zM0, jin q (by omega), jin f (by omega), jcl q (by omega), jcl f (by omega), e3' q hq, e3' f hf, e0, N0, N3, e3, nI_leI (show lo q < 2 ^ 31 by omega) (show lo f < 2 ^ 31 by omega)]
    refine ⟨fun c2 => ?_, fun c2 => ?_⟩
    · rw [if_neg (by simp [zbt]; exact c2)] at hP; exact ⟨Or.inl trivial, hP⟩
    · rw [if_pos (by simp [zbt]; omega)] at hP; exact ⟨Or.inr trivial, hP⟩
  · have k60 : ¬ nI 6 = 0 := by decide
    have m1 : (q + 6 - r) % 6 < 6 := Nat.mod_lt _ (by omega)
    have m2 : (f + 6 - r) % 6 < 6 := Nat.mod_lt _ (by omega)
    rw [e_swf (by decide), e_swf (by decide), e_sw0]
    simp only [B_X6_isNearer_116, e_cut, e_iload, e_aload, e_istore, e_astore, e_iinc, e_const, e_lconst, e_bin, e_bin0, e_un, e_ladd, e_dupi, e_dupr, e_dup2, e_pop, e_if, e_icmp, e_sw, e_sw0, e_sw1, e_get, e_put, e_ald, e_ast, e_aald, e_aast, e_copy, e_new, e_newa, e_anewa, e_min, e_abs, e_oinit, e_callI, e_callV, e_callS, e_iret, e_zret, e_lret, e_vret, e_tl1, e_tl0, e_tl2, e_tl3, z10, Bool.false_eq_true, e_argi, e_argr, e_argn, zld_c, zst_n, zst_c, zpick_n, zpick_c, List.drop_succ_cons, List.drop_zero, List.take_succ_cons, List.take_zero, List.length_cons, List.length_nil, List.reverse_cons, List.reverse_nil, List.nil_append, List.cons_append, List.append_nil, List.getElem?_cons_zero, List.getElem?_cons_succ, List.set_cons_zero, List.set_cons_succ, Nat.add_sub_cancel_left, Nat.sub_self, Nat.add_zero, Nat.zero_add, Nat.le_add_right, Nat.le_refl, true_and, and_true, va_rf, zok, Nat.add_left_cancel_iff, Nat.add_eq_left, Nat.left_eq_add, eq_self, if_true, if_false, not_false_eq_true, not_true_eq_false, false_implies, true_implies, Nat.reduceEqDiff, Nat.reduceAdd, Nat.reduceLT, Nat.reduceLeDiff, reduceIte, k6, k60, zsh6 (show q < 6 by omega) (show r < 6 by omega), zsh6 (show f < 6 by omega) (show r < 6 by omega), pk_rem (show q + 6 - r < 2 ^ 31 by omega) (show 0 < 6 by omega) (by omega), pk_rem (show f + 6 - r < 2 ^ 31 by omega) (show 0 < 6 by omega) (by omega), nI_leI (show (f + 6 - r) % 6 < 2 ^ 31 by omega) (show (q + 6 - r) % 6 < 2 ^ 31 by omega)]
    refine ⟨fun c2 => ?_, fun c2 => ?_⟩
    · rw [if_neg (by simp [zbt]; exact c2)] at hP; exact ⟨Or.inl trivial, hP⟩
    · rw [if_pos (by simp [zbt]; omega)] at hP; exact ⟨Or.inr trivial, hP⟩
set_option maxRecDepth 20000 in
theorem f_X6_isNearer_20 : Cond.fieldLink RX6 20 (TX6 5).1 (TX6 5).2.1 (TX6 5).2.2.1 ∈ wsX6_isNearer := by decide +kernel
set_option maxRecDepth 20000 in
theorem k_X6_isNearer_6 : ∀ w ∈ u_ws RX6 TX6 21, w ∈ wsX6_isNearer := fun _ h => List.mem_cons_of_mem _ (List.mem_append_right _ h)
set_option maxRecDepth 100000 in
set_option maxHeartbeats 4000000 in
theorem S_X6_isNearer_116 {p : Program} {e : Env} {s : State} {m : MethodId} {args : Array Value} {below : List Frame} {meth : Method} {c : Code} {D : va_G} {cy : zY} {b n0 : Nat} {P : zPo} (la : Launch) (X : zX p la e (rm_X6_isNearer) s m args below meth c 6 D cy b n0 cX6_isNearer wsX6_isNearer RX6) (hr : meth.sig.returnType = (some .boolean)) (h_X6_apart : zMet la yX6_apart wsX6_apart rm_X6_apart 0 0 sp_X6_apart) : zS p la e (rm_X6_isNearer) s m args below meth c (MQ below (zQ D b (n0 + 0) P) args s 0 0 (fun q => b ≤ q)) 6 D b n0 116 (B_X6_isNearer_116 b n0 cy P (zAt p la e (rm_X6_isNearer) s m args below meth c (MQ below (zQ D b (n0 + 0) P) args s 0 0 (fun q => b ≤ q)) 6 D b n0)) := by
  unfold B_X6_isNearer_116
  exact (s_zret X dX6_isNearer_116 hr)
set_option maxRecDepth 100000 in
set_option maxHeartbeats 4000000 in
theorem S_X6_isNearer_87 {p : Program} {e : Env} {s : State} {m : MethodId} {args : Array Value} {below : List Frame} {meth : Method} {c : Code} {D : va_G} {cy : zY} {b n0 : Nat} {P : zPo} (la : Launch) (X : zX p la e (rm_X6_isNearer) s m args below meth c 6 D cy b n0 cX6_isNearer wsX6_isNearer RX6) (hr : meth.sig.returnType = (some .boolean)) (h_X6_apart : zMet la yX6_apart wsX6_apart rm_X6_apart 0 0 sp_X6_apart) : zS p la e (rm_X6_isNearer) s m args below meth c (MQ below (zQ D b (n0 + 0) P) args s 0 0 (fun q => b ≤ q)) 6 D b n0 87 (B_X6_isNearer_87 b n0 cy P (zAt p la e (rm_X6_isNearer) s m args below meth c (MQ below (zQ D b (n0 + 0) P) args s 0 0 (fun q => b ≤ q)) 6 D b n0)) := by
  unfold B_X6_isNearer_87
  exact (s_zret X dX6_isNearer_87 hr)
set_option maxRecDepth 100000 in
set_option maxHeartbeats 4000000 in
theorem S_X6_isNearer_64 {p : Program} {e : Env} {s : State} {m : MethodId} {args : Array Value} {below : List Frame} {meth : Method} {c : Code} {D : va_G} {cy : zY} {b n0 : Nat} {P : zPo} (la : Launch) (X : zX p la e (rm_X6_isNearer) s m args below meth c 6 D cy b n0 cX6_isNearer wsX6_isNearer RX6) (hr : meth.sig.returnType = (some .boolean)) (h_X6_apart : zMet la yX6_apart wsX6_apart rm_X6_apart 0 0 sp_X6_apart) : zS p la e (rm_X6_isNearer) s m args below meth c (MQ below (zQ D b (n0 + 0) P) args s 0 0 (fun q => b ≤ q)) 6 D b n0 64 (B_X6_isNearer_64 b n0 cy P (zAt p la e (rm_X6_isNearer) s m args below meth c (MQ below (zQ D b (n0 + 0) P) args s 0 0 (fun q => b ≤ q)) 6 D b n0)) := by
  unfold B_X6_isNearer_64
  exact (s_zret X dX6_isNearer_64 hr)
set_option maxRecDepth 100000 in
set_option maxHeartbeats 4000000 in
theorem S_X6_isNearer_0 {p : Program} {e : Env} {s : State} {m : MethodId} {args : Array Value} {below : List Frame} {meth : Method} {c : Code} {D : va_G} {cy : zY} {b n0 : Nat} {P : zPo} (la : Launch) (X : zX p la e (rm_X6_isNearer) s m args below meth c 6 D cy b n0 cX6_isNearer wsX6_isNearer RX6) (hr : meth.sig.returnType = (some .boolean)) (h_X6_apart : zMet la yX6_apart wsX6_apart rm_X6_apart 0 0 sp_X6_apart) : zS p la e (rm_X6_isNearer) s m args below meth c (MQ below (zQ D b (n0 + 0) P) args s 0 0 (fun q => b ≤ q)) 6 D b n0 0 (B_X6_isNearer_0 b n0 cy P (zAt p la e (rm_X6_isNearer) s m args below meth c (MQ below (zQ D b (n0 + 0) P) args s 0 0 (fun q => b ≤ q)) 6 D b n0)) := by
  unfold B_X6_isNearer_0
  exact (s_iload_n X dX6_isNearer_0 rfl (s_lookup X dX6_isNearer_1 (by decide) (fun x hx => by have q0 := hx (0, _) (List.mem_of_getElem? (i := 0) rfl); have q1 := hx (1, _) (List.mem_of_getElem? (i := 1) rfl); show Op.lookupswitch.offset [(0, 27), (1, 64)] (87) x.toInt = (87); rw [lv_osw q0 (a := 0) rfl, lv_osw q1 (a := 1) rfl]; rfl) (by decide) (s_iload X dX6_isNearer_88 (s_iload_n X dX6_isNearer_90 rfl (s_isub X dX6_isNearer_91 (s_bipush X dX6_isNearer_92 (by decide) (s_iadd X dX6_isNearer_94 (s_bipush X dX6_isNearer_95 (by decide) (s_irem X dX6_isNearer_97 (s_iload X dX6_isNearer_98 (s_iload_n X dX6_isNearer_100 rfl (s_isub X dX6_isNearer_101 (s_bipush X dX6_isNearer_102 (by decide) (s_iadd X dX6_isNearer_104 (s_bipush X dX6_isNearer_105 (by decide) (s_irem X dX6_isNearer_107 (s_icmp_ge X dX6_isNearer_108 (by decide) (s_iconst X dX6_isNearer_115 (by decide) (S_X6_isNearer_116 la X hr h_X6_apart)) (s_iconst X dX6_isNearer_111 (by decide) (s_goto X dX6_isNearer_112 (by decide) (S_X6_isNearer_116 la X hr h_X6_apart)))))))))))))))))) (List.forall_mem_cons.mpr ⟨⟨27, 28, (show Op.lookupswitch.offset [(0, 27), (1, 64)] (87) (0 : Int32).toInt = 27 from by decide +kernel), by decide, (s_aload_n X dX6_isNearer_28 rfl (s_iconst X dX6_isNearer_29 (by decide) (s_iload_n X dX6_isNearer_30 rfl (s_iadd X dX6_isNearer_31 (s_iald X dX6_isNearer_32 (s_aload_n X dX6_isNearer_33 rfl (s_iconst X dX6_isNearer_34 (by decide) (s_iload X dX6_isNearer_35 (s_iadd X dX6_isNearer_37 (s_iald X dX6_isNearer_38 (s_callS X h_X6_apart dX6_isNearer_39 gX6_isNearer_X6_apart rfl rfl rfl (by decide +kernel) ⟨by decide, by decide⟩ (s_aload_n X dX6_isNearer_42 rfl (s_iconst X dX6_isNearer_43 (by decide) (s_iload_n X dX6_isNearer_44 rfl (s_iadd X dX6_isNearer_45 (s_iald X dX6_isNearer_46 (s_aload_n X dX6_isNearer_47 rfl (s_iconst X dX6_isNearer_48 (by decide) (s_iload X dX6_isNearer_49 (s_iadd X dX6_isNearer_51 (s_iald X dX6_isNearer_52 (s_callS X h_X6_apart dX6_isNearer_53 gX6_isNearer_X6_apart rfl rfl rfl (by decide +kernel) ⟨by decide, by decide⟩ (s_icmp_ge X dX6_isNearer_56 (by decide) (s_iconst X dX6_isNearer_63 (by decide) (S_X6_isNearer_64 la X hr h_X6_apart)) (s_iconst X dX6_isNearer_59 (by decide) (s_goto X dX6_isNearer_60 (by decide) (S_X6_isNearer_64 la X hr h_X6_apart))))))))))))))))))))))))))⟩, List.forall_mem_cons.mpr ⟨⟨64, 65, (show Op.lookupswitch.offset [(0, 27), (1, 64)] (87) (1 : Int32).toInt = 64 from by decide +kernel), by decide, (s_aload_n X dX6_isNearer_65 rfl (s_get X dX6_isNearer_66 rfl k_X6_isNearer_6 (by decide) f_X6_isNearer_20 (s_iload X dX6_isNearer_69 (s_iald X dX6_isNearer_71 (s_aload_n X dX6_isNearer_72 rfl (s_get X dX6_isNearer_73 rfl k_X6_isNearer_6 (by decide) f_X6_isNearer_20 (s_iload X dX6_isNearer_76 (s_iald X dX6_isNearer_78 (s_icmp_le X dX6_isNearer_79 (by decide) (s_iconst X dX6_isNearer_86 (by decide) (S_X6_isNearer_87 la X hr h_X6_apart)) (s_iconst X dX6_isNearer_82 (by decide) (s_goto X dX6_isNearer_83 (by decide) (S_X6_isNearer_87 la X hr h_X6_apart))))))))))))⟩, fun _ h => absurd h List.not_mem_nil⟩⟩)))
theorem w_X6_isNearer (la : Launch) (h_X6_apart : zMet la yX6_apart wsX6_apart rm_X6_apart 0 0 sp_X6_apart) (sp : zSp) (vc : zVC_X6_isNearer sp) : zMet la yX6_isNearer wsX6_isNearer (rm_X6_isNearer) 0 0 sp :=
  z_of (cc := cX6_isNearer) (maxL := 6) (ret := (some .boolean)) (by decide +kernel) rfl (fun p e s m args below meth c D cy b n as E P hsp X hr hin => by
    obtain ⟨h1, h2⟩ := vc b cy n as E P (zAt p la e (rm_X6_isNearer) s m args below meth c (MQ below (zQ D b (n + 0) P) args s 0 0 (fun q => b ≤ q)) 6 D b n) hsp
    exact ⟨h1, S_X6_isNearer_0 la X hr h_X6_apart _ _ _ _ _ h2⟩)

theorem m_X6_isNearer (la : Launch) : zMet la yX6_isNearer wsX6_isNearer rm_X6_isNearer 0 0 sp_X6_isNearer := w_X6_isNearer la (m_X6_apart la) _ vc_X6_isNearer
def sp_X6_whom : zSp := fun b cy as N E P => ∃ (n : Nat) (lo la c : Nat → Nat) (i r by0 : Nat), as = [.ref (b + 159), .ref (b + i), .int (nI r), .int (nI by0)] ∧ zMR b cy N E n lo la ∧ zAr cy E i n c ∧ zMok n c ∧ i < N ∧ r < n ∧ by0 ≤ 2 ∧ P (some (.int (zrv (zwho n lo c r (c (4 + r)) by0)))) E
abbrev rm_X6_whom : Room := { frames := 3, cells := 0, slots := 0, locals := 86 }
def B_X6_whom_74 (b n0 : Nat) (cy : zY) (P : zPo) (A : Nat → zC) : zC :=
  z_istore 4 (z_iinc 5 (1) (z_cut [0, 1, 2, 3, 4, 5] (A 7)))
def B_X6_whom_72 (b n0 : Nat) (cy : zY) (P : zPo) (A : Nat → zC) : zC :=
  z_iload 4 (B_X6_whom_74 b n0 cy P A)
def B_X6_whom_67 (b n0 : Nat) (cy : zY) (P : zPo) (A : Nat → zC) : zC :=
  z_iload 5 (B_X6_whom_74 b n0 cy P A)
def B_X6_whom_39 (b n0 : Nat) (cy : zY) (P : zPo) (A : Nat → zC) : zC :=
  z_istore 6 (z_iload 6 (z_if (fun x => x = 0) (B_X6_whom_72 b n0 cy P A) (z_iload 4 (z_const (-9) (z_icmp (fun x y => x = y) (B_X6_whom_67 b n0 cy P A) (z_aload 0 (z_aload 1 (z_iload 2 (z_iload 3 (z_iload 5 (z_iload 4 (z_callV b n0 0 0 cy 6 5 0 0 sp_X6_isNearer (z_if (fun x => x = 0) (B_X6_whom_72 b n0 cy P A) (B_X6_whom_67 b n0 cy P A))))))))))))))
def B_X6_whom_38 (b n0 : Nat) (cy : zY) (P : zPo) (A : Nat → zC) : zC :=
  z_const (0) (B_X6_whom_39 b n0 cy P A)
def B_X6_whom_7 (b n0 : Nat) (cy : zY) (P : zPo) (A : Nat → zC) : zC :=
  z_iload 5 (z_aload 0 (z_get b n0 6 3 (z_const (0) (z_ald b n0 (cy 1) (z_icmp (fun x y => y ≤ x) (z_iload 4 (z_iret 0 0 P)) (z_iload 5 (z_iload 2 (z_icmp (fun x y => x = y) (B_X6_whom_38 b n0 cy P A) (z_aload 0 (z_aload 1 (z_iload 5 (z_callV b n0 0 0 cy 6 2 0 0 sp_X6_isAboard (z_if (fun x => x = 0) (B_X6_whom_38 b n0 cy P A) (z_const (1) (B_X6_whom_39 b n0 cy P A)))))))))))))))
def B_X6_whom_0 (b n0 : Nat) (cy : zY) (P : zPo) (A : Nat → zC) : zC :=
  z_const (-9) (z_istore 4 (z_const (0) (z_istore 5 (z_cut [0, 1, 2, 3, 4, 5] (A 7)))))
def zVC_X6_whom (sp : zSp) : Prop := ∀ (b : Nat) (cy : zY) (n : Nat) (as : List Value) (E : zE) (P : zPo) (A : Nat → zC), (∀ l st k u E, B_X6_whom_7 b n cy P A l st k u E → A 7 l st k u E) → sp b cy as n E P → zgood as 7 ∧ B_X6_whom_0 b n cy P A (lv_args 0 as) [] 0 0 E

set_option maxRecDepth 100000 in
set_option maxHeartbeats 4000000 in
theorem vc_X6_whom : zVC_X6_whom sp_X6_whom := by
  intro b cy N as E P A hA hsp
  obtain ⟨n, lo, la, c, i, r, by0, rfl, hR, hAr, hok, hi, hr, hby, hP⟩ := hsp
  refine ⟨⟨Nat.le_of_ble_eq_true rfl, zg1 rfl (zg1 rfl (zg1 rfl (zg1 rfl (zg0))))⟩, ?_⟩
  obtain ⟨⟨tr, ty, lt, qq, st, so, va, fa, se, e0⟩, ⟨rf, e1, e1'⟩, _, _, hn, hlo, hN⟩ := id hR
  have N0 : 159 < N := by omega
  have N1 : 161 < N := by omega
  have hin : vp_in 0 2 := (vp_in_nI (show 0 < 2 by omega) (by omega) : vp_in (nI 0) 2)
  have hcl : (0 : Int32).toNatClampNeg = 0 := by decide
  have hz : zwho n lo c r (c (4 + r)) by0 = zfo (fun q => decide (q ≠ r) && (c 1).testBit q) (zbt lo c r (c (4 + r)) by0) n := rfl
  rw [hz] at hP
  generalize hok1 : (fun q => decide (q ≠ r) && (c 1).testBit q) = ok at hP
  generalize hbt1 : zbt lo c r (c (4 + r)) by0 = bt at hP
  have loop : ∀ (d k : Nat) (hd : d + k = n), A 7 [(0, .ref (b + 159)), (1, .ref (b + i)), (2, .int (nI r)), (3, .int (nI by0)), (4, .int (zrv (zfo ok bt k))), (5, .int (nI k))] [] 0 0 E := by
    intro d
    induction d with
    | zero =>
      intro k hd
      obtain rfl : k = n := by omega
      apply hA
      have cle : nI k ≤ nI k := nI_le (Nat.le_refl _) (by omega)
      simp only [B_X6_whom_0, B_X6_whom_7, B_X6_whom_38, B_X6_whom_39, B_X6_whom_67, B_X6_whom_72, B_X6_whom_74, e_cut, e_iload, e_aload, e_istore, e_astore, e_iinc, e_const, e_lconst, e_bin, e_bin0, e_un, e_ladd, e_dupi, e_dupr, e_dup2, e_pop, e_if, e_icmp, e_sw, e_sw0, e_sw1, e_get, e_put, e_ald, e_ast, e_aald, e_aast, e_copy, e_new, e_newa, e_anewa, e_min, e_abs, e_oinit, e_callI, e_callV, e_callS, e_iret, e_zret, e_lret, e_vret, e_tl1, e_tl0, e_tl2, e_tl3, z10, Bool.false_eq_true, e_argi, e_argr, e_argn, zld_c, zst_n, zst_c, zpick_n, zpick_c, List.drop_succ_cons, List.drop_zero, List.take_succ_cons, List.take_zero, List.length_cons, List.length_nil, List.reverse_cons, List.reverse_nil, List.nil_append, List.cons_append, List.append_nil, List.getElem?_cons_zero, List.getElem?_cons_succ, List.set_cons_zero, List.set_cons_succ, Nat.add_sub_cancel_left, Nat.sub_self, Nat.add_zero, Nat.zero_add, Nat.le_add_right, Nat.le_refl, true_and, and_true, va_rf, zok, Nat.add_left_cancel_iff, Nat.add_eq_left, Nat.left_eq_add, eq_self, if_true, if_false, not_false_eq_true, not_true_eq_false, false_implies, true_implies, Nat.reduceEqDiff, Nat.reduceAdd, Nat.reduceLT, Nat.reduceLeDiff, reduceIte, zM0, e0, N0, N1, e1, e1', hin, hcl, cle]
      exact hP
    | succ d ih =>
      intro k hd
      have hk : k < n := by omega
      apply hA
      have cle : ¬ nI n ≤ nI k := nI_ge hk (by omega)
      simp only [B_X6_whom_0, B_X6_whom_7, B_X6_whom_38, B_X6_whom_39, B_X6_whom_67, B_X6_whom_72, B_X6_whom_74, e_cut, e_iload, e_aload, e_istore, e_astore, e_iinc, e_const, e_lconst, e_bin, e_bin0, e_un, e_ladd, e_dupi, e_dupr, e_dup2, e_pop, e_if, e_icmp, e_sw, e_sw0, e_sw1, e_get, e_put, e_ald, e_ast, e_aald, e_aast, e_copy, e_new, e_newa, e_anewa, e_min, e_abs, e_oinit, e_callI, e_callV, e_callS, e_iret, e_zret, e_lret, e_vret, e_tl1, e_tl0, e_tl2, e_tl3, z10, Bool.false_eq_true, e_argi, e_argr, e_argn, zld_c, zst_n, zst_c, zpick_n, zpick_c, List.drop_succ_cons, List.drop_zero, List.take_succ_cons, List.take_zero, List.length_cons, List.length_nil, List.reverse_cons, List.reverse_nil, List.nil_append, List.cons_append, List.append_nil, List.getElem?_cons_zero, List.getElem?_cons_succ, List.set_cons_zero, List.set_cons_succ, Nat.add_sub_cancel_left, Nat.sub_self, Nat.add_zero, Nat.zero_add, Nat.le_add_right, Nat.le_refl, true_and, and_true, va_rf, zok, Nat.add_left_cancel_iff, Nat.add_eq_left, Nat.left_eq_add, eq_self, if_true, if_false, not_false_eq_true, not_true_eq_false, false_implies, true_implies, Nat.reduceEqDiff, Nat.reduceAdd, Nat.reduceLT, Nat.reduceLeDiff, reduceIte, zM0, e0, N0, N1, e1, e1', hin, hcl, cle, nI_eq (show k < 2 ^ 31 by omega) (show r < 2 ^ 31 by omega), nI_1]
      refine ⟨fun c1 => ?_, fun c1 => ?_⟩
      · have e : zfo ok bt (k + 1) = zfo ok bt k := zfo_no (by rw [← hok1]; simp [c1])
        have h9 := ih (k + 1) (by omega)
        rw [e] at h9; exact h9
      · refine ⟨i, k, n, c, rfl, hAr, hi, by omega, hok.l64, ?_⟩
        by_cases q1 : (c 1).testBit k = true
        · have hokk : ok k = true := by rw [← hok1]; simp [c1, q1]
          cases hz : zfo ok bt k with
          | none =>
            simp only [e_cut, e_iload, e_aload, e_istore, e_astore, e_iinc, e_const, e_lconst, e_bin, e_bin0, e_un, e_ladd, e_dupi, e_dupr, e_dup2, e_pop, e_if, e_icmp, e_sw, e_sw0, e_sw1, e_get, e_put, e_ald, e_ast, e_aald, e_aast, e_copy, e_new, e_newa, e_anewa, e_min, e_abs, e_oinit, e_callI, e_callV, e_callS, e_iret, e_zret, e_lret, e_vret, e_tl1, e_tl0, e_tl2, e_tl3, z10, Bool.false_eq_true, e_argi, e_argr, e_argn, zld_c, zst_n, zst_c, zpick_n, zpick_c, List.drop_succ_cons, List.drop_zero, List.take_succ_cons, List.take_zero, List.length_cons, List.length_nil, List.reverse_cons, List.reverse_nil, List.nil_append, List.cons_append, List.append_nil, List.getElem?_cons_zero, List.getElem?_cons_succ, List.set_cons_zero, List.set_cons_succ, Nat.add_sub_cancel_left, Nat.sub_self, Nat.add_zero, Nat.zero_add, Nat.le_add_right, Nat.le_refl, true_and, and_true, va_rf, zok, Nat.add_left_cancel_iff, Nat.add_eq_left, Nat.left_eq_add, eq_self, if_true, if_false, not_false_eq_true, not_true_eq_false, false_implies, true_implies, Nat.reduceEqDiff, Nat.reduceAdd, Nat.reduceLT, Nat.reduceLeDiff, reduceIte, q1, zrv, nI_1]
            have e : zfo ok bt (k + 1) = some k := zfo_n hokk hz
            have h9 := ih (k + 1) (by omega)
            rw [e] at h9; exact h9
          | some f0 =>
            have hf0 := (zfo_lt hz).1
            simp only [e_cut, e_iload, e_aload, e_istore, e_astore, e_iinc, e_const, e_lconst, e_bin, e_bin0, e_un, e_ladd, e_dupi, e_dupr, e_dup2, e_pop, e_if, e_icmp, e_sw, e_sw0, e_sw1, e_get, e_put, e_ald, e_ast, e_aald, e_aast, e_copy, e_new, e_newa, e_anewa, e_min, e_abs, e_oinit, e_callI, e_callV, e_callS, e_iret, e_zret, e_lret, e_vret, e_tl1, e_tl0, e_tl2, e_tl3, z10, Bool.false_eq_true, e_argi, e_argr, e_argn, zld_c, zst_n, zst_c, zpick_n, zpick_c, List.drop_succ_cons, List.drop_zero, List.take_succ_cons, List.take_zero, List.length_cons, List.length_nil, List.reverse_cons, List.reverse_nil, List.nil_append, List.cons_append, List.append_nil, List.getElem?_cons_zero, List.getElem?_cons_succ, List.set_cons_zero, List.set_cons_succ, Nat.add_sub_cancel_left, Nat.sub_self, Nat.add_zero, Nat.zero_add, Nat.le_add_right, Nat.le_refl, true_and, and_true, va_rf, zok, Nat.add_left_cancel_iff, Nat.add_eq_left, Nat.left_eq_add, eq_self, if_true, if_false, not_false_eq_true, not_true_eq_false, false_implies, true_implies, Nat.reduceEqDiff, Nat.reduceAdd, Nat.reduceLT, Nat.reduceLeDiff, reduceIte, q1, zrv, zrv_nn (show f0 < 6 by omega), nI_1, zM0, e0, N0]
            refine ⟨n, lo, la, c, i, r, by0, k, f0, rfl, hR, hAr, hok, hi, hr, hk, by omega, hby, ?_⟩
            rw [hbt1]
            by_cases q2 : bt k f0 = true
            · simp only [e_cut, e_iload, e_aload, e_istore, e_astore, e_iinc, e_const, e_lconst, e_bin, e_bin0, e_un, e_ladd, e_dupi, e_dupr, e_dup2, e_pop, e_if, e_icmp, e_sw, e_sw0, e_sw1, e_get, e_put, e_ald, e_ast, e_aald, e_aast, e_copy, e_new, e_newa, e_anewa, e_min, e_abs, e_oinit, e_callI, e_callV, e_callS, e_iret, e_zret, e_lret, e_vret, e_tl1, e_tl0, e_tl2, e_tl3, z10, Bool.false_eq_true, e_argi, e_argr, e_argn, zld_c, zst_n, zst_c, zpick_n, zpick_c, List.drop_succ_cons, List.drop_zero, List.take_succ_cons, List.take_zero, List.length_cons, List.length_nil, List.reverse_cons, List.reverse_nil, List.nil_append, List.cons_append, List.append_nil, List.getElem?_cons_zero, List.getElem?_cons_succ, List.set_cons_zero, List.set_cons_succ, Nat.add_sub_cancel_left, Nat.sub_self, Nat.add_zero, Nat.zero_add, Nat.le_add_right, Nat.le_refl, true_and, and_true, va_rf, zok, Nat.add_left_cancel_iff, Nat.add_eq_left, Nat.left_eq_add, eq_self, if_true, if_false, not_false_eq_true, not_true_eq_false, false_implies, true_implies, Nat.reduceEqDiff, Nat.reduceAdd, Nat.reduceLT, Nat.reduceLeDiff, reduceIte, q2, nI_1]
              have e : zfo ok bt (k + 1) = some k := zfo_y hokk hz q2
              have h9 := ih (k + 1) (by omega)
              rw [e] at h9; exact h9
            · simp only [e_cut, e_iload, e_aload, e_istore, e_astore, e_iinc, e_const, e_lconst, e_bin, e_bin0, e_un, e_ladd, e_dupi, e_dupr, e_dup2, e_pop, e_if, e_icmp, e_sw, e_sw0, e_sw1, e_get, e_put, e_ald, e_ast, e_aald, e_aast, e_copy, e_new, e_newa, e_anewa, e_min, e_abs, e_oinit, e_callI, e_callV, e_callS, e_iret, e_zret, e_lret, e_vret, e_tl1, e_tl0, e_tl2, e_tl3, z10, Bool.false_eq_true, e_argi, e_argr, e_argn, zld_c, zst_n, zst_c, zpick_n, zpick_c, List.drop_succ_cons, List.drop_zero, List.take_succ_cons, List.take_zero, List.length_cons, List.length_nil, List.reverse_cons, List.reverse_nil, List.nil_append, List.cons_append, List.append_nil, List.getElem?_cons_zero, List.getElem?_cons_succ, List.set_cons_zero, List.set_cons_succ, Nat.add_sub_cancel_left, Nat.sub_self, Nat.add_zero, Nat.zero_add, Nat.le_add_right, Nat.le_refl, true_and, and_true, va_rf, zok, Nat.add_left_cancel_iff, Nat.add_eq_left, Nat.left_eq_add, eq_self, if_true, if_false, not_false_eq_true, not_true_eq_false, false_implies, true_implies, Nat.reduceEqDiff, Nat.reduceAdd, Nat.reduceLT, Nat.reduceLeDiff, reduceIte, q2, nI_1]
              have e : zfo ok bt (k + 1) = zfo ok bt k := zfo_w hz (by simpa using q2)
              have h9 := ih (k + 1) (by omega)
              rw [e, hz] at h9; exact h9
        · simp only [e_cut, e_iload, e_aload, e_istore, e_astore, e_iinc, e_const, e_lconst, e_bin, e_bin0, e_un, e_ladd, e_dupi, e_dupr, e_dup2, e_pop, e_if, e_icmp, e_sw, e_sw0, e_sw1, e_get, e_put, e_ald, e_ast, e_aald, e_aast, e_copy, e_new, e_newa, e_anewa, e_min, e_abs, e_oinit, e_callI, e_callV, e_callS, e_iret, e_zret, e_lret, e_vret, e_tl1, e_tl0, e_tl2, e_tl3, z10, Bool.false_eq_true, e_argi, e_argr, e_argn, zld_c, zst_n, zst_c, zpick_n, zpick_c, List.drop_succ_cons, List.drop_zero, List.take_succ_cons, List.take_zero, List.length_cons, List.length_nil, List.reverse_cons, List.reverse_nil, List.nil_append, List.cons_append, List.append_nil, List.getElem?_cons_zero, List.getElem?_cons_succ, List.set_cons_zero, List.set_cons_succ, Nat.add_sub_cancel_left, Nat.sub_self, Nat.add_zero, Nat.zero_add, Nat.le_add_right, Nat.le_refl, true_and, and_true, va_rf, zok, Nat.add_left_cancel_iff, Nat.add_eq_left, Nat.left_eq_add, eq_self, if_true, if_false, not_false_eq_true, not_true_eq_false, false_implies, true_implies, Nat.reduceEqDiff, Nat.reduceAdd, Nat.reduceLT, Nat.reduceLeDiff, reduceIte, q1, nI_1]
          have e : zfo ok bt (k + 1) = zfo ok bt k := zfo_no (by rw [← hok1]; simp [q1])
          have h9 := ih (k + 1) (by omega)
          rw [e] at h9; exact h9
  simp only [B_X6_whom_0, B_X6_whom_7, B_X6_whom_38, B_X6_whom_39, B_X6_whom_67, B_X6_whom_72, B_X6_whom_74, e_cut, e_iload, e_aload, e_istore, e_astore, e_iinc, e_const, e_lconst, e_bin, e_bin0, e_un, e_ladd, e_dupi, e_dupr, e_dup2, e_pop, e_if, e_icmp, e_sw, e_sw0, e_sw1, e_get, e_put, e_ald, e_ast, e_aald, e_aast, e_copy, e_new, e_newa, e_anewa, e_min, e_abs, e_oinit, e_callI, e_callV, e_callS, e_iret, e_zret, e_lret, e_vret, e_tl1, e_tl0, e_tl2, e_tl3, z10, Bool.false_eq_true, e_argi, e_argr, e_argn, zld_c, zst_n, zst_c, zpick_n, zpick_c, List.drop_succ_cons, List.drop_zero, List.take_succ_cons, List.take_zero, List.length_cons, List.length_nil, List.reverse_cons, List.reverse_nil, List.nil_append, List.cons_append, List.append_nil, List.getElem?_cons_zero, List.getElem?_cons_succ, List.set_cons_zero, List.set_cons_succ, Nat.add_sub_cancel_left, Nat.sub_self, Nat.add_zero, Nat.zero_add, Nat.le_add_right, Nat.le_refl, true_and, and_true, va_rf, zok, Nat.add_left_cancel_iff, Nat.add_eq_left, Nat.left_eq_add, eq_self, if_true, if_false, not_false_eq_true, not_true_eq_false, false_implies, true_implies, Nat.reduceEqDiff, Nat.reduceAdd, Nat.reduceLT, Nat.reduceLeDiff, reduceIte]
  exact loop n 0 rfl
set_option maxRecDepth 20000 in
theorem f_X6_whom_13 : Cond.fieldLink RX6 13 (TX6 3).1 (TX6 3).2.1 (TX6 3).2.2.1 ∈ wsX6_whom := by decide +kernel
set_option maxRecDepth 20000 in
theorem k_X6_whom_6 : ∀ w ∈ u_ws RX6 TX6 21, w ∈ wsX6_whom := fun _ h => List.mem_cons_of_mem _ (List.mem_append_right _ h)
set_option maxRecDepth 100000 in
set_option maxHeartbeats 4000000 in
theorem S_X6_whom_74 {p : Program} {e : Env} {s : State} {m : MethodId} {args : Array Value} {below : List Frame} {meth : Method} {c : Code} {D : va_G} {cy : zY} {b n0 : Nat} {P : zPo} (la : Launch) (X : zX p la e (rm_X6_whom) s m args below meth c 7 D cy b n0 cX6_whom wsX6_whom RX6) (hr : meth.sig.returnType = (some .int)) (h_X6_isAboard : zMet la yX6_isAboard wsX6_isAboard rm_X6_isAboard 0 0 sp_X6_isAboard) (h_X6_isNearer : zMet la yX6_isNearer wsX6_isNearer rm_X6_isNearer 0 0 sp_X6_isNearer) : zS p la e (rm_X6_whom) s m args below meth c (MQ below (zQ D b (n0 + 0) P) args s 0 0 (fun q => b ≤ q)) 7 D b n0 74 (B_X6_whom_74 b n0 cy P (zAt p la e (rm_X6_whom) s m args below meth c (MQ below (zQ D b (n0 + 0) P) args s 0 0 (fun q => b ≤ q)) 7 D b n0)) := by
  unfold B_X6_whom_74
  exact (s_istore X dX6_whom_74 (by decide) (s_iinc X dX6_whom_76 (by decide) (by decide) (s_goto X dX6_whom_79 (by decide) (s_cut (by decide) zS_at))))
set_option maxRecDepth 100000 in
set_option maxHeartbeats 4000000 in
theorem S_X6_whom_72 {p : Program} {e : Env} {s : State} {m : MethodId} {args : Array Value} {below : List Frame} {meth : Method} {c : Code} {D : va_G} {cy : zY} {b n0 : Nat} {P : zPo} (la : Launch) (X : zX p la e (rm_X6_whom) s m args below meth c 7 D cy b n0 cX6_whom wsX6_whom RX6) (hr : meth.sig.returnType = (some .int)) (h_X6_isAboard : zMet la yX6_isAboard wsX6_isAboard rm_X6_isAboard 0 0 sp_X6_isAboard) (h_X6_isNearer : zMet la yX6_isNearer wsX6_isNearer rm_X6_isNearer 0 0 sp_X6_isNearer) : zS p la e (rm_X6_whom) s m args below meth c (MQ below (zQ D b (n0 + 0) P) args s 0 0 (fun q => b ≤ q)) 7 D b n0 72 (B_X6_whom_72 b n0 cy P (zAt p la e (rm_X6_whom) s m args below meth c (MQ below (zQ D b (n0 + 0) P) args s 0 0 (fun q => b ≤ q)) 7 D b n0)) := by
  unfold B_X6_whom_72
  exact (s_iload X dX6_whom_72 (S_X6_whom_74 la X hr h_X6_isAboard h_X6_isNearer))
set_option maxRecDepth 100000 in
set_option maxHeartbeats 4000000 in
theorem S_X6_whom_67 {p : Program} {e : Env} {s : State} {m : MethodId} {args : Array Value} {below : List Frame} {meth : Method} {c : Code} {D : va_G} {cy : zY} {b n0 : Nat} {P : zPo} (la : Launch) (X : zX p la e (rm_X6_whom) s m args below meth c 7 D cy b n0 cX6_whom wsX6_whom RX6) (hr : meth.sig.returnType = (some .int)) (h_X6_isAboard : zMet la yX6_isAboard wsX6_isAboard rm_X6_isAboard 0 0 sp_X6_isAboard) (h_X6_isNearer : zMet la yX6_isNearer wsX6_isNearer rm_X6_isNearer 0 0 sp_X6_isNearer) : zS p la e (rm_X6_whom) s m args below meth c (MQ below (zQ D b (n0 + 0) P) args s 0 0 (fun q => b ≤ q)) 7 D b n0 67 (B_X6_whom_67 b n0 cy P (zAt p la e (rm_X6_whom) s m args below meth c (MQ below (zQ D b (n0 + 0) P) args s 0 0 (fun q => b ≤ q)) 7 D b n0)) := by
  unfold B_X6_whom_67
  exact (s_iload X dX6_whom_67 (s_goto X dX6_whom_69 (by decide) (S_X6_whom_74 la X hr h_X6_isAboard h_X6_isNearer)))
set_option maxRecDepth 100000 in
set_option maxHeartbeats 4000000 in
theorem S_X6_whom_39 {p : Program} {e : Env} {s : State} {m : MethodId} {args : Array Value} {below : List Frame} {meth : Method} {c : Code} {D : va_G} {cy : zY} {b n0 : Nat} {P : zPo} (la : Launch) (X : zX p la e (rm_X6_whom) s m args below meth c 7 D cy b n0 cX6_whom wsX6_whom RX6) (hr : meth.sig.returnType = (some .int)) (h_X6_isAboard : zMet la yX6_isAboard wsX6_isAboard rm_X6_isAboard 0 0 sp_X6_isAboard) (h_X6_isNearer : zMet la yX6_isNearer wsX6_isNearer rm_X6_isNearer 0 0 sp_X6_isNearer) : zS p la e (rm_X6_whom) s m args below meth c (MQ below (zQ D b (n0 + 0) P) args s 0 0 (fun q => b ≤ q)) 7 D b n0 39 (B_X6_whom_39 b n0 cy P (zAt p la e (rm_X6_whom) s m args below meth c (MQ below (zQ D b (n0 + 0) P) args s 0 0 (fun q => b ≤ q)) 7 D b n0)) := by
  unfold B_X6_whom_39
  exact (s_istore X dX6_whom_39 (by decide) (s_iload X dX6_whom_41 (s_if_eq X dX6_whom_43 (by decide) (S_X6_whom_72 la X hr h_X6_isAboard h_X6_isNearer) (s_iload X dX6_whom_46 (s_bipush X dX6_whom_48 (by decide) (s_icmp_eq X dX6_whom_50 (by decide) (S_X6_whom_67 la X hr h_X6_isAboard h_X6_isNearer) (s_aload_n X dX6_whom_53 rfl (s_aload_n X dX6_whom_54 rfl (s_iload_n X dX6_whom_55 rfl (s_iload_n X dX6_whom_56 rfl (s_iload X dX6_whom_57 (s_iload X dX6_whom_59 (s_callV X h_X6_isNearer dX6_whom_61 rfl gX6_whom_X6_isNearer rfl rfl rfl (by decide +kernel) ⟨by decide, by decide⟩ (s_if_eq X dX6_whom_64 (by decide) (S_X6_whom_72 la X hr h_X6_isAboard h_X6_isNearer) (S_X6_whom_67 la X hr h_X6_isAboard h_X6_isNearer)))))))))))))))
set_option maxRecDepth 100000 in
set_option maxHeartbeats 4000000 in
theorem S_X6_whom_38 {p : Program} {e : Env} {s : State} {m : MethodId} {args : Array Value} {below : List Frame} {meth : Method} {c : Code} {D : va_G} {cy : zY} {b n0 : Nat} {P : zPo} (la : Launch) (X : zX p la e (rm_X6_whom) s m args below meth c 7 D cy b n0 cX6_whom wsX6_whom RX6) (hr : meth.sig.returnType = (some .int)) (h_X6_isAboard : zMet la yX6_isAboard wsX6_isAboard rm_X6_isAboard 0 0 sp_X6_isAboard) (h_X6_isNearer : zMet la yX6_isNearer wsX6_isNearer rm_X6_isNearer 0 0 sp_X6_isNearer) : zS p la e (rm_X6_whom) s m args below meth c (MQ below (zQ D b (n0 + 0) P) args s 0 0 (fun q => b ≤ q)) 7 D b n0 38 (B_X6_whom_38 b n0 cy P (zAt p la e (rm_X6_whom) s m args below meth c (MQ below (zQ D b (n0 + 0) P) args s 0 0 (fun q => b ≤ q)) 7 D b n0)) := by
  unfold B_X6_whom_38
  exact (s_iconst X dX6_whom_38 (by decide) (S_X6_whom_39 la X hr h_X6_isAboard h_X6_isNearer))
set_option maxRecDepth 100000 in
set_option maxHeartbeats 4000000 in
theorem S_X6_whom_7 {p : Program} {e : Env} {s : State} {m : MethodId} {args : Array Value} {below : List Frame} {meth : Method} {c : Code} {D : va_G} {cy : zY} {b n0 : Nat} {P : zPo} (la : Launch) (X : zX p la e (rm_X6_whom) s m args below meth c 7 D cy b n0 cX6_whom wsX6_whom RX6) (hr : meth.sig.returnType = (some .int)) (h_X6_isAboard : zMet la yX6_isAboard wsX6_isAboard rm_X6_isAboard 0 0 sp_X6_isAboard) (h_X6_isNearer : zMet la yX6_isNearer wsX6_isNearer rm_X6_isNearer 0 0 sp_X6_isNearer) : zS p la e (rm_X6_whom) s m args below meth c (MQ below (zQ D b (n0 + 0) P) args s 0 0 (fun q => b ≤ q)) 7 D b n0 7 (B_X6_whom_7 b n0 cy P (zAt p la e (rm_X6_whom) s m args below meth c (MQ below (zQ D b (n0 + 0) P) args s 0 0 (fun q => b ≤ q)) 7 D b n0)) := by
  unfold B_X6_whom_7
  exact (s_iload X dX6_whom_7 (s_aload_n X dX6_whom_9 rfl (s_get X dX6_whom_10 rfl k_X6_whom_6 (by decide) f_X6_whom_13 (s_iconst X dX6_whom_13 (by decide) (s_iald X dX6_whom_14 (s_icmp_ge X dX6_whom_15 (by decide) (s_iload X dX6_whom_82 (s_iret X dX6_whom_84 hr)) (s_iload X dX6_whom_18 (s_iload_n X dX6_whom_20 rfl (s_icmp_eq X dX6_whom_21 (by decide) (S_X6_whom_38 la X hr h_X6_isAboard h_X6_isNearer) (s_aload_n X dX6_whom_24 rfl (s_aload_n X dX6_whom_25 rfl (s_iload X dX6_whom_26 (s_callV X h_X6_isAboard dX6_whom_28 rfl gX6_whom_X6_isAboard rfl rfl rfl (by decide +kernel) ⟨by decide, by decide⟩ (s_if_eq X dX6_whom_31 (by decide) (S_X6_whom_38 la X hr h_X6_isAboard h_X6_isNearer) (s_iconst X dX6_whom_34 (by decide) (s_goto X dX6_whom_35 (by decide) (S_X6_whom_39 la X hr h_X6_isAboard h_X6_isNearer)))))))))))))))))
set_option maxRecDepth 100000 in
set_option maxHeartbeats 4000000 in
theorem S_X6_whom_0 {p : Program} {e : Env} {s : State} {m : MethodId} {args : Array Value} {below : List Frame} {meth : Method} {c : Code} {D : va_G} {cy : zY} {b n0 : Nat} {P : zPo} (la : Launch) (X : zX p la e (rm_X6_whom) s m args below meth c 7 D cy b n0 cX6_whom wsX6_whom RX6) (hr : meth.sig.returnType = (some .int)) (h_X6_isAboard : zMet la yX6_isAboard wsX6_isAboard rm_X6_isAboard 0 0 sp_X6_isAboard) (h_X6_isNearer : zMet la yX6_isNearer wsX6_isNearer rm_X6_isNearer 0 0 sp_X6_isNearer) : zS p la e (rm_X6_whom) s m args below meth c (MQ below (zQ D b (n0 + 0) P) args s 0 0 (fun q => b ≤ q)) 7 D b n0 0 (B_X6_whom_0 b n0 cy P (zAt p la e (rm_X6_whom) s m args below meth c (MQ below (zQ D b (n0 + 0) P) args s 0 0 (fun q => b ≤ q)) 7 D b n0)) := by
  unfold B_X6_whom_0
  exact (s_bipush X dX6_whom_0 (by decide) (s_istore X dX6_whom_2 (by decide) (s_iconst X dX6_whom_4 (by decide) (s_istore X dX6_whom_5 (by decide) (s_cut (by decide) zS_at)))))
theorem w_X6_whom (la : Launch) (h_X6_isAboard : zMet la yX6_isAboard wsX6_isAboard rm_X6_isAboard 0 0 sp_X6_isAboard) (h_X6_isNearer : zMet la yX6_isNearer wsX6_isNearer rm_X6_isNearer 0 0 sp_X6_isNearer) (sp : zSp) (vc : zVC_X6_whom sp) : zMet la yX6_whom wsX6_whom (rm_X6_whom) 0 0 sp :=
  z_of (cc := cX6_whom) (maxL := 7) (ret := (some .int)) (by decide +kernel) rfl (fun p e s m args below meth c D cy b n as E P hsp X hr hin => by
    obtain ⟨h1, h2⟩ := vc b cy n as E P (zAt p la e (rm_X6_whom) s m args below meth c (MQ below (zQ D b (n + 0) P) args s 0 0 (fun q => b ≤ q)) 7 D b n) (fun _ _ _ _ _ q => S_X6_whom_7 la X hr h_X6_isAboard h_X6_isNearer _ _ _ _ _ q) hsp
    exact ⟨h1, S_X6_whom_0 la X hr h_X6_isAboard h_X6_isNearer _ _ _ _ _ h2⟩)

theorem m_X6_whom (la : Launch) : zMet la yX6_whom wsX6_whom rm_X6_whom 0 0 sp_X6_whom := w_X6_whom la (m_X6_isAboard la) (m_X6_isNearer la) _ vc_X6_whom

