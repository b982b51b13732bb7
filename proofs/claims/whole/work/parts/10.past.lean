/-! BellCars$Told -/
def sp_X4_init : zSp := fun b cy as N E P => ∃ i : Nat, as = [.ref (b + i)] ∧ N = i + 1 ∧ E i = .inr (4, [.int 0, .int 0, .int 0, .null, .null, .null]) ∧ (∀ E', zTo b cy E' i 0 (fun _ => 0) (fun _ => 0) (fun _ => 0) 9 0 → (∀ j, j < i → E' j = E j) → P none E')
abbrev rm_X4_init : Room := { frames := 1, cells := 3, slots := 18, locals := 40 }
def B_X4_init_0 (b n0 : Nat) (cy : zY) (P : zPo) (A : Nat → zC) : zC :=
  z_aload 0 (z_oinit (z_aload 0 (z_const (9) (z_put b n0 4 2 0 (z_aload 0 (z_const (6) (z_newa b n0 3 18 (cy 1) (z_put b n0 4 3 1 (z_aload 0 (z_const (6) (z_newa b n0 3 18 (cy 1) (z_put b n0 4 4 1 (z_aload 0 (z_const (6) (z_newa b n0 3 18 (cy 1) (z_put b n0 4 5 1 (z_vret 3 18 P)))))))))))))))))
def zVC_X4_init (sp : zSp) : Prop := ∀ (b : Nat) (cy : zY) (n : Nat) (as : List Value) (E : zE) (P : zPo) (A : Nat → zC), sp b cy as n E P → zgood as 1 ∧ B_X4_init_0 b n cy P A (lv_args 0 as) [] 0 0 E

set_option maxRecDepth 100000 in
set_option maxHeartbeats 4000000 in
theorem vc_X4_init : zVC_X4_init sp_X4_init := by
  intro b cy N as E P A hsp
  obtain ⟨i, rfl, rfl, h0, hP⟩ := hsp
  refine ⟨⟨Nat.le_of_ble_eq_true rfl, zg1 rfl (zg0)⟩, ?_⟩
  have d6 : (6 : Int32).toNatClampNeg = 6 := rfl
  have d60 : ¬ (6 : Int32) < 0 := by decide
  have l0 : i < i + 1 := by omega
  have l1 : i < i + 1 + 1 := by omega
  have l2 : i < i + 1 + 2 := by omega
  have l3 : i < i + 1 + 3 := by omega
  simp only [B_X4_init_0, e_cut, e_iload, e_aload, e_istore, e_astore, e_iinc, e_const, e_lconst, e_bin, e_bin0, e_un, e_ladd, e_dupi, e_dupr, e_dup2, e_pop, e_if, e_icmp, e_sw, e_sw0, e_sw1, e_get, e_put, e_ald, e_ast, e_aald, e_aast, e_copy, e_new, e_newa, e_anewa, e_min, e_abs, e_oinit, e_callI, e_callV, e_callS, e_iret, e_zret, e_lret, e_vret, e_tl1, e_tl0, e_tl2, e_tl3, z10, Bool.false_eq_true, e_argi, e_argr, e_argn, zld_c, zst_n, zst_c, zpick_n, zpick_c, List.drop_succ_cons, List.drop_zero, List.take_succ_cons, List.take_zero, List.length_cons, List.length_nil, List.reverse_cons, List.reverse_nil, List.nil_append, List.cons_append, List.append_nil, List.getElem?_cons_zero, List.getElem?_cons_succ, List.set_cons_zero, List.set_cons_succ, Nat.add_sub_cancel_left, Nat.sub_self, Nat.add_zero, Nat.zero_add, Nat.le_add_right, Nat.le_refl, true_and, and_true, va_rf, zok, Nat.add_left_cancel_iff, Nat.add_eq_left, Nat.left_eq_add, eq_self, if_true, if_false, not_false_eq_true, not_true_eq_false, false_implies, true_implies, Nat.reduceEqDiff, Nat.reduceAdd, Nat.reduceLT, Nat.reduceLeDiff, reduceIte, h0, d6, d60, l0, l1, l2, l3, e_up, Nat.add_assoc]
  refine hP _ ⟨by omega, fun _ => 0, fun _ => 0, fun _ => 0, ?_, ?_, ?_, ?_, ?_, ?_, ?_⟩ ?_
  · simp [e_up]; exact ⟨rfl, rfl⟩
  · simp [e_up]
  · simp [e_up]
  · simp [e_up]
  · intro t ht; omega
  · intro t ht; omega
  · intro t ht; omega
  · intro t ht
    have a0 : ¬ t = i := by omega
    have a1 : ¬ t = i + 1 := by omega
    have a2 : ¬ t = i + 2 := by omega
    have a3 : ¬ t = i + 3 := by omega
    simp [e_up, a0, a1, a2, a3]
set_option maxRecDepth 20000 in
theorem f_X4_init_m3 : Cond.methodLink RX4 3 Lib.objectInit ∈ wsX4_init := by decide +kernel
set_option maxRecDepth 20000 in
theorem f_X4_init_oi : Cond.instanceMethod Lib.objectInit ∈ wsX4_init := by decide +kernel
set_option maxRecDepth 20000 in
theorem f_X4_init_oc : Cond.code Lib.objectInit ⟨#[0xb1]⟩ 1 none ∈ wsX4_init := by decide +kernel
set_option maxRecDepth 20000 in
theorem f_X4_init_9 : Cond.fieldLink RX4 9 (TX4 2).1 (TX4 2).2.1 (TX4 2).2.2.1 ∈ wsX4_init := by decide +kernel
set_option maxRecDepth 20000 in
theorem k_X4_init_4 : ∀ w ∈ u_ws RX4 TX4 6, w ∈ wsX4_init := fun _ h => List.mem_cons_of_mem _ (List.mem_append_right _ h)
set_option maxRecDepth 20000 in
theorem f_X4_init_aint : Cond.arrayClass .int ∈ wsX4_init := by decide +kernel
set_option maxRecDepth 20000 in
theorem f_X4_init_15 : Cond.fieldLink RX4 15 (TX4 3).1 (TX4 3).2.1 (TX4 3).2.2.1 ∈ wsX4_init := by decide +kernel
set_option maxRecDepth 20000 in
theorem f_X4_init_19 : Cond.fieldLink RX4 19 (TX4 4).1 (TX4 4).2.1 (TX4 4).2.2.1 ∈ wsX4_init := by decide +kernel
set_option maxRecDepth 20000 in
theorem f_X4_init_22 : Cond.fieldLink RX4 22 (TX4 5).1 (TX4 5).2.1 (TX4 5).2.2.1 ∈ wsX4_init := by decide +kernel
set_option maxRecDepth 100000 in
set_option maxHeartbeats 4000000 in
theorem S_X4_init_0 {p : Program} {e : Env} {s : State} {m : MethodId} {args : Array Value} {below : List Frame} {meth : Method} {c : Code} {D : va_G} {cy : zY} {b n0 : Nat} {P : zPo} (la : Launch) (X : zX p la e (rm_X4_init) s m args below meth c 1 D cy b n0 cX4_init wsX4_init RX4) (hr : meth.sig.returnType = none) (hin : yX4_init.name = "<init>" → meth.name = "<init>") : zS p la e (rm_X4_init) s m args below meth c (MQ below (zQ D b (n0 + 3) P) args s 3 18 (fun q => b ≤ q)) 1 D b n0 0 (B_X4_init_0 b n0 cy P (zAt p la e (rm_X4_init) s m args below meth c (MQ below (zQ D b (n0 + 3) P) args s 3 18 (fun q => b ≤ q)) 1 D b n0)) := by
  unfold B_X4_init_0
  exact (s_aload_n X dX4_init_0 rfl (s_objInit X dX4_init_1 f_X4_init_m3 f_X4_init_oi f_X4_init_oc (by decide) (by decide) (s_aload_n X dX4_init_4 rfl (s_bipush X dX4_init_5 (by decide) (s_put X dX4_init_7 rfl k_X4_init_4 tyX4_ok nmX4 (by decide) f_X4_init_9 rfl (tyX4_ok 2 (by decide)) zok_int (s_aload_n X dX4_init_10 rfl (s_bipush X dX4_init_11 (by decide) (s_newa X dX4_init_13 rfl (t0 := 1) rfl f_X4_init_aint (by decide) (fun _ _ h1 h2 => Option.some.inj (h1.symm.trans h2)) (fun _ _ => rfl) (s_putF X dX4_init_15 (hin rfl) rfl k_X4_init_4 tyX4_ok nmX4 (by decide) f_X4_init_15 rfl rfl (tyX4_ok 3 (by decide)) zok_arr (s_aload_n X dX4_init_18 rfl (s_bipush X dX4_init_19 (by decide) (s_newa X dX4_init_21 rfl (t0 := 1) rfl f_X4_init_aint (by decide) (fun _ _ h1 h2 => Option.some.inj (h1.symm.trans h2)) (fun _ _ => rfl) (s_putF X dX4_init_23 (hin rfl) rfl k_X4_init_4 tyX4_ok nmX4 (by decide) f_X4_init_19 rfl rfl (tyX4_ok 4 (by decide)) zok_arr (s_aload_n X dX4_init_26 rfl (s_bipush X dX4_init_27 (by decide) (s_newa X dX4_init_29 rfl (t0 := 1) rfl f_X4_init_aint (by decide) (fun _ _ h1 h2 => Option.some.inj (h1.symm.trans h2)) (fun _ _ => rfl) (s_putF X dX4_init_31 (hin rfl) rfl k_X4_init_4 tyX4_ok nmX4 (by decide) f_X4_init_22 rfl rfl (tyX4_ok 5 (by decide)) zok_arr (s_vret X dX4_init_34 hr))))))))))))))))))
theorem w_X4_init (la : Launch) (sp : zSp) (vc : zVC_X4_init sp) : zMet la yX4_init wsX4_init (rm_X4_init) 3 18 sp :=
  z_of (cc := cX4_init) (maxL := 1) (ret := none) (by decide +kernel) rfl (fun p e s m args below meth c D cy b n as E P hsp X hr hin => by
    obtain ⟨h1, h2⟩ := vc b cy n as E P (zAt p la e (rm_X4_init) s m args below meth c (MQ below (zQ D b (n + 3) P) args s 3 18 (fun q => b ≤ q)) 1 D b n) hsp
    exact ⟨h1, S_X4_init_0 la X hr hin _ _ _ _ _ h2⟩)

theorem m_X4_init (la : Launch) : zMet la yX4_init wsX4_init rm_X4_init 3 18 sp_X4_init := w_X4_init la _ vc_X4_init
def sp_X4_forgetAll : zSp := fun b cy as N E P => ∃ j : Nat, as = [.ref (b + j)] ∧ zToS b cy E j ∧ j + 3 < N ∧ (∀ E', zTo b cy E' j 0 (fun _ => 0) (fun _ => 0) (fun _ => 0) 9 0 → (∀ k, k < j ∨ j < k → E' k = E k) → P none E')
abbrev rm_X4_forgetAll : Room := { frames := 1, cells := 0, slots := 0, locals := 40 }
def B_X4_forgetAll_0 (b n0 : Nat) (cy : zY) (P : zPo) (A : Nat → zC) : zC :=
  z_aload 0 (z_const (0) (z_put b n0 4 0 0 (z_aload 0 (z_const (0) (z_put b n0 4 1 0 (z_aload 0 (z_const (9) (z_put b n0 4 2 0 (z_vret 0 0 P)))))))))
def zVC_X4_forgetAll (sp : zSp) : Prop := ∀ (b : Nat) (cy : zY) (n : Nat) (as : List Value) (E : zE) (P : zPo) (A : Nat → zC), sp b cy as n E P → zgood as 1 ∧ B_X4_forgetAll_0 b n cy P A (lv_args 0 as) [] 0 0 E

set_option maxRecDepth 100000 in
set_option maxHeartbeats 4000000 in
theorem vc_X4_forgetAll : zVC_X4_forgetAll sp_X4_forgetAll := by
  intro b cy N as E P A hsp
  obtain ⟨j, rfl, ⟨s0, s1, s2, f, g, h, h0, h1, h2, h3⟩, hj, hP⟩ := hsp
  refine ⟨⟨Nat.le_of_ble_eq_true rfl, zg1 rfl (zg0)⟩, ?_⟩
  have hj0 : j < N := by omega
  simp only [B_X4_forgetAll_0, e_cut, e_iload, e_aload, e_istore, e_astore, e_iinc, e_const, e_lconst, e_bin, e_bin0, e_un, e_ladd, e_dupi, e_dupr, e_dup2, e_pop, e_if, e_icmp, e_sw, e_sw0, e_sw1, e_get, e_put, e_ald, e_ast, e_aald, e_aast, e_copy, e_new, e_newa, e_anewa, e_min, e_abs, e_oinit, e_callI, e_callV, e_callS, e_iret, e_zret, e_lret, e_vret, e_tl1, e_tl0, e_tl2, e_tl3, z10, Bool.false_eq_true, e_argi, e_argr, e_argn, zld_c, zst_n, zst_c, zpick_n, zpick_c, List.drop_succ_cons, List.drop_zero, List.take_succ_cons, List.take_zero, List.length_cons, List.length_nil, List.reverse_cons, List.reverse_nil, List.nil_append, List.cons_append, List.append_nil, List.getElem?_cons_zero, List.getElem?_cons_succ, List.set_cons_zero, List.set_cons_succ, Nat.add_sub_cancel_left, Nat.sub_self, Nat.add_zero, Nat.zero_add, Nat.le_add_right, Nat.le_refl, true_and, and_true, va_rf, zok, Nat.add_left_cancel_iff, Nat.add_eq_left, Nat.left_eq_add, eq_self, if_true, if_false, not_false_eq_true, not_true_eq_false, false_implies, true_implies, Nat.reduceEqDiff, Nat.reduceAdd, Nat.reduceLT, Nat.reduceLeDiff, reduceIte, h0, hj0, e_up]
  refine hP _ ⟨by omega, f, g, h, ?_, ?_, ?_, ?_, ?_, ?_, ?_⟩ ?_
  · simp [e_up]; exact ⟨rfl, rfl⟩
  · simp [e_up, h1]
  · simp [e_up, h2]
  · simp [e_up, h3]
  · intro t ht; omega
  · intro t ht; omega
  · intro t ht; omega
  · intro t ht
    have a0 : ¬ t = j := by omega
    simp [e_up, a0]
set_option maxRecDepth 20000 in
theorem f_X4_forgetAll_25 : Cond.fieldLink RX4 25 (TX4 0).1 (TX4 0).2.1 (TX4 0).2.2.1 ∈ wsX4_forgetAll := by decide +kernel
set_option maxRecDepth 20000 in
theorem k_X4_forgetAll_4 : ∀ w ∈ u_ws RX4 TX4 6, w ∈ wsX4_forgetAll := fun _ h => List.mem_cons_of_mem _ (List.mem_append_right _ h)
set_option maxRecDepth 20000 in
theorem f_X4_forgetAll_28 : Cond.fieldLink RX4 28 (TX4 1).1 (TX4 1).2.1 (TX4 1).2.2.1 ∈ wsX4_forgetAll := by decide +kernel
set_option maxRecDepth 20000 in
theorem f_X4_forgetAll_9 : Cond.fieldLink RX4 9 (TX4 2).1 (TX4 2).2.1 (TX4 2).2.2.1 ∈ wsX4_forgetAll := by decide +kernel
set_option maxRecDepth 100000 in
set_option maxHeartbeats 4000000 in
theorem S_X4_forgetAll_0 {p : Program} {e : Env} {s : State} {m : MethodId} {args : Array Value} {below : List Frame} {meth : Method} {c : Code} {D : va_G} {cy : zY} {b n0 : Nat} {P : zPo} (la : Launch) (X : zX p la e (rm_X4_forgetAll) s m args below meth c 1 D cy b n0 cX4_forgetAll wsX4_forgetAll RX4) (hr : meth.sig.returnType = none) : zS p la e (rm_X4_forgetAll) s m args below meth c (MQ below (zQ D b (n0 + 0) P) args s 0 0 (fun q => b ≤ q)) 1 D b n0 0 (B_X4_forgetAll_0 b n0 cy P (zAt p la e (rm_X4_forgetAll) s m args below meth c (MQ below (zQ D b (n0 + 0) P) args s 0 0 (fun q => b ≤ q)) 1 D b n0)) := by
  unfold B_X4_forgetAll_0
  exact (s_aload_n X dX4_forgetAll_0 rfl (s_iconst X dX4_forgetAll_1 (by decide) (s_put X dX4_forgetAll_2 rfl k_X4_forgetAll_4 tyX4_ok nmX4 (by decide) f_X4_forgetAll_25 rfl (tyX4_ok 0 (by decide)) zok_int (s_aload_n X dX4_forgetAll_5 rfl (s_iconst X dX4_forgetAll_6 (by decide) (s_put X dX4_forgetAll_7 rfl k_X4_forgetAll_4 tyX4_ok nmX4 (by decide) f_X4_forgetAll_28 rfl (tyX4_ok 1 (by decide)) zok_int (s_aload_n X dX4_forgetAll_10 rfl (s_bipush X dX4_forgetAll_11 (by decide) (s_put X dX4_forgetAll_13 rfl k_X4_forgetAll_4 tyX4_ok nmX4 (by decide) f_X4_forgetAll_9 rfl (tyX4_ok 2 (by decide)) zok_int (s_vret X dX4_forgetAll_16 hr))))))))))
theorem w_X4_forgetAll (la : Launch) (sp : zSp) (vc : zVC_X4_forgetAll sp) : zMet la yX4_forgetAll wsX4_forgetAll (rm_X4_forgetAll) 0 0 sp :=
  z_of (cc := cX4_forgetAll) (maxL := 1) (ret := none) (by decide +kernel) rfl (fun p e s m args below meth c D cy b n as E P hsp X hr hin => by
    obtain ⟨h1, h2⟩ := vc b cy n as E P (zAt p la e (rm_X4_forgetAll) s m args below meth c (MQ below (zQ D b (n + 0) P) args s 0 0 (fun q => b ≤ q)) 1 D b n) hsp
    exact ⟨h1, S_X4_forgetAll_0 la X hr _ _ _ _ _ h2⟩)

theorem m_X4_forgetAll (la : Launch) : zMet la yX4_forgetAll wsX4_forgetAll rm_X4_forgetAll 0 0 sp_X4_forgetAll := w_X4_forgetAll la _ vc_X4_forgetAll
def sp_X4_copyFrom : zSp := fun b cy as N E P => ∃ (i j n : Nat) (lo la seat : Nat → Nat) (line : Nat) (items : Int32), as = [.ref (b + i), .ref (b + j)] ∧ zToS b cy E i ∧ zTo b cy E j n lo la seat line items ∧ i + 3 < N ∧ j + 3 < N ∧ (i + 3 < j ∨ j + 3 < i) ∧ (∀ E', zTo b cy E' i n lo la seat line items → (∀ k, k < i ∨ i + 3 < k → E' k = E k) → P none E')
abbrev rm_X4_copyFrom : Room := { frames := 1, cells := 0, slots := 0, locals := 40 }
def B_X4_copyFrom_0 (b n0 : Nat) (cy : zY) (P : zPo) (A : Nat → zC) : zC :=
  z_aload 0 (z_aload 1 (z_get b n0 4 0 (z_put b n0 4 0 0 (z_aload 0 (z_aload 1 (z_get b n0 4 1 (z_put b n0 4 1 0 (z_aload 0 (z_aload 1 (z_get b n0 4 2 (z_put b n0 4 2 0 (z_aload 1 (z_get b n0 4 3 (z_const (0) (z_aload 0 (z_get b n0 4 3 (z_const (0) (z_const (6) (z_copy b n0 (cy 1) (z_aload 1 (z_get b n0 4 4 (z_const (0) (z_aload 0 (z_get b n0 4 4 (z_const (0) (z_const (6) (z_copy b n0 (cy 1) (z_aload 1 (z_get b n0 4 5 (z_const (0) (z_aload 0 (z_get b n0 4 5 (z_const (0) (z_const (6) (z_copy b n0 (cy 1) (z_vret 0 0 P))))))))))))))))))))))))))))))))))))
def zVC_X4_copyFrom (sp : zSp) : Prop := ∀ (b : Nat) (cy : zY) (n : Nat) (as : List Value) (E : zE) (P : zPo) (A : Nat → zC), sp b cy as n E P → zgood as 2 ∧ B_X4_copyFrom_0 b n cy P A (lv_args 0 as) [] 0 0 E

set_option maxRecDepth 100000 in
set_option maxHeartbeats 4000000 in
theorem vc_X4_copyFrom : zVC_X4_copyFrom sp_X4_copyFrom := by
  intro b cy N as E P A hsp
  obtain ⟨i, j, n, lo, la, seat, line, items, rfl, ⟨s0, s1, s2, f1, g1, k1, i0, i1, i2, i3⟩, ⟨hn, f, g, h, h0, h1, h2, h3, hf, hg, hh⟩, hi, hj, hij, hP⟩ := hsp
  refine ⟨⟨Nat.le_of_ble_eq_true rfl, zg1 rfl (zg1 rfl (zg0))⟩, ?_⟩
  have hi0 : i < N := by omega
  have hi1 : i + 1 < N := by omega
  have hi2 : i + 2 < N := by omega
  have hj0 : j < N := by omega
  have hj1 : j + 1 < N := by omega
  have hj2 : j + 2 < N := by omega
  have nn_0_0 : (j = i) = False := eq_false (by omega)
  have nn_0_1 : (j = i + 1) = False := eq_false (by omega)
  have nn_0_2 : (j = i + 2) = False := eq_false (by omega)
  have nn_0_3 : (j = i + 3) = False := eq_false (by omega)
  have nn_1_0 : (j + 1 = i) = False := eq_false (by omega)
  have nn_1_1 : (j + 1 = i + 1) = False := eq_false (by omega)
  have nn_1_2 : (j + 1 = i + 2) = False := eq_false (by omega)
  have nn_1_3 : (j + 1 = i + 3) = False := eq_false (by omega)
  have nn_2_0 : (j + 2 = i) = False := eq_false (by omega)
  have nn_2_1 : (j + 2 = i + 1) = False := eq_false (by omega)
  have nn_2_2 : (j + 2 = i + 2) = False := eq_false (by omega)
  have nn_2_3 : (j + 2 = i + 3) = False := eq_false (by omega)
  have nn_3_0 : (j + 3 = i) = False := eq_false (by omega)
  have nn_3_1 : (j + 3 = i + 1) = False := eq_false (by omega)
  have nn_3_2 : (j + 3 = i + 2) = False := eq_false (by omega)
  have nn_3_3 : (j + 3 = i + 3) = False := eq_false (by omega)
  have d6 : (6 : Int32).toNatClampNeg = 6 := rfl
  have d60 : ¬ (6 : Int32) < 0 := by decide
  simp only [B_X4_copyFrom_0, e_cut, e_iload, e_aload, e_istore, e_astore, e_iinc, e_const, e_lconst, e_bin, e_bin0, e_un, e_ladd, e_dupi, e_dupr, e_dup2, e_pop, e_if, e_icmp, e_sw, e_sw0, e_sw1, e_get, e_put, e_ald, e_ast, e_aald, e_aast, e_copy, e_new, e_newa, e_anewa, e_min, e_abs, e_oinit, e_callI, e_callV, e_callS, e_iret, e_zret, e_lret, e_vret, e_tl1, e_tl0, e_tl2, e_tl3, z10, Bool.false_eq_true, e_argi, e_argr, e_argn, zld_c, zst_n, zst_c, zpick_n, zpick_c, List.drop_succ_cons, List.drop_zero, List.take_succ_cons, List.take_zero, List.length_cons, List.length_nil, List.reverse_cons, List.reverse_nil, List.nil_append, List.cons_append, List.append_nil, List.getElem?_cons_zero, List.getElem?_cons_succ, List.set_cons_zero, List.set_cons_succ, Nat.add_sub_cancel_left, Nat.sub_self, Nat.add_zero, Nat.zero_add, Nat.le_add_right, Nat.le_refl, true_and, and_true, va_rf, zok, Nat.add_left_cancel_iff, Nat.add_eq_left, Nat.left_eq_add, eq_self, if_true, if_false, not_false_eq_true, not_true_eq_false, false_implies, true_implies, Nat.reduceEqDiff, Nat.reduceAdd, Nat.reduceLT, Nat.reduceLeDiff, reduceIte, h0, h1, h2, h3, i0, i1, i2, i3, hi0, hi1, hi2, hi, hj0, hj1, hj2, hj, e_up, nn_0_0, nn_0_1, nn_0_2, nn_0_3, nn_1_0, nn_1_1, nn_1_2, nn_1_3, nn_2_0, nn_2_1, nn_2_2, nn_2_3, nn_3_0, nn_3_1, nn_3_2, nn_3_3, d6, d60]
  refine hP _ ⟨hn, va_cpy f f1 0 0 6, va_cpy g g1 0 0 6, va_cpy h k1 0 0 6, ?_, ?_, ?_, ?_, ?_, ?_, ?_⟩ ?_
  · simp [e_up]
  · simp [e_up]
  · simp [e_up]
  · simp [e_up]
  · intro t ht; rw [zcpy_in (by omega)]; exact hf t ht
  · intro t ht; rw [zcpy_in (by omega)]; exact hg t ht
  · intro t ht; rw [zcpy_in (by omega)]; exact hh t ht
  · intro t ht
    have a0 : ¬ t = i := by omega
    have a1 : ¬ t = i + 1 := by omega
    have a2 : ¬ t = i + 2 := by omega
    have a3 : ¬ t = i + 3 := by omega
    simp [e_up, a0, a1, a2, a3]
set_option maxRecDepth 20000 in
theorem f_X4_copyFrom_25 : Cond.fieldLink RX4 25 (TX4 0).1 (TX4 0).2.1 (TX4 0).2.2.1 ∈ wsX4_copyFrom := by decide +kernel
set_option maxRecDepth 20000 in
theorem k_X4_copyFrom_4 : ∀ w ∈ u_ws RX4 TX4 6, w ∈ wsX4_copyFrom := fun _ h => List.mem_cons_of_mem _ (List.mem_append_right _ h)
set_option maxRecDepth 20000 in
theorem f_X4_copyFrom_28 : Cond.fieldLink RX4 28 (TX4 1).1 (TX4 1).2.1 (TX4 1).2.2.1 ∈ wsX4_copyFrom := by decide +kernel
set_option maxRecDepth 20000 in
theorem f_X4_copyFrom_9 : Cond.fieldLink RX4 9 (TX4 2).1 (TX4 2).2.1 (TX4 2).2.2.1 ∈ wsX4_copyFrom := by decide +kernel
set_option maxRecDepth 20000 in
theorem f_X4_copyFrom_15 : Cond.fieldLink RX4 15 (TX4 3).1 (TX4 3).2.1 (TX4 3).2.2.1 ∈ wsX4_copyFrom := by decide +kernel
set_option maxRecDepth 20000 in
theorem f_X4_copyFrom_m31 : Cond.methodLink RX4 31 arraycopyName ∈ wsX4_copyFrom := by decide +kernel
set_option maxRecDepth 20000 in
theorem f_X4_copyFrom_cn : Cond.native arraycopyName ∈ wsX4_copyFrom := by decide +kernel
set_option maxRecDepth 20000 in
theorem f_X4_copyFrom_cs : Cond.static arraycopyName ∈ wsX4_copyFrom := by decide +kernel
set_option maxRecDepth 20000 in
theorem f_X4_copyFrom_ci : Cond.initialized "java/lang/System" ∈ wsX4_copyFrom := by decide +kernel
set_option maxRecDepth 20000 in
theorem f_X4_copyFrom_19 : Cond.fieldLink RX4 19 (TX4 4).1 (TX4 4).2.1 (TX4 4).2.2.1 ∈ wsX4_copyFrom := by decide +kernel
set_option maxRecDepth 20000 in
theorem f_X4_copyFrom_22 : Cond.fieldLink RX4 22 (TX4 5).1 (TX4 5).2.1 (TX4 5).2.2.1 ∈ wsX4_copyFrom := by decide +kernel
set_option maxRecDepth 100000 in
set_option maxHeartbeats 4000000 in
theorem S_X4_copyFrom_0 {p : Program} {e : Env} {s : State} {m : MethodId} {args : Array Value} {below : List Frame} {meth : Method} {c : Code} {D : va_G} {cy : zY} {b n0 : Nat} {P : zPo} (la : Launch) (X : zX p la e (rm_X4_copyFrom) s m args below meth c 2 D cy b n0 cX4_copyFrom wsX4_copyFrom RX4) (hr : meth.sig.returnType = none) : zS p la e (rm_X4_copyFrom) s m args below meth c (MQ below (zQ D b (n0 + 0) P) args s 0 0 (fun q => b ≤ q)) 2 D b n0 0 (B_X4_copyFrom_0 b n0 cy P (zAt p la e (rm_X4_copyFrom) s m args below meth c (MQ below (zQ D b (n0 + 0) P) args s 0 0 (fun q => b ≤ q)) 2 D b n0)) := by
  unfold B_X4_copyFrom_0
  exact (s_aload_n X dX4_copyFrom_0 rfl (s_aload_n X dX4_copyFrom_1 rfl (s_get X dX4_copyFrom_2 rfl k_X4_copyFrom_4 (by decide) f_X4_copyFrom_25 (s_put X dX4_copyFrom_5 rfl k_X4_copyFrom_4 tyX4_ok nmX4 (by decide) f_X4_copyFrom_25 rfl (tyX4_ok 0 (by decide)) zok_int (s_aload_n X dX4_copyFrom_8 rfl (s_aload_n X dX4_copyFrom_9 rfl (s_get X dX4_copyFrom_10 rfl k_X4_copyFrom_4 (by decide) f_X4_copyFrom_28 (s_put X dX4_copyFrom_13 rfl k_X4_copyFrom_4 tyX4_ok nmX4 (by decide) f_X4_copyFrom_28 rfl (tyX4_ok 1 (by decide)) zok_int (s_aload_n X dX4_copyFrom_16 rfl (s_aload_n X dX4_copyFrom_17 rfl (s_get X dX4_copyFrom_18 rfl k_X4_copyFrom_4 (by decide) f_X4_copyFrom_9 (s_put X dX4_copyFrom_21 rfl k_X4_copyFrom_4 tyX4_ok nmX4 (by decide) f_X4_copyFrom_9 rfl (tyX4_ok 2 (by decide)) zok_int (s_aload_n X dX4_copyFrom_24 rfl (s_get X dX4_copyFrom_25 rfl k_X4_copyFrom_4 (by decide) f_X4_copyFrom_15 (s_iconst X dX4_copyFrom_28 (by decide) (s_aload_n X dX4_copyFrom_29 rfl (s_get X dX4_copyFrom_30 rfl k_X4_copyFrom_4 (by decide) f_X4_copyFrom_15 (s_iconst X dX4_copyFrom_33 (by decide) (s_bipush X dX4_copyFrom_34 (by decide) (s_copy X dX4_copyFrom_36 f_X4_copyFrom_m31 f_X4_copyFrom_cn f_X4_copyFrom_cs f_X4_copyFrom_ci (by decide) (by decide) (s_aload_n X dX4_copyFrom_39 rfl (s_get X dX4_copyFrom_40 rfl k_X4_copyFrom_4 (by decide) f_X4_copyFrom_19 (s_iconst X dX4_copyFrom_43 (by decide) (s_aload_n X dX4_copyFrom_44 rfl (s_get X dX4_copyFrom_45 rfl k_X4_copyFrom_4 (by decide) f_X4_copyFrom_19 (s_iconst X dX4_copyFrom_48 (by decide) (s_bipush X dX4_copyFrom_49 (by decide) (s_copy X dX4_copyFrom_51 f_X4_copyFrom_m31 f_X4_copyFrom_cn f_X4_copyFrom_cs f_X4_copyFrom_ci (by decide) (by decide) (s_aload_n X dX4_copyFrom_54 rfl (s_get X dX4_copyFrom_55 rfl k_X4_copyFrom_4 (by decide) f_X4_copyFrom_22 (s_iconst X dX4_copyFrom_58 (by decide) (s_aload_n X dX4_copyFrom_59 rfl (s_get X dX4_copyFrom_60 rfl k_X4_copyFrom_4 (by decide) f_X4_copyFrom_22 (s_iconst X dX4_copyFrom_63 (by decide) (s_bipush X dX4_copyFrom_64 (by decide) (s_copy X dX4_copyFrom_66 f_X4_copyFrom_m31 f_X4_copyFrom_cn f_X4_copyFrom_cs f_X4_copyFrom_ci (by decide) (by decide) (s_vret X dX4_copyFrom_69 hr)))))))))))))))))))))))))))))))))))))
theorem w_X4_copyFrom (la : Launch) (sp : zSp) (vc : zVC_X4_copyFrom sp) : zMet la yX4_copyFrom wsX4_copyFrom (rm_X4_copyFrom) 0 0 sp :=
  z_of (cc := cX4_copyFrom) (maxL := 2) (ret := none) (by decide +kernel) rfl (fun p e s m args below meth c D cy b n as E P hsp X hr hin => by
    obtain ⟨h1, h2⟩ := vc b cy n as E P (zAt p la e (rm_X4_copyFrom) s m args below meth c (MQ below (zQ D b (n + 0) P) args s 0 0 (fun q => b ≤ q)) 2 D b n) hsp
    exact ⟨h1, S_X4_copyFrom_0 la X hr _ _ _ _ _ h2⟩)

theorem m_X4_copyFrom (la : Launch) : zMet la yX4_copyFrom wsX4_copyFrom rm_X4_copyFrom 0 0 sp_X4_copyFrom := w_X4_copyFrom la _ vc_X4_copyFrom
/-! BellCars$Past -/
def zPa (b : Nat) (cy : zY) (E : zE) (p n many : Nat) (past : Nat → Nat → Nat) : Prop := many ≤ 10 ∧ ∃ (old : Nat) (f : Nat → Option Nat), old < 10 ∧ E p = .inr (2, [.int (nI many), .int (nI old), .ref (b + (p + 1))]) ∧ E (p + 1) = .inl (cy 4, 10, .inr (.inr (.inr (.inr f)))) ∧ (∀ j, j < 10 → f j = some (b + (p + 2 + 4 * j))) ∧ (∀ j, j < 10 → zSh b cy E (p + 2 + 4 * j)) ∧ (∀ t, t < many → zMo b cy E (p + 2 + 4 * ((old + t) % 10)) n (past t))
def zPaS (b : Nat) (cy : zY) (E : zE) (p : Nat) : Prop := ∃ (s0 s1 : Int32) (f : Nat → Option Nat), E p = .inr (2, [.int s0, .int s1, .ref (b + (p + 1))]) ∧ E (p + 1) = .inl (cy 4, 10, .inr (.inr (.inr (.inr f)))) ∧ (∀ j, j < 10 → f j = some (b + (p + 2 + 4 * j))) ∧ (∀ j, j < 10 → zSh b cy E (p + 2 + 4 * j))
theorem zPa.congr {b : Nat} {cy : zY} {E E' : zE} {p n many : Nat} {past : Nat → Nat → Nat} (h : zPa b cy E p n many past) (hE : ∀ j, p ≤ j → j ≤ p + 41 → E' j = E j) : zPa b cy E' p n many past := by
  obtain ⟨hm, old, f, ho, h0, h1, hf, hs, hp⟩ := h
  refine ⟨hm, old, f, ho, by rw [hE _ (by omega) (by omega)]; exact h0, by rw [hE _ (by omega) (by omega)]; exact h1, hf, fun j hj => (hs j hj).congr (fun k h1 h2 => hE k (by omega) (by omega)), fun t ht => (hp t ht).congr (fun k h1 h2 => hE k (by omega) (by omega))⟩
theorem zPaS.congr {b : Nat} {cy : zY} {E E' : zE} {p : Nat} (h : zPaS b cy E p) (hE : ∀ j, p ≤ j → j ≤ p + 41 → E' j = E j) : zPaS b cy E' p := by
  obtain ⟨s0, s1, f, h0, h1, hf, hs⟩ := h
  refine ⟨s0, s1, f, by rw [hE _ (by omega) (by omega)]; exact h0, by rw [hE _ (by omega) (by omega)]; exact h1, hf, fun j hj => (hs j hj).congr (fun k h1 h2 => hE k (by omega) (by omega))⟩
theorem zPa.sh {b : Nat} {cy : zY} {E : zE} {p n many : Nat} {past : Nat → Nat → Nat} (h : zPa b cy E p n many past) : zPaS b cy E p := by
  obtain ⟨hm, old, f, ho, h0, h1, hf, hs, hp⟩ := h
  exact ⟨_, _, f, h0, h1, hf, hs⟩
def sp_X2_placeOf : zSp := fun b cy as N E P => ∃ (p old t : Nat) (s0 : Int32) (v : Value), as = [.ref (b + p), .int (nI t)] ∧ p < N ∧ E p = .inr (2, [.int s0, .int (nI old), v]) ∧ old < 10 ∧ t ≤ 20 ∧ P (some (.int (nI ((old + t) % 10)))) E
abbrev rm_X2_placeOf : Room := { frames := 1, cells := 0, slots := 0, locals := 40 }
def B_X2_placeOf_0 (b n0 : Nat) (cy : zY) (P : zPo) (A : Nat → zC) : zC :=
  z_aload 0 (z_get b n0 2 1 (z_iload 1 (z_bin (fun x y => x + y) (z_const (10) (z_bin0 (fun x y => x - x / y * y) (z_iret 0 0 P))))))
def zVC_X2_placeOf (sp : zSp) : Prop := ∀ (b : Nat) (cy : zY) (n : Nat) (as : List Value) (E : zE) (P : zPo) (A : Nat → zC), sp b cy as n E P → zgood as 2 ∧ B_X2_placeOf_0 b n cy P A (lv_args 0 as) [] 0 0 E

set_option maxRecDepth 100000 in
set_option maxHeartbeats 4000000 in
theorem vc_X2_placeOf : zVC_X2_placeOf sp_X2_placeOf := by
  intro b cy N as E P A hsp
  obtain ⟨p, old, t, s0, v, rfl, hp, h0, ho, ht, hP⟩ := hsp
  refine ⟨⟨Nat.le_of_ble_eq_true rfl, zg1 rfl (zg1 rfl (zg0))⟩, ?_⟩
  have q10 : (10 : Int32) = nI 10 := rfl
  have n10 : ¬ nI 10 = 0 := by decide
  have hr : nI (old + t) - nI (old + t) / nI 10 * nI 10 = nI ((old + t) % 10) := pk_rem (by omega) (by omega) (by omega)
  simp only [B_X2_placeOf_0, e_cut, e_iload, e_aload, e_istore, e_astore, e_iinc, e_const, e_lconst, e_bin, e_bin0, e_un, e_ladd, e_dupi, e_dupr, e_dup2, e_pop, e_if, e_icmp, e_sw, e_sw0, e_sw1, e_get, e_put, e_ald, e_ast, e_aald, e_aast, e_copy, e_new, e_newa, e_anewa, e_min, e_abs, e_oinit, e_callI, e_callV, e_callS, e_iret, e_zret, e_lret, e_vret, e_tl1, e_tl0, e_tl2, e_tl3, z10, Bool.false_eq_true, e_argi, e_argr, e_argn, zld_c, zst_n, zst_c, zpick_n, zpick_c, List.drop_succ_cons, List.drop_zero, List.take_succ_cons, List.take_zero, List.length_cons, List.length_nil, List.reverse_cons, List.reverse_nil, List.nil_append, List.cons_append, List.append_nil, List.getElem?_cons_zero, List.getElem?_cons_succ, List.set_cons_zero, List.set_cons_succ, Nat.add_sub_cancel_left, Nat.sub_self, Nat.add_zero, Nat.zero_add, Nat.le_add_right, Nat.le_refl, true_and, and_true, va_rf, zok, Nat.add_left_cancel_iff, Nat.add_eq_left, Nat.left_eq_add, eq_self, if_true, if_false, not_false_eq_true, not_true_eq_false, false_implies, true_implies, Nat.reduceEqDiff, Nat.reduceAdd, Nat.reduceLT, Nat.reduceLeDiff, reduceIte, h0, hp, q10, n10, nI_add, hr]
  exact hP
set_option maxRecDepth 20000 in
theorem f_X2_placeOf_30 : Cond.fieldLink RX2 30 (TX2 1).1 (TX2 1).2.1 (TX2 1).2.2.1 ∈ wsX2_placeOf := by decide +kernel
set_option maxRecDepth 20000 in
theorem k_X2_placeOf_2 : ∀ w ∈ u_ws RX2 TX2 3, w ∈ wsX2_placeOf := fun _ h => List.mem_cons_of_mem _ (List.mem_append_right _ h)
set_option maxRecDepth 100000 in
set_option maxHeartbeats 4000000 in
theorem S_X2_placeOf_0 {p : Program} {e : Env} {s : State} {m : MethodId} {args : Array Value} {below : List Frame} {meth : Method} {c : Code} {D : va_G} {cy : zY} {b n0 : Nat} {P : zPo} (la : Launch) (X : zX p la e (rm_X2_placeOf) s m args below meth c 2 D cy b n0 cX2_placeOf wsX2_placeOf RX2) (hr : meth.sig.returnType = (some .int)) : zS p la e (rm_X2_placeOf) s m args below meth c (MQ below (zQ D b (n0 + 0) P) args s 0 0 (fun q => b ≤ q)) 2 D b n0 0 (B_X2_placeOf_0 b n0 cy P (zAt p la e (rm_X2_placeOf) s m args below meth c (MQ below (zQ D b (n0 + 0) P) args s 0 0 (fun q => b ≤ q)) 2 D b n0)) := by
  unfold B_X2_placeOf_0
  exact (s_aload_n X dX2_placeOf_0 rfl (s_get X dX2_placeOf_1 rfl k_X2_placeOf_2 (by decide) f_X2_placeOf_30 (s_iload_n X dX2_placeOf_4 rfl (s_iadd X dX2_placeOf_5 (s_bipush X dX2_placeOf_6 (by decide) (s_irem X dX2_placeOf_8 (s_iret X dX2_placeOf_9 hr)))))))
theorem w_X2_placeOf (la : Launch) (sp : zSp) (vc : zVC_X2_placeOf sp) : zMet la yX2_placeOf wsX2_placeOf (rm_X2_placeOf) 0 0 sp :=
  z_of (cc := cX2_placeOf) (maxL := 2) (ret := (some .int)) (by decide +kernel) rfl (fun p e s m args below meth c D cy b n as E P hsp X hr hin => by
    obtain ⟨h1, h2⟩ := vc b cy n as E P (zAt p la e (rm_X2_placeOf) s m args below meth c (MQ below (zQ D b (n + 0) P) args s 0 0 (fun q => b ≤ q)) 2 D b n) hsp
    exact ⟨h1, S_X2_placeOf_0 la X hr _ _ _ _ _ h2⟩)

theorem m_X2_placeOf (la : Launch) : zMet la yX2_placeOf wsX2_placeOf rm_X2_placeOf 0 0 sp_X2_placeOf := w_X2_placeOf la _ vc_X2_placeOf
/-- the past with one more moment -/
def zpushN (many : Nat) : Nat := if many < 10 then many + 1 else 10
def zpushP (many : Nat) (past : Nat → Nat → Nat) (c : Nat → Nat) : Nat → Nat → Nat := fun t => if many < 10 then (if t = many then c else past t) else (if t = 9 then c else past (t + 1))
def sp_X2_push : zSp := fun b cy as N E P => ∃ (p i n many : Nat) (past : Nat → Nat → Nat) (c : Nat → Nat), as = [.ref (b + p), .ref (b + i)] ∧ zPa b cy E p n many past ∧ zMo b cy E i n c ∧ p + 41 < N ∧ i + 3 < N ∧ (i + 3 < p ∨ p + 41 < i) ∧ (∀ E', zPa b cy E' p n (zpushN many) (zpushP many past c) → (∀ k, k < p ∨ p + 41 < k → E' k = E k) → P none E')
abbrev rm_X2_push : Room := { frames := 2, cells := 0, slots := 0, locals := 61 }
def B_X2_push_48 (b n0 : Nat) (cy : zY) (P : zPo) (A : Nat → zC) : zC :=
  z_vret 0 0 P
def B_X2_push_0 (b n0 : Nat) (cy : zY) (P : zPo) (A : Nat → zC) : zC :=
  z_aload 0 (z_get b n0 2 2 (z_aload 0 (z_aload 0 (z_get b n0 2 0 (z_callV b n0 0 0 cy 2 1 0 0 sp_X2_placeOf (z_aald b n0 (cy 4) (z_aload 1 (z_callV b n0 0 0 cy 1 1 0 0 sp_X1_copyFrom (z_aload 0 (z_get b n0 2 0 (z_const (10) (z_icmp (fun x y => y ≤ x) (z_aload 0 (z_aload 0 (z_const (1) (z_callV b n0 0 0 cy 2 1 0 0 sp_X2_placeOf (z_put b n0 2 1 0 (B_X2_push_48 b n0 cy P A)))))) (z_aload 0 (z_dup (z_get b n0 2 0 (z_const (1) (z_bin (fun x y => x + y) (z_put b n0 2 0 0 (B_X2_push_48 b n0 cy P A)))))))))))))))))))
def zVC_X2_push (sp : zSp) : Prop := ∀ (b : Nat) (cy : zY) (n : Nat) (as : List Value) (E : zE) (P : zPo) (A : Nat → zC), sp b cy as n E P → zgood as 2 ∧ B_X2_push_0 b n cy P A (lv_args 0 as) [] 0 0 E

set_option maxRecDepth 100000 in
set_option maxHeartbeats 4000000 in
theorem vc_X2_push : zVC_X2_push sp_X2_push := by
  intro b cy N as E P A hsp
  obtain ⟨p, i, n, many, past, c, rfl, ⟨hm, old, f, ho, h0, h1, hf, hs, hp⟩, hc, hpN, hiN, hip, hP⟩ := hsp
  refine ⟨⟨Nat.le_of_ble_eq_true rfl, zg1 rfl (zg1 rfl (zg0))⟩, ?_⟩
  have hp0 : p < N := by omega
  have hp1 : p + 1 < N := by omega
  have hlt : (old + many) % 10 < 10 := Nat.mod_lt _ (by omega)
  have hin : vp_in (nI ((old + many) % 10)) 10 := vp_in_nI hlt (by omega)
  have hcl : (nI ((old + many) % 10)).toNatClampNeg = (old + many) % 10 := nI_clamp (by omega)
  generalize hq : p + 2 + 4 * ((old + many) % 10) = q at *
  have hqN : q < N := by omega
  obtain ⟨s0, s1, s2, s3, f1, g1, k1, j0, j1, j2, j3⟩ : zSh b cy E q := by rw [← hq]; exact hs _ hlt
  simp only [B_X2_push_0, B_X2_push_48, e_cut, e_iload, e_aload, e_istore, e_astore, e_iinc, e_const, e_lconst, e_bin, e_bin0, e_un, e_ladd, e_dupi, e_dupr, e_dup2, e_pop, e_if, e_icmp, e_sw, e_sw0, e_sw1, e_get, e_put, e_ald, e_ast, e_aald, e_aast, e_copy, e_new, e_newa, e_anewa, e_min, e_abs, e_oinit, e_callI, e_callV, e_callS, e_iret, e_zret, e_lret, e_vret, e_tl1, e_tl0, e_tl2, e_tl3, z10, Bool.false_eq_true, e_argi, e_argr, e_argn, zld_c, zst_n, zst_c, zpick_n, zpick_c, List.drop_succ_cons, List.drop_zero, List.take_succ_cons, List.take_zero, List.length_cons, List.length_nil, List.reverse_cons, List.reverse_nil, List.nil_append, List.cons_append, List.append_nil, List.getElem?_cons_zero, List.getElem?_cons_succ, List.set_cons_zero, List.set_cons_succ, Nat.add_sub_cancel_left, Nat.sub_self, Nat.add_zero, Nat.zero_add, Nat.le_add_right, Nat.le_refl, true_and, and_true, va_rf, zok, Nat.add_left_cancel_iff, Nat.add_eq_left, Nat.left_eq_add, eq_self, if_true, if_false, not_false_eq_true, not_true_eq_false, false_implies, true_implies, Nat.reduceEqDiff, Nat.reduceAdd, Nat.reduceLT, Nat.reduceLeDiff, reduceIte, h0, hp0]
  refine ⟨p, old, many, nI many, _, rfl, hp0, h0, ho, by omega, ?_⟩
  have hfq : f ((old + many) % 10) = some (b + q) := by rw [hf _ hlt, hq]
  simp only [e_cut, e_iload, e_aload, e_istore, e_astore, e_iinc, e_const, e_lconst, e_bin, e_bin0, e_un, e_ladd, e_dupi, e_dupr, e_dup2, e_pop, e_if, e_icmp, e_sw, e_sw0, e_sw1, e_get, e_put, e_ald, e_ast, e_aald, e_aast, e_copy, e_new, e_newa, e_anewa, e_min, e_abs, e_oinit, e_callI, e_callV, e_callS, e_iret, e_zret, e_lret, e_vret, e_tl1, e_tl0, e_tl2, e_tl3, z10, Bool.false_eq_true, e_argi, e_argr, e_argn, zld_c, zst_n, zst_c, zpick_n, zpick_c, List.drop_succ_cons, List.drop_zero, List.take_succ_cons, List.take_zero, List.length_cons, List.length_nil, List.reverse_cons, List.reverse_nil, List.nil_append, List.cons_append, List.append_nil, List.getElem?_cons_zero, List.getElem?_cons_succ, List.set_cons_zero, List.set_cons_succ, Nat.add_sub_cancel_left, Nat.sub_self, Nat.add_zero, Nat.zero_add, Nat.le_add_right, Nat.le_refl, true_and, and_true, va_rf, zok, Nat.add_left_cancel_iff, Nat.add_eq_left, Nat.left_eq_add, eq_self, if_true, if_false, not_false_eq_true, not_true_eq_false, false_implies, true_implies, Nat.reduceEqDiff, Nat.reduceAdd, Nat.reduceLT, Nat.reduceLeDiff, reduceIte, h1, hp1, hin, hcl, hfq, hqN, j0]
  refine ⟨q, i, n, c, rfl, ⟨s0, s1, s2, s3, f1, g1, k1, j0, j1, j2, j3⟩, hc, by omega, hiN, by omega, fun E1 hq1 hk1 => ?_⟩
  have e0 : E1 p = .inr (2, [.int (nI many), .int (nI old), .ref (b + (p + 1))]) := by rw [hk1 _ (by omega)]; exact h0
  have e1 : E1 (p + 1) = .inl (cy 4, 10, .inr (.inr (.inr (.inr f)))) := by rw [hk1 _ (by omega)]; exact h1
  have q10 : (10 : Int32) = nI 10 := rfl
  have hs1 : ∀ j, j < 10 → zSh b cy E1 (p + 2 + 4 * j) := fun j hj => by
    by_cases h : j = (old + many) % 10
    · rw [h, hq]; exact hq1.sh
    · exact (hs j hj).congr (fun k a1 a2 => hk1 k (by omega))
  have hpz : ∀ t, t < many → (old + t) % 10 ≠ (old + many) % 10 → zMo b cy E1 (p + 2 + 4 * ((old + t) % 10)) n (past t) := fun t ht hne => by
    have := Nat.mod_lt (old + t) (by omega : 10 > 0)
    exact (hp t ht).congr (fun k a1 a2 => hk1 k (by omega))
  simp only [e_cut, e_iload, e_aload, e_istore, e_astore, e_iinc, e_const, e_lconst, e_bin, e_bin0, e_un, e_ladd, e_dupi, e_dupr, e_dup2, e_pop, e_if, e_icmp, e_sw, e_sw0, e_sw1, e_get, e_put, e_ald, e_ast, e_aald, e_aast, e_copy, e_new, e_newa, e_anewa, e_min, e_abs, e_oinit, e_callI, e_callV, e_callS, e_iret, e_zret, e_lret, e_vret, e_tl1, e_tl0, e_tl2, e_tl3, z10, Bool.false_eq_true, e_argi, e_argr, e_argn, zld_c, zst_n, zst_c, zpick_n, zpick_c, List.drop_succ_cons, List.drop_zero, List.take_succ_cons, List.take_zero, List.length_cons, List.length_nil, List.reverse_cons, List.reverse_nil, List.nil_append, List.cons_append, List.append_nil, List.getElem?_cons_zero, List.getElem?_cons_succ, List.set_cons_zero, List.set_cons_succ, Nat.add_sub_cancel_left, Nat.sub_self, Nat.add_zero, Nat.zero_add, Nat.le_add_right, Nat.le_refl, true_and, and_true, va_rf, zok, Nat.add_left_cancel_iff, Nat.add_eq_left, Nat.left_eq_add, eq_self, if_true, if_false, not_false_eq_true, not_true_eq_false, false_implies, true_implies, Nat.reduceEqDiff, Nat.reduceAdd, Nat.reduceLT, Nat.reduceLeDiff, reduceIte, e0, hp0, q10]
  refine ⟨fun c1 => ?_, fun c1 => ?_⟩
  · have hm10 : many = 10 := by
      rcases Nat.lt_or_ge many 10 with h | h
      · exact absurd c1 (nI_ge h (by omega))
      · omega
    subst hm10
    refine ⟨p, old, 1, nI 10, _, rfl, hp0, e0, ho, by omega, ?_⟩
    simp only [e_cut, e_iload, e_aload, e_istore, e_astore, e_iinc, e_const, e_lconst, e_bin, e_bin0, e_un, e_ladd, e_dupi, e_dupr, e_dup2, e_pop, e_if, e_icmp, e_sw, e_sw0, e_sw1, e_get, e_put, e_ald, e_ast, e_aald, e_aast, e_copy, e_new, e_newa, e_anewa, e_min, e_abs, e_oinit, e_callI, e_callV, e_callS, e_iret, e_zret, e_lret, e_vret, e_tl1, e_tl0, e_tl2, e_tl3, z10, Bool.false_eq_true, e_argi, e_argr, e_argn, zld_c, zst_n, zst_c, zpick_n, zpick_c, List.drop_succ_cons, List.drop_zero, List.take_succ_cons, List.take_zero, List.length_cons, List.length_nil, List.reverse_cons, List.reverse_nil, List.nil_append, List.cons_append, List.append_nil, List.getElem?_cons_zero, List.getElem?_cons_succ, List.set_cons_zero, List.set_cons_succ, Nat.add_sub_cancel_left, Nat.sub_self, Nat.add_zero, Nat.zero_add, Nat.le_add_right, Nat.le_refl, true_and, and_true, va_rf, zok, Nat.add_left_cancel_iff, Nat.add_eq_left, Nat.left_eq_add, eq_self, if_true, if_false, not_false_eq_true, not_true_eq_false, false_implies, true_implies, Nat.reduceEqDiff, Nat.reduceAdd, Nat.reduceLT, Nat.reduceLeDiff, reduceIte, B_X2_push_0, B_X2_push_48, e0, hp0]
    refine hP _ ⟨by decide, (old + 1) % 10, f, Nat.mod_lt _ (by omega), ?_, ?_, hf, ?_, ?_⟩ ?_
    · simp [e_up, zpushN]
    · simp [e_up, e1]
    · exact fun j hj => (hs1 j hj).congr (fun k a1 a2 => by simp only [e_up]; rw [if_neg (by omega)])
    · intro t ht
      have ht10 : t < 10 := ht
      have e9 : ((old + 1) % 10 + t) % 10 = (old + (t + 1)) % 10 := by omega
      rw [e9]
      have hz : zMo b cy E1 (p + 2 + 4 * ((old + (t + 1)) % 10)) n (zpushP 10 past c t) := by
        unfold zpushP
        rw [if_neg (by omega)]
        by_cases h : t = 9
        · subst h
          rw [if_pos rfl]
          have : (old + (9 + 1)) % 10 = (old + 10) % 10 := rfl
          rw [this, hq]; exact hq1
        · rw [if_neg h]
          exact hpz (t + 1) (by omega) (by omega)
      exact hz.congr (fun k a1 a2 => by simp only [e_up]; rw [if_neg (by omega)])
    · intro k hk
      simp only [e_up]; rw [if_neg (by omega)]; exact hk1 k (by omega)
  · have hm10 : many < 10 := by
      rcases Nat.lt_or_ge many 10 with h | h
      · exact h
      · exact absurd (nI_le h (by omega)) c1
    simp only [e_cut, e_iload, e_aload, e_istore, e_astore, e_iinc, e_const, e_lconst, e_bin, e_bin0, e_un, e_ladd, e_dupi, e_dupr, e_dup2, e_pop, e_if, e_icmp, e_sw, e_sw0, e_sw1, e_get, e_put, e_ald, e_ast, e_aald, e_aast, e_copy, e_new, e_newa, e_anewa, e_min, e_abs, e_oinit, e_callI, e_callV, e_callS, e_iret, e_zret, e_lret, e_vret, e_tl1, e_tl0, e_tl2, e_tl3, z10, Bool.false_eq_true, e_argi, e_argr, e_argn, zld_c, zst_n, zst_c, zpick_n, zpick_c, List.drop_succ_cons, List.drop_zero, List.take_succ_cons, List.take_zero, List.length_cons, List.length_nil, List.reverse_cons, List.reverse_nil, List.nil_append, List.cons_append, List.append_nil, List.getElem?_cons_zero, List.getElem?_cons_succ, List.set_cons_zero, List.set_cons_succ, Nat.add_sub_cancel_left, Nat.sub_self, Nat.add_zero, Nat.zero_add, Nat.le_add_right, Nat.le_refl, true_and, and_true, va_rf, zok, Nat.add_left_cancel_iff, Nat.add_eq_left, Nat.left_eq_add, eq_self, if_true, if_false, not_false_eq_true, not_true_eq_false, false_implies, true_implies, Nat.reduceEqDiff, Nat.reduceAdd, Nat.reduceLT, Nat.reduceLeDiff, reduceIte, B_X2_push_0, B_X2_push_48, e0, hp0, nI_1]
    refine hP _ ⟨by unfold zpushN; rw [if_pos hm10]; omega, old, f, ho, ?_, ?_, hf, ?_, ?_⟩ ?_
    · simp [e_up, zpushN, hm10]
    · simp [e_up, e1]
    · exact fun j hj => (hs1 j hj).congr (fun k a1 a2 => by simp only [e_up]; rw [if_neg (by omega)])
    · intro t ht
      have ht' : t < many + 1 := by unfold zpushN at ht; rw [if_pos hm10] at ht; exact ht
      have hz : zMo b cy E1 (p + 2 + 4 * ((old + t) % 10)) n (zpushP many past c t) := by
        unfold zpushP
        rw [if_pos hm10]
        by_cases h : t = many
        · subst h; rw [if_pos rfl, hq]; exact hq1
        · rw [if_neg h]
          exact hpz t (by omega) (by omega)
      exact hz.congr (fun k a1 a2 => by simp only [e_up]; rw [if_neg (by omega)])
    · intro k hk
      simp only [e_up]; rw [if_neg (by omega)]; exact hk1 k (by omega)
set_option maxRecDepth 20000 in
theorem f_X2_push_11 : Cond.fieldLink RX2 11 (TX2 2).1 (TX2 2).2.1 (TX2 2).2.2.1 ∈ wsX2_push := by decide +kernel
set_option maxRecDepth 20000 in
theorem k_X2_push_2 : ∀ w ∈ u_ws RX2 TX2 3, w ∈ wsX2_push := fun _ h => List.mem_cons_of_mem _ (List.mem_append_left _ (List.mem_append_right _ h))
set_option maxRecDepth 20000 in
theorem f_X2_push_18 : Cond.fieldLink RX2 18 (TX2 0).1 (TX2 0).2.1 (TX2 0).2.2.1 ∈ wsX2_push := by decide +kernel
set_option maxRecDepth 20000 in
theorem f_X2_push_30 : Cond.fieldLink RX2 30 (TX2 1).1 (TX2 1).2.1 (TX2 1).2.2.1 ∈ wsX2_push := by decide +kernel
set_option maxRecDepth 100000 in
set_option maxHeartbeats 4000000 in
theorem S_X2_push_48 {p : Program} {e : Env} {s : State} {m : MethodId} {args : Array Value} {below : List Frame} {meth : Method} {c : Code} {D : va_G} {cy : zY} {b n0 : Nat} {P : zPo} (la : Launch) (X : zX p la e (rm_X2_push) s m args below meth c 2 D cy b n0 cX2_push wsX2_push RX2) (hr : meth.sig.returnType = none) (h_X1_copyFrom : zMet la yX1_copyFrom wsX1_copyFrom rm_X1_copyFrom 0 0 sp_X1_copyFrom) (h_X2_placeOf : zMet la yX2_placeOf wsX2_placeOf rm_X2_placeOf 0 0 sp_X2_placeOf) : zS p la e (rm_X2_push) s m args below meth c (MQ below (zQ D b (n0 + 0) P) args s 0 0 (fun q => b ≤ q)) 2 D b n0 48 (B_X2_push_48 b n0 cy P (zAt p la e (rm_X2_push) s m args below meth c (MQ below (zQ D b (n0 + 0) P) args s 0 0 (fun q => b ≤ q)) 2 D b n0)) := by
  unfold B_X2_push_48
  exact (s_vret X dX2_push_48 hr)
set_option maxRecDepth 100000 in
set_option maxHeartbeats 4000000 in
theorem S_X2_push_0 {p : Program} {e : Env} {s : State} {m : MethodId} {args : Array Value} {below : List Frame} {meth : Method} {c : Code} {D : va_G} {cy : zY} {b n0 : Nat} {P : zPo} (la : Launch) (X : zX p la e (rm_X2_push) s m args below meth c 2 D cy b n0 cX2_push wsX2_push RX2) (hr : meth.sig.returnType = none) (h_X1_copyFrom : zMet la yX1_copyFrom wsX1_copyFrom rm_X1_copyFrom 0 0 sp_X1_copyFrom) (h_X2_placeOf : zMet la yX2_placeOf wsX2_placeOf rm_X2_placeOf 0 0 sp_X2_placeOf) : zS p la e (rm_X2_push) s m args below meth c (MQ below (zQ D b (n0 + 0) P) args s 0 0 (fun q => b ≤ q)) 2 D b n0 0 (B_X2_push_0 b n0 cy P (zAt p la e (rm_X2_push) s m args below meth c (MQ below (zQ D b (n0 + 0) P) args s 0 0 (fun q => b ≤ q)) 2 D b n0)) := by
  unfold B_X2_push_0
  exact (s_aload_n X dX2_push_0 rfl (s_get X dX2_push_1 rfl k_X2_push_2 (by decide) f_X2_push_11 (s_aload_n X dX2_push_4 rfl (s_aload_n X dX2_push_5 rfl (s_get X dX2_push_6 rfl k_X2_push_2 (by decide) f_X2_push_18 (s_callV X h_X2_placeOf dX2_push_9 rfl gX2_push_X2_placeOf rfl rfl rfl (by decide +kernel) ⟨by decide, by decide⟩ (s_aald X dX2_push_12 (t0 := 4) rfl (s_aload_n X dX2_push_13 rfl (s_callV X h_X1_copyFrom dX2_push_14 rfl gX2_push_X1_copyFrom rfl rfl rfl (by decide +kernel) ⟨by decide, by decide⟩ (s_aload_n X dX2_push_17 rfl (s_get X dX2_push_18 rfl k_X2_push_2 (by decide) f_X2_push_18 (s_bipush X dX2_push_21 (by decide) (s_icmp_ge X dX2_push_23 (by decide) (s_aload_n X dX2_push_39 rfl (s_aload_n X dX2_push_40 rfl (s_iconst X dX2_push_41 (by decide) (s_callV X h_X2_placeOf dX2_push_42 rfl gX2_push_X2_placeOf rfl rfl rfl (by decide +kernel) ⟨by decide, by decide⟩ (s_put X dX2_push_45 rfl k_X2_push_2 tyX2_ok nmX2 (by decide) f_X2_push_30 rfl (tyX2_ok 1 (by decide)) zok_int (S_X2_push_48 la X hr h_X1_copyFrom h_X2_placeOf)))))) (s_aload_n X dX2_push_26 rfl (s_dup X dX2_push_27 (s_get X dX2_push_28 rfl k_X2_push_2 (by decide) f_X2_push_18 (s_iconst X dX2_push_31 (by decide) (s_iadd X dX2_push_32 (s_put X dX2_push_33 rfl k_X2_push_2 tyX2_ok nmX2 (by decide) f_X2_push_18 rfl (tyX2_ok 0 (by decide)) zok_int (s_goto X dX2_push_36 (by decide) (S_X2_push_48 la X hr h_X1_copyFrom h_X2_placeOf)))))))))))))))))))))
theorem w_X2_push (la : Launch) (h_X1_copyFrom : zMet la yX1_copyFrom wsX1_copyFrom rm_X1_copyFrom 0 0 sp_X1_copyFrom) (h_X2_placeOf : zMet la yX2_placeOf wsX2_placeOf rm_X2_placeOf 0 0 sp_X2_placeOf) (sp : zSp) (vc : zVC_X2_push sp) : zMet la yX2_push wsX2_push (rm_X2_push) 0 0 sp :=
  z_of (cc := cX2_push) (maxL := 2) (ret := none) (by decide +kernel) rfl (fun p e s m args below meth c D cy b n as E P hsp X hr hin => by
    obtain ⟨h1, h2⟩ := vc b cy n as E P (zAt p la e (rm_X2_push) s m args below meth c (MQ below (zQ D b (n + 0) P) args s 0 0 (fun q => b ≤ q)) 2 D b n) hsp
    exact ⟨h1, S_X2_push_0 la X hr h_X1_copyFrom h_X2_placeOf _ _ _ _ _ h2⟩)

theorem m_X2_push (la : Launch) : zMet la yX2_push wsX2_push rm_X2_push 0 0 sp_X2_push := w_X2_push la (m_X1_copyFrom la) (m_X2_placeOf la) _ vc_X2_push
def sp_X2_popInto : zSp := fun b cy as N E P => ∃ (p i n many : Nat) (past : Nat → Nat → Nat), as = [.ref (b + p), .ref (b + i)] ∧ zPa b cy E p n (many + 1) past ∧ zSh b cy E i ∧ p + 41 < N ∧ i + 3 < N ∧ (i + 3 < p ∨ p + 41 < i) ∧ (∀ E', zPa b cy E' p n many past → zMo b cy E' i n (past many) → (∀ k, (k < p ∨ p < k) → (k < i ∨ i + 3 < k) → E' k = E k) → P none E')
abbrev rm_X2_popInto : Room := { frames := 2, cells := 0, slots := 0, locals := 61 }
def B_X2_popInto_34 (b n0 : Nat) (cy : zY) (P : zPo) (A : Nat → zC) : zC :=
  z_vret 0 0 P
def B_X2_popInto_0 (b n0 : Nat) (cy : zY) (P : zPo) (A : Nat → zC) : zC :=
  z_aload 0 (z_get b n0 2 0 (z_if (fun x => x ≤ 0) (B_X2_popInto_34 b n0 cy P A) (z_aload 0 (z_dup (z_get b n0 2 0 (z_const (1) (z_bin (fun x y => x - y) (z_put b n0 2 0 0 (z_aload 1 (z_aload 0 (z_get b n0 2 2 (z_aload 0 (z_aload 0 (z_get b n0 2 0 (z_callV b n0 0 0 cy 2 1 0 0 sp_X2_placeOf (z_aald b n0 (cy 4) (z_callV b n0 0 0 cy 1 1 0 0 sp_X1_copyFrom (B_X2_popInto_34 b n0 cy P A))))))))))))))))))
def zVC_X2_popInto (sp : zSp) : Prop := ∀ (b : Nat) (cy : zY) (n : Nat) (as : List Value) (E : zE) (P : zPo) (A : Nat → zC), sp b cy as n E P → zgood as 2 ∧ B_X2_popInto_0 b n cy P A (lv_args 0 as) [] 0 0 E

set_option maxRecDepth 100000 in
set_option maxHeartbeats 4000000 in
theorem vc_X2_popInto : zVC_X2_popInto sp_X2_popInto := by
  intro b cy N as E P A hsp
  obtain ⟨p, i, n, many, past, rfl, ⟨hm, old, f, ho, h0, h1, hf, hs, hp⟩, ⟨s0, s1, s2, s3, f1, g1, k1, i0, i1, i2, i3⟩, hpN, hiN, hip, hP⟩ := hsp
  refine ⟨⟨Nat.le_of_ble_eq_true rfl, zg1 rfl (zg1 rfl (zg0))⟩, ?_⟩
  have hp0 : p < N := by omega
  have hi0 : i < N := by omega
  have hp1 : p + 1 < N := by omega
  have hlt : (old + many) % 10 < 10 := Nat.mod_lt _ (by omega)
  have hin : vp_in (nI ((old + many) % 10)) 10 := vp_in_nI hlt (by omega)
  have hcl : (nI ((old + many) % 10)).toNatClampNeg = (old + many) % 10 := nI_clamp (by omega)
  have hfq : f ((old + many) % 10) = some (b + (p + 2 + 4 * ((old + many) % 10))) := hf _ hlt
  have c0 : ¬ nI (many + 1) ≤ 0 := nI_nle (by omega) (by omega)
  have ip : (i = p) = False := eq_false (by omega)
  simp only [B_X2_popInto_0, B_X2_popInto_34, e_cut, e_iload, e_aload, e_istore, e_astore, e_iinc, e_const, e_lconst, e_bin, e_bin0, e_un, e_ladd, e_dupi, e_dupr, e_dup2, e_pop, e_if, e_icmp, e_sw, e_sw0, e_sw1, e_get, e_put, e_ald, e_ast, e_aald, e_aast, e_copy, e_new, e_newa, e_anewa, e_min, e_abs, e_oinit, e_callI, e_callV, e_callS, e_iret, e_zret, e_lret, e_vret, e_tl1, e_tl0, e_tl2, e_tl3, z10, Bool.false_eq_true, e_argi, e_argr, e_argn, zld_c, zst_n, zst_c, zpick_n, zpick_c, List.drop_succ_cons, List.drop_zero, List.take_succ_cons, List.take_zero, List.length_cons, List.length_nil, List.reverse_cons, List.reverse_nil, List.nil_append, List.cons_append, List.append_nil, List.getElem?_cons_zero, List.getElem?_cons_succ, List.set_cons_zero, List.set_cons_succ, Nat.add_sub_cancel_left, Nat.sub_self, Nat.add_zero, Nat.zero_add, Nat.le_add_right, Nat.le_refl, true_and, and_true, va_rf, zok, Nat.add_left_cancel_iff, Nat.add_eq_left, Nat.left_eq_add, eq_self, if_true, if_false, not_false_eq_true, not_true_eq_false, false_implies, true_implies, Nat.reduceEqDiff, Nat.reduceAdd, Nat.reduceLT, Nat.reduceLeDiff, reduceIte, h0, hp0, c0, nI_pred, e_up, h1, hp1]
  refine ⟨p, old, many, nI many, .ref (b + (p + 1)), rfl, hp0, by simp only [e_up, if_true], ho, by omega, ?_⟩
  simp only [e_cut, e_iload, e_aload, e_istore, e_astore, e_iinc, e_const, e_lconst, e_bin, e_bin0, e_un, e_ladd, e_dupi, e_dupr, e_dup2, e_pop, e_if, e_icmp, e_sw, e_sw0, e_sw1, e_get, e_put, e_ald, e_ast, e_aald, e_aast, e_copy, e_new, e_newa, e_anewa, e_min, e_abs, e_oinit, e_callI, e_callV, e_callS, e_iret, e_zret, e_lret, e_vret, e_tl1, e_tl0, e_tl2, e_tl3, z10, Bool.false_eq_true, e_argi, e_argr, e_argn, zld_c, zst_n, zst_c, zpick_n, zpick_c, List.drop_succ_cons, List.drop_zero, List.take_succ_cons, List.take_zero, List.length_cons, List.length_nil, List.reverse_cons, List.reverse_nil, List.nil_append, List.cons_append, List.append_nil, List.getElem?_cons_zero, List.getElem?_cons_succ, List.set_cons_zero, List.set_cons_succ, Nat.add_sub_cancel_left, Nat.sub_self, Nat.add_zero, Nat.zero_add, Nat.le_add_right, Nat.le_refl, true_and, and_true, va_rf, zok, Nat.add_left_cancel_iff, Nat.add_eq_left, Nat.left_eq_add, eq_self, if_true, if_false, not_false_eq_true, not_true_eq_false, false_implies, true_implies, Nat.reduceEqDiff, Nat.reduceAdd, Nat.reduceLT, Nat.reduceLeDiff, reduceIte, hin, hcl, hfq, e_up, i0, ip, hi0, h1, hp1]
  have hmo : zMo b cy (va_up E p (.inr (2, [.int (nI many), .int (nI old), .ref (b + (p + 1))]))) (p + 2 + 4 * ((old + many) % 10)) n (past many) := (hp many (by omega)).congr (fun k a1 a2 => by simp only [e_up]; rw [if_neg (by omega)])
  refine ⟨i, p + 2 + 4 * ((old + many) % 10), n, past many, rfl, zSh.congr ⟨s0, s1, s2, s3, f1, g1, k1, i0, i1, i2, i3⟩ (fun k a1 a2 => by simp only [e_up]; rw [if_neg (by omega)]), hmo, by omega, by omega, by omega, fun E1 hq1 hk1 => ?_⟩
  have hk2 : ∀ k, (k < p ∨ p < k) → (k < i ∨ i + 3 < k) → E1 k = E k := fun k a1 a2 => by
    rw [hk1 k a2]; simp only [e_up]; rw [if_neg (by omega)]
  simp only [e_cut, e_iload, e_aload, e_istore, e_astore, e_iinc, e_const, e_lconst, e_bin, e_bin0, e_un, e_ladd, e_dupi, e_dupr, e_dup2, e_pop, e_if, e_icmp, e_sw, e_sw0, e_sw1, e_get, e_put, e_ald, e_ast, e_aald, e_aast, e_copy, e_new, e_newa, e_anewa, e_min, e_abs, e_oinit, e_callI, e_callV, e_callS, e_iret, e_zret, e_lret, e_vret, e_tl1, e_tl0, e_tl2, e_tl3, z10, Bool.false_eq_true, e_argi, e_argr, e_argn, zld_c, zst_n, zst_c, zpick_n, zpick_c, List.drop_succ_cons, List.drop_zero, List.take_succ_cons, List.take_zero, List.length_cons, List.length_nil, List.reverse_cons, List.reverse_nil, List.nil_append, List.cons_append, List.append_nil, List.getElem?_cons_zero, List.getElem?_cons_succ, List.set_cons_zero, List.set_cons_succ, Nat.add_sub_cancel_left, Nat.sub_self, Nat.add_zero, Nat.zero_add, Nat.le_add_right, Nat.le_refl, true_and, and_true, va_rf, zok, Nat.add_left_cancel_iff, Nat.add_eq_left, Nat.left_eq_add, eq_self, if_true, if_false, not_false_eq_true, not_true_eq_false, false_implies, true_implies, Nat.reduceEqDiff, Nat.reduceAdd, Nat.reduceLT, Nat.reduceLeDiff, reduceIte]
  refine hP _ ⟨by omega, old, f, ho, ?_, ?_, hf, ?_, ?_⟩ hq1 hk2
  · rw [hk1 p (by omega)]; simp [e_up]
  · rw [hk2 _ (by omega) (by omega)]; exact h1
  · exact fun j hj => (hs j hj).congr (fun k a1 a2 => hk2 k (by omega) (by omega))
  · intro t ht
    have := Nat.mod_lt (old + t) (by omega : 10 > 0)
    exact (hp t (by omega)).congr (fun k a1 a2 => hk2 k (by omega) (by omega))
set_option maxRecDepth 20000 in
theorem f_X2_popInto_18 : Cond.fieldLink RX2 18 (TX2 0).1 (TX2 0).2.1 (TX2 0).2.2.1 ∈ wsX2_popInto := by decide +kernel
set_option maxRecDepth 20000 in
theorem k_X2_popInto_2 : ∀ w ∈ u_ws RX2 TX2 3, w ∈ wsX2_popInto := fun _ h => List.mem_cons_of_mem _ (List.mem_append_left _ (List.mem_append_right _ h))
set_option maxRecDepth 20000 in
theorem f_X2_popInto_11 : Cond.fieldLink RX2 11 (TX2 2).1 (TX2 2).2.1 (TX2 2).2.2.1 ∈ wsX2_popInto := by decide +kernel
set_option maxRecDepth 100000 in
set_option maxHeartbeats 4000000 in
theorem S_X2_popInto_34 {p : Program} {e : Env} {s : State} {m : MethodId} {args : Array Value} {below : List Frame} {meth : Method} {c : Code} {D : va_G} {cy : zY} {b n0 : Nat} {P : zPo} (la : Launch) (X : zX p la e (rm_X2_popInto) s m args below meth c 2 D cy b n0 cX2_popInto wsX2_popInto RX2) (hr : meth.sig.returnType = none) (h_X1_copyFrom : zMet la yX1_copyFrom wsX1_copyFrom rm_X1_copyFrom 0 0 sp_X1_copyFrom) (h_X2_placeOf : zMet la yX2_placeOf wsX2_placeOf rm_X2_placeOf 0 0 sp_X2_placeOf) : zS p la e (rm_X2_popInto) s m args below meth c (MQ below (zQ D b (n0 + 0) P) args s 0 0 (fun q => b ≤ q)) 2 D b n0 34 (B_X2_popInto_34 b n0 cy P (zAt p la e (rm_X2_popInto) s m args below meth c (MQ below (zQ D b (n0 + 0) P) args s 0 0 (fun q => b ≤ q)) 2 D b n0)) := by
  unfold B_X2_popInto_34
  exact (s_vret X dX2_popInto_34 hr)
set_option maxRecDepth 100000 in
set_option maxHeartbeats 4000000 in
theorem S_X2_popInto_0 {p : Program} {e : Env} {s : State} {m : MethodId} {args : Array Value} {below : List Frame} {meth : Method} {c : Code} {D : va_G} {cy : zY} {b n0 : Nat} {P : zPo} (la : Launch) (X : zX p la e (rm_X2_popInto) s m args below meth c 2 D cy b n0 cX2_popInto wsX2_popInto RX2) (hr : meth.sig.returnType = none) (h_X1_copyFrom : zMet la yX1_copyFrom wsX1_copyFrom rm_X1_copyFrom 0 0 sp_X1_copyFrom) (h_X2_placeOf : zMet la yX2_placeOf wsX2_placeOf rm_X2_placeOf 0 0 sp_X2_placeOf) : zS p la e (rm_X2_popInto) s m args below meth c (MQ below (zQ D b (n0 + 0) P) args s 0 0 (fun q => b ≤ q)) 2 D b n0 0 (B_X2_popInto_0 b n0 cy P (zAt p la e (rm_X2_popInto) s m args below meth c (MQ below (zQ D b (n0 + 0) P) args s 0 0 (fun q => b ≤ q)) 2 D b n0)) := by
  unfold B_X2_popInto_0
  exact (s_aload_n X dX2_popInto_0 rfl (s_get X dX2_popInto_1 rfl k_X2_popInto_2 (by decide) f_X2_popInto_18 (s_if_le X dX2_popInto_4 (by decide) (S_X2_popInto_34 la X hr h_X1_copyFrom h_X2_placeOf) (s_aload_n X dX2_popInto_7 rfl (s_dup X dX2_popInto_8 (s_get X dX2_popInto_9 rfl k_X2_popInto_2 (by decide) f_X2_popInto_18 (s_iconst X dX2_popInto_12 (by decide) (s_isub X dX2_popInto_13 (s_put X dX2_popInto_14 rfl k_X2_popInto_2 tyX2_ok nmX2 (by decide) f_X2_popInto_18 rfl (tyX2_ok 0 (by decide)) zok_int (s_aload_n X dX2_popInto_17 rfl (s_aload_n X dX2_popInto_18 rfl (s_get X dX2_popInto_19 rfl k_X2_popInto_2 (by decide) f_X2_popInto_11 (s_aload_n X dX2_popInto_22 rfl (s_aload_n X dX2_popInto_23 rfl (s_get X dX2_popInto_24 rfl k_X2_popInto_2 (by decide) f_X2_popInto_18 (s_callV X h_X2_placeOf dX2_popInto_27 rfl gX2_popInto_X2_placeOf rfl rfl rfl (by decide +kernel) ⟨by decide, by decide⟩ (s_aald X dX2_popInto_30 (t0 := 4) rfl (s_callV X h_X1_copyFrom dX2_popInto_31 rfl gX2_popInto_X1_copyFrom rfl rfl rfl (by decide +kernel) ⟨by decide, by decide⟩ (S_X2_popInto_34 la X hr h_X1_copyFrom h_X2_placeOf)))))))))))))))))))
theorem w_X2_popInto (la : Launch) (h_X1_copyFrom : zMet la yX1_copyFrom wsX1_copyFrom rm_X1_copyFrom 0 0 sp_X1_copyFrom) (h_X2_placeOf : zMet la yX2_placeOf wsX2_placeOf rm_X2_placeOf 0 0 sp_X2_placeOf) (sp : zSp) (vc : zVC_X2_popInto sp) : zMet la yX2_popInto wsX2_popInto (rm_X2_popInto) 0 0 sp :=
  z_of (cc := cX2_popInto) (maxL := 2) (ret := none) (by decide +kernel) rfl (fun p e s m args below meth c D cy b n as E P hsp X hr hin => by
    obtain ⟨h1, h2⟩ := vc b cy n as E P (zAt p la e (rm_X2_popInto) s m args below meth c (MQ below (zQ D b (n + 0) P) args s 0 0 (fun q => b ≤ q)) 2 D b n) hsp
    exact ⟨h1, S_X2_popInto_0 la X hr h_X1_copyFrom h_X2_placeOf _ _ _ _ _ h2⟩)

theorem m_X2_popInto (la : Launch) : zMet la yX2_popInto wsX2_popInto rm_X2_popInto 0 0 sp_X2_popInto := w_X2_popInto la (m_X1_copyFrom la) (m_X2_placeOf la) _ vc_X2_popInto

