def sp_X6_init : zSp := fun b cy as N E P => as = [.ref (b + 159)] ∧ N = 160 ∧ E 159 = .inr (6, [.long 0, .null, .int 0, .null, .null, .null, .null, .null, .int 0, .int 0, .int 0, .int 0, .int 0, .int 0, .null, .null, .null, .null, .null, .null, .int 0]) ∧ (∀ E', zMD b cy E' za0 → (∀ j, j < 159 → E' j = E j) → P none E')
abbrev rm_X6_init : Room := { frames := 2, cells := 12, slots := 1945, locals := 61 }
def B_X6_init_0 (b n0 : Nat) (cy : zY) (P : zPo) (A : Nat → zC) : zC :=
  z_aload 0 (z_oinit (z_aload 0 (z_const (120) (z_newa b n0 12 1945 (cy 0) (z_put b n0 6 1 1 (z_aload 0 (z_const (2) (z_newa b n0 12 1945 (cy 1) (z_put b n0 6 3 1 (z_aload 0 (z_const (6) (z_newa b n0 12 1945 (cy 1) (z_put b n0 6 4 1 (z_aload 0 (z_const (12) (z_newa b n0 12 1945 (cy 1) (z_put b n0 6 5 1 (z_aload 0 (z_const (12) (z_newa b n0 12 1945 (cy 1) (z_put b n0 6 6 1 (z_aload 0 (z_const (2) (z_newa b n0 12 1945 (cy 1) (z_put b n0 6 7 1 (z_aload 0 (z_const (1719) (z_newa b n0 12 1945 (cy 1) (z_put b n0 6 14 1 (z_aload 0 (z_const (2) (z_newa b n0 12 1945 (cy 2) (z_put b n0 6 15 1 (z_aload 0 (z_const (52) (z_newa b n0 12 1945 (cy 1) (z_put b n0 6 16 1 (z_aload 0 (z_const (6) (z_newa b n0 12 1945 (cy 1) (z_put b n0 6 17 1 (z_aload 0 (z_const (6) (z_newa b n0 12 1945 (cy 1) (z_put b n0 6 18 1 (z_aload 0 (z_const (6) (z_newa b n0 12 1945 (cy 1) (z_put b n0 6 19 1 (z_aload 0 (z_callV b n0 12 1945 cy 6 0 0 0 sp_X6_plain (z_aload 0 (z_callV b n0 12 1945 cy 6 0 0 0 sp_X6_takeDraft (z_vret 12 1945 P))))))))))))))))))))))))))))))))))))))))))))))))))))))
def zVC_X6_init (sp : zSp) : Prop := ∀ (b : Nat) (cy : zY) (n : Nat) (as : List Value) (E : zE) (P : zPo) (A : Nat → zC), sp b cy as n E P → zgood as 1 ∧ B_X6_init_0 b n cy P A (lv_args 0 as) [] 0 0 E

set_option maxRecDepth 100000 in
set_option maxHeartbeats 4000000 in
theorem vc_X6_init : zVC_X6_init sp_X6_init := by
  intro b cy N as E P A hsp
  obtain ⟨rfl, rfl, e0, hP⟩ := hsp
  refine ⟨⟨Nat.le_of_ble_eq_true rfl, zg1 rfl (zg0)⟩, ?_⟩
  have d2 : (2 : Int32).toNatClampNeg = 2 := rfl
  have d6 : (6 : Int32).toNatClampNeg = 6 := rfl
  have d12 : (12 : Int32).toNatClampNeg = 12 := rfl
  have d52 : (52 : Int32).toNatClampNeg = 52 := rfl
  have d120 : (120 : Int32).toNatClampNeg = 120 := rfl
  have d1719 : (1719 : Int32).toNatClampNeg = 1719 := rfl
  have g2 : ¬ (2 : Int32) < 0 := by decide
  have g6 : ¬ (6 : Int32) < 0 := by decide
  have g12 : ¬ (12 : Int32) < 0 := by decide
  have g52 : ¬ (52 : Int32) < 0 := by decide
  have g120 : ¬ (120 : Int32) < 0 := by decide
  have g1719 : ¬ (1719 : Int32) < 0 := by decide
  simp -implicitDefEqProofs only [B_X6_init_0, e_cut, e_iload, e_aload, e_istore, e_astore, e_iinc, e_const, e_lconst, e_bin, e_bin0, e_un, e_ladd, e_dupi, e_dupr, e_dup2, e_pop, e_if, e_icmp, e_sw, e_sw0, e_sw1, e_get, e_put, e_ald, e_ast, e_aald, e_aast, e_copy, e_new, e_newa, e_anewa, e_min, e_abs, e_oinit, e_callI, e_callV, e_callS, e_iret, e_zret, e_lret, e_vret, e_tl1, e_tl0, e_tl2, e_tl3, z10, Bool.false_eq_true, e_argi, e_argr, e_argn, zld_c, zst_n, zst_c, zpick_n, zpick_c, List.drop_succ_cons, List.drop_zero, List.take_succ_cons, List.take_zero, List.length_cons, List.length_nil, List.reverse_cons, List.reverse_nil, List.nil_append, List.cons_append, List.append_nil, List.getElem?_cons_zero, List.getElem?_cons_succ, List.set_cons_zero, List.set_cons_succ, Nat.add_sub_cancel_left, Nat.sub_self, Nat.add_zero, Nat.zero_add, Nat.le_add_right, Nat.le_refl, true_and, and_true, va_rf, zok, Nat.add_left_cancel_iff, Nat.add_eq_left, Nat.left_eq_add, eq_self, if_true, if_false, not_false_eq_true, not_true_eq_false, false_implies, true_implies, Nat.reduceEqDiff, Nat.reduceAdd, Nat.reduceLT, Nat.reduceLeDiff, reduceIte, e0, e_up, d2, d6, d12, d52, d120, d1719, g2, g6, g12, g52, g120, g1719]
  refine ⟨0, 0, 0, 0, 0, 0, 0, 0, 0, (0, fun _ => 0, fun _ => 0, 0), rfl, u_eq, ⟨⟨fun _ => 0, by simp [e_up], rfl⟩, ⟨fun _ => 0, by simp [e_up]⟩, ⟨fun _ => 0, by simp [e_up], fun j hj => absurd hj (Nat.not_lt_zero _)⟩, ⟨fun _ => 0, by simp [e_up], fun j hj => absurd hj (Nat.not_lt_zero _)⟩, ⟨fun _ => 0, by simp [e_up], rfl⟩⟩, by omega, fun E1 g1 hd1 hk1 => ?_⟩
  simp -implicitDefEqProofs only [e_cut, e_iload, e_aload, e_istore, e_astore, e_iinc, e_const, e_lconst, e_bin, e_bin0, e_un, e_ladd, e_dupi, e_dupr, e_dup2, e_pop, e_if, e_icmp, e_sw, e_sw0, e_sw1, e_get, e_put, e_ald, e_ast, e_aald, e_aast, e_copy, e_new, e_newa, e_anewa, e_min, e_abs, e_oinit, e_callI, e_callV, e_callS, e_iret, e_zret, e_lret, e_vret, e_tl1, e_tl0, e_tl2, e_tl3, z10, Bool.false_eq_true, e_argi, e_argr, e_argn, zld_c, zst_n, zst_c, zpick_n, zpick_c, List.drop_succ_cons, List.drop_zero, List.take_succ_cons, List.take_zero, List.length_cons, List.length_nil, List.reverse_cons, List.reverse_nil, List.nil_append, List.cons_append, List.append_nil, List.getElem?_cons_zero, List.getElem?_cons_succ, List.set_cons_zero, List.set_cons_succ, Nat.add_sub_cancel_left, Nat.sub_self, Nat.add_zero, Nat.zero_add, Nat.le_add_right, Nat.le_refl, true_and, and_true, va_rf, zok, Nat.add_left_cancel_iff, Nat.add_eq_left, Nat.left_eq_add, eq_self, if_true, if_false, not_false_eq_true, not_true_eq_false, false_implies, true_implies, Nat.reduceEqDiff, Nat.reduceAdd, Nat.reduceLT, Nat.reduceLeDiff, reduceIte, zM0, g1]
  refine ⟨0, (0, fun _ => 0), 0, 0, 0, 0, 0, 0, 0, (0, fun _ => 0, fun _ => 0, 0), (0, fun _ => 0, fun _ => 0, fun _ => 0, 9, false, 0), rfl, g1, ⟨fun _ => 0, (hk1 160 (by omega) (by omega) (by omega)).trans (by simp [e_up]), fun j hj => absurd hj (Nat.not_lt_zero _)⟩, hd1 _ _ _ _, Nat.zero_le _, ⟨fun _ => 0, (hk1 166 (by omega) (by omega) (by omega)).trans (by simp [e_up])⟩, ⟨fun _ => 0, (hk1 167 (by omega) (by omega) (by omega)).trans (by simp [e_up])⟩, ⟨fun _ => 0, (hk1 168 (by omega) (by omega) (by omega)).trans (by simp [e_up])⟩, ⟨fun _ => 0, (hk1 169 (by omega) (by omega) (by omega)).trans (by simp [e_up])⟩, ⟨fun _ => 0, (hk1 170 (by omega) (by omega) (by omega)).trans (by simp [e_up])⟩, ⟨fun _ => 0, (hk1 171 (by omega) (by omega) (by omega)).trans (by simp [e_up])⟩, by omega, fun E2 hz2 hk2 => ?_⟩
  simp -implicitDefEqProofs only [e_cut, e_iload, e_aload, e_istore, e_astore, e_iinc, e_const, e_lconst, e_bin, e_bin0, e_un, e_ladd, e_dupi, e_dupr, e_dup2, e_pop, e_if, e_icmp, e_sw, e_sw0, e_sw1, e_get, e_put, e_ald, e_ast, e_aald, e_aast, e_copy, e_new, e_newa, e_anewa, e_min, e_abs, e_oinit, e_callI, e_callV, e_callS, e_iret, e_zret, e_lret, e_vret, e_tl1, e_tl0, e_tl2, e_tl3, z10, Bool.false_eq_true, e_argi, e_argr, e_argn, zld_c, zst_n, zst_c, zpick_n, zpick_c, List.drop_succ_cons, List.drop_zero, List.take_succ_cons, List.take_zero, List.length_cons, List.length_nil, List.reverse_cons, List.reverse_nil, List.nil_append, List.cons_append, List.append_nil, List.getElem?_cons_zero, List.getElem?_cons_succ, List.set_cons_zero, List.set_cons_succ, Nat.add_sub_cancel_left, Nat.sub_self, Nat.add_zero, Nat.zero_add, Nat.le_add_right, Nat.le_refl, true_and, and_true, va_rf, zok, Nat.add_left_cancel_iff, Nat.add_eq_left, Nat.left_eq_add, eq_self, if_true, if_false, not_false_eq_true, not_true_eq_false, false_implies, true_implies, Nat.reduceEqDiff, Nat.reduceAdd, Nat.reduceLT, Nat.reduceLeDiff, reduceIte]
  refine hP E2 (hz2 (fun _ _ => 0) (fun _ => 0, fun _ => 0)) (fun j hj => (hk2 j hj).trans ((hk1 j (by omega) (by omega) (by omega)).trans ?_))
  simp only [e_up]
  repeat rw [if_neg (by omega)]
set_option maxRecDepth 20000 in
theorem f_X6_init_m1 : Cond.methodLink RX6 1 Lib.objectInit ∈ wsX6_init := by decide +kernel
set_option maxRecDepth 20000 in
theorem f_X6_init_oi : Cond.instanceMethod Lib.objectInit ∈ wsX6_init := by decide +kernel
set_option maxRecDepth 20000 in
theorem f_X6_init_oc : Cond.code Lib.objectInit ⟨#[0xb1]⟩ 1 none ∈ wsX6_init := by decide +kernel
set_option maxRecDepth 20000 in
theorem f_X6_init_abyte : Cond.arrayClass .byte ∈ wsX6_init := by decide +kernel
set_option maxRecDepth 20000 in
theorem f_X6_init_7 : Cond.fieldLink RX6 7 (TX6 1).1 (TX6 1).2.1 (TX6 1).2.2.1 ∈ wsX6_init := by decide +kernel
set_option maxRecDepth 20000 in
theorem k_X6_init_6 : ∀ w ∈ u_ws RX6 TX6 21, w ∈ wsX6_init := fun _ h => List.mem_cons_of_mem _ (List.mem_append_right _ h)
set_option maxRecDepth 20000 in
theorem f_X6_init_aint : Cond.arrayClass .int ∈ wsX6_init := by decide +kernel
set_option maxRecDepth 20000 in
theorem f_X6_init_13 : Cond.fieldLink RX6 13 (TX6 3).1 (TX6 3).2.1 (TX6 3).2.2.1 ∈ wsX6_init := by decide +kernel
set_option maxRecDepth 20000 in
theorem f_X6_init_17 : Cond.fieldLink RX6 17 (TX6 4).1 (TX6 4).2.1 (TX6 4).2.2.1 ∈ wsX6_init := by decide +kernel
set_option maxRecDepth 20000 in
theorem f_X6_init_20 : Cond.fieldLink RX6 20 (TX6 5).1 (TX6 5).2.1 (TX6 5).2.2.1 ∈ wsX6_init := by decide +kernel
set_option maxRecDepth 20000 in
theorem f_X6_init_23 : Cond.fieldLink RX6 23 (TX6 6).1 (TX6 6).2.1 (TX6 6).2.2.1 ∈ wsX6_init := by decide +kernel
set_option maxRecDepth 20000 in
theorem f_X6_init_26 : Cond.fieldLink RX6 26 (TX6 7).1 (TX6 7).2.1 (TX6 7).2.2.1 ∈ wsX6_init := by decide +kernel
set_option maxRecDepth 20000 in
theorem f_X6_init_29 : Cond.fieldLink RX6 29 (TX6 14).1 (TX6 14).2.1 (TX6 14).2.2.1 ∈ wsX6_init := by decide +kernel
set_option maxRecDepth 20000 in
theorem f_X6_init_aboolean : Cond.arrayClass .boolean ∈ wsX6_init := by decide +kernel
set_option maxRecDepth 20000 in
theorem f_X6_init_32 : Cond.fieldLink RX6 32 (TX6 15).1 (TX6 15).2.1 (TX6 15).2.2.1 ∈ wsX6_init := by decide +kernel
set_option maxRecDepth 20000 in
theorem f_X6_init_36 : Cond.fieldLink RX6 36 (TX6 16).1 (TX6 16).2.1 (TX6 16).2.2.1 ∈ wsX6_init := by decide +kernel
set_option maxRecDepth 20000 in
theorem f_X6_init_39 : Cond.fieldLink RX6 39 (TX6 17).1 (TX6 17).2.1 (TX6 17).2.2.1 ∈ wsX6_init := by decide +kernel
set_option maxRecDepth 20000 in
theorem f_X6_init_42 : Cond.fieldLink RX6 42 (TX6 18).1 (TX6 18).2.1 (TX6 18).2.2.1 ∈ wsX6_init := by decide +kernel
set_option maxRecDepth 20000 in
theorem f_X6_init_45 : Cond.fieldLink RX6 45 (TX6 19).1 (TX6 19).2.1 (TX6 19).2.2.1 ∈ wsX6_init := by decide +kernel
set_option maxRecDepth 100000 in
set_option maxHeartbeats 4000000 in
theorem S_X6_init_0 {p : Program} {e : Env} {s : State} {m : MethodId} {args : Array Value} {below : List Frame} {meth : Method} {c : Code} {D : va_G} {cy : zY} {b n0 : Nat} {P : zPo} (la : Launch) (X : zX p la e (rm_X6_init) s m args below meth c 1 D cy b n0 cX6_init wsX6_init RX6) (hr : meth.sig.returnType = none) (hin : yX6_init.name = "<init>" → meth.name = "<init>") (h_X6_plain : zMet la yX6_plain wsX6_plain rm_X6_plain 0 0 sp_X6_plain) (h_X6_takeDraft : zMet la yX6_takeDraft wsX6_takeDraft rm_X6_takeDraft 0 0 sp_X6_takeDraft) : zS p la e (rm_X6_init) s m args below meth c (MQ below (zQ D b (n0 + 12) P) args s 12 1945 (fun q => b ≤ q)) 1 D b n0 0 (B_X6_init_0 b n0 cy P (zAt p la e (rm_X6_init) s m args below meth c (MQ below (zQ D b (n0 + 12) P) args s 12 1945 (fun q => b ≤ q)) 1 D b n0)) := by
  unfold B_X6_init_0
  exact (s_aload_n X dX6_init_0 rfl (s_objInit X dX6_init_1 f_X6_init_m1 f_X6_init_oi f_X6_init_oc (by decide) (by decide) (s_aload_n X dX6_init_4 rfl (s_bipush X dX6_init_5 (by decide) (s_newa X dX6_init_7 rfl (t0 := 0) rfl f_X6_init_abyte (by decide) (fun _ _ h1 h2 => Option.some.inj (h1.symm.trans h2)) (fun _ _ => rfl) (s_putF X dX6_init_9 (hin rfl) rfl k_X6_init_6 tyX6_ok nmX6 (by decide) f_X6_init_7 rfl rfl (tyX6_ok 1 (by decide)) zok_arr (s_aload_n X dX6_init_12 rfl (s_iconst X dX6_init_13 (by decide) (s_newa X dX6_init_14 rfl (t0 := 1) rfl f_X6_init_aint (by decide) (fun _ _ h1 h2 => Option.some.inj (h1.symm.trans h2)) (fun _ _ => rfl) (s_putF X dX6_init_16 (hin rfl) rfl k_X6_init_6 tyX6_ok nmX6 (by decide) f_X6_init_13 rfl rfl (tyX6_ok 3 (by decide)) zok_arr (s_aload_n X dX6_init_19 rfl (s_bipush X dX6_init_20 (by decide) (s_newa X dX6_init_22 rfl (t0 := 1) rfl f_X6_init_aint (by decide) (fun _ _ h1 h2 => Option.some.inj (h1.symm.trans h2)) (fun _ _ => rfl) (s_putF X dX6_init_24 (hin rfl) rfl k_X6_init_6 tyX6_ok nmX6 (by decide) f_X6_init_17 rfl rfl (tyX6_ok 4 (by decide)) zok_arr (s_aload_n X dX6_init_27 rfl (s_bipush X dX6_init_28 (by decide) (s_newa X dX6_init_30 rfl (t0 := 1) rfl f_X6_init_aint (by decide) (fun _ _ h1 h2 => Option.some.inj (h1.symm.trans h2)) (fun _ _ => rfl) (s_putF X dX6_init_32 (hin rfl) rfl k_X6_init_6 tyX6_ok nmX6 (by decide) f_X6_init_20 rfl rfl (tyX6_ok 5 (by decide)) zok_arr (s_aload_n X dX6_init_35 rfl (s_bipush X dX6_init_36 (by decide) (s_newa X dX6_init_38 rfl (t0 := 1) rfl f_X6_init_aint (by decide) (fun _ _ h1 h2 => Option.some.inj (h1.symm.trans h2)) (fun _ _ => rfl) (s_putF X dX6_init_40 (hin rfl) rfl k_X6_init_6 tyX6_ok nmX6 (by decide) f_X6_init_23 rfl rfl (tyX6_ok 6 (by decide)) zok_arr (s_aload_n X dX6_init_43 rfl (s_iconst X dX6_init_44 (by decide) (s_newa X dX6_init_45 rfl (t0 := 1) rfl f_X6_init_aint (by decide) (fun _ _ h1 h2 => Option.some.inj (h1.symm.trans h2)) (fun _ _ => rfl) (s_putF X dX6_init_47 (hin rfl) rfl k_X6_init_6 tyX6_ok nmX6 (by decide) f_X6_init_26 rfl rfl (tyX6_ok 7 (by decide)) zok_arr (s_aload_n X dX6_init_50 rfl (s_sipush X dX6_init_51 (by decide) (s_newa X dX6_init_54 rfl (t0 := 1) rfl f_X6_init_aint (by decide) (fun _ _ h1 h2 => Option.some.inj (h1.symm.trans h2)) (fun _ _ => rfl) (s_putF X dX6_init_56 (hin rfl) rfl k_X6_init_6 tyX6_ok nmX6 (by decide) f_X6_init_29 rfl rfl (tyX6_ok 14 (by decide)) zok_arr (s_aload_n X dX6_init_59 rfl (s_iconst X dX6_init_60 (by decide) (s_newa X dX6_init_61 rfl (t0 := 2) rfl f_X6_init_aboolean (by decide) (fun _ _ h1 h2 => Option.some.inj (h1.symm.trans h2)) (fun _ _ => rfl) (s_putF X dX6_init_63 (hin rfl) rfl k_X6_init_6 tyX6_ok nmX6 (by decide) f_X6_init_32 rfl rfl (tyX6_ok 15 (by decide)) zok_arr (s_aload_n X dX6_init_66 rfl (s_bipush X dX6_init_67 (by decide) (s_newa X dX6_init_69 rfl (t0 := 1) rfl f_X6_init_aint (by decide) (fun _ _ h1 h2 => Option.some.inj (h1.symm.trans h2)) (fun _ _ => rfl) (s_putF X dX6_init_71 (hin rfl) rfl k_X6_init_6 tyX6_ok nmX6 (by decide) f_X6_init_36 rfl rfl (tyX6_ok 16 (by decide)) zok_arr (s_aload_n X dX6_init_74 rfl (s_bipush X dX6_init_75 (by decide) (s_newa X dX6_init_77 rfl (t0 := 1) rfl f_X6_init_aint (by decide) (fun _ _ h1 h2 => Option.some.inj (h1.symm.trans h2)) (fun _ _ => rfl) (s_putF X dX6_init_79 (hin rfl) rfl k_X6_init_6 tyX6_ok nmX6 (by decide) f_X6_init_39 rfl rfl (tyX6_ok 17 (by decide)) zok_arr (s_aload_n X dX6_init_82 rfl (s_bipush X dX6_init_83 (by decide) (s_newa X dX6_init_85 rfl (t0 := 1) rfl f_X6_init_aint (by decide) (fun _ _ h1 h2 => Option.some.inj (h1.symm.trans h2)) (fun _ _ => rfl) (s_putF X dX6_init_87 (hin rfl) rfl k_X6_init_6 tyX6_ok nmX6 (by decide) f_X6_init_42 rfl rfl (tyX6_ok 18 (by decide)) zok_arr (s_aload_n X dX6_init_90 rfl (s_bipush X dX6_init_91 (by decide) (s_newa X dX6_init_93 rfl (t0 := 1) rfl f_X6_init_aint (by decide) (fun _ _ h1 h2 => Option.some.inj (h1.symm.trans h2)) (fun _ _ => rfl) (s_putF X dX6_init_95 (hin rfl) rfl k_X6_init_6 tyX6_ok nmX6 (by decide) f_X6_init_45 rfl rfl (tyX6_ok 19 (by decide)) zok_arr (s_aload_n X dX6_init_98 rfl (s_callV X h_X6_plain dX6_init_99 rfl gX6_init_X6_plain rfl rfl rfl (by decide +kernel) ⟨by decide, by decide⟩ (s_aload_n X dX6_init_102 rfl (s_callV X h_X6_takeDraft dX6_init_103 rfl gX6_init_X6_takeDraft rfl rfl rfl (by decide +kernel) ⟨by decide, by decide⟩ (s_vret X dX6_init_106 hr)))))))))))))))))))))))))))))))))))))))))))))))))))))))
theorem w_X6_init (la : Launch) (h_X6_plain : zMet la yX6_plain wsX6_plain rm_X6_plain 0 0 sp_X6_plain) (h_X6_takeDraft : zMet la yX6_takeDraft wsX6_takeDraft rm_X6_takeDraft 0 0 sp_X6_takeDraft) (sp : zSp) (vc : zVC_X6_init sp) : zMet la yX6_init wsX6_init (rm_X6_init) 12 1945 sp :=
  z_of (cc := cX6_init) (maxL := 1) (ret := none) (by decide +kernel) rfl (fun p e s m args below meth c D cy b n as E P hsp X hr hin => by
    obtain ⟨h1, h2⟩ := vc b cy n as E P (zAt p la e (rm_X6_init) s m args below meth c (MQ below (zQ D b (n + 12) P) args s 12 1945 (fun q => b ≤ q)) 1 D b n) hsp
    exact ⟨h1, S_X6_init_0 la X hr hin h_X6_plain h_X6_takeDraft _ _ _ _ _ h2⟩)

theorem m_X6_init (la : Launch) : zMet la yX6_init wsX6_init rm_X6_init 12 1945 sp_X6_init := w_X6_init la (m_X6_plain la) (m_X6_takeDraft la) _ vc_X6_init

