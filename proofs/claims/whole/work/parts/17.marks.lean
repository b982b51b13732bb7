def zall (p : Nat → Bool) : Nat → Bool
  | 0 => true
  | k + 1 => zall p k && p k
theorem zall_f {p : Nat → Bool} {t : Nat} (h : p t = false) : ∀ {k : Nat}, t < k → zall p k = false := by
  intro k
  induction k with
  | zero => intro h; omega
  | succ k ih =>
    intro hk
    rw [zall]
    by_cases e : t = k
    · rw [← e, h, Bool.and_false]
    · rw [ih (by omega), Bool.false_and]
/-- what was seen -/
def zSn (b : Nat) (cy : zY) (E : zE) (cnt : Nat) (sT sW : Nat → Nat) : Prop := cnt ≤ 6 ∧ (∃ (kept : Int32) (tr : Int64), E 0 = zB0 b kept (nI cnt) tr) ∧ ∃ f g : Nat → Int32, E 63 = .inl (cy 1, 6, .inl f) ∧ E 64 = .inl (cy 1, 6, .inl g) ∧ (∀ k, k < cnt → sT k < 6 ∧ sW k < 6 ∧ f k = nI (sT k) ∧ g k = nI (sW k))
def zfit (n : Nat) (lo c : Nat → Nat) (cnt : Nat) (sT sW : Nat → Nat) (r by0 : Nat) : Bool := zall (fun k => decide (sT k ≠ r) || decide (zwhom n lo c r by0 = some (sW k))) cnt
def sp_X5_fitsSeen : zSp := fun b cy as N E P => ∃ (n : Nat) (lo la : Nat → Nat) (c : Nat → Nat) (cnt : Nat) (sT sW : Nat → Nat) (r by0 : Nat), as = [.ref b, .int (nI r), .int (nI by0)] ∧ zP2 b cy N E n lo la c ∧ zSn b cy E cnt sT sW ∧ r < n ∧ by0 ≤ 2 ∧ P (some (.int (if zfit n lo c cnt sT sW r by0 = true then 1 else 0))) E
abbrev rm_X5_fitsSeen : Room := { frames := 4, cells := 0, slots := 0, locals := 111 }
def B_X5_fitsSeen_50 (b n0 : Nat) (cy : zY) (P : zPo) (A : Nat → zC) : zC :=
  z_iinc 4 (1) (z_cut [0, 1, 3, 4] (A 17))
def B_X5_fitsSeen_17 (b n0 : Nat) (cy : zY) (P : zPo) (A : Nat → zC) : zC :=
  z_iload 4 (z_aload 0 (z_get b n0 5 9 (z_icmp (fun x y => y ≤ x) (z_const (1) (z_zret 0 0 P)) (z_aload 0 (z_get b n0 5 7 (z_iload 4 (z_ald b n0 (cy 1) (z_iload 1 (z_icmp (fun x y => x = y) (z_aload 0 (z_get b n0 5 8 (z_iload 4 (z_ald b n0 (cy 1) (z_iload 3 (z_icmp (fun x y => x = y) (B_X5_fitsSeen_50 b n0 cy P A) (z_const (0) (z_zret 0 0 P)))))))) (B_X5_fitsSeen_50 b n0 cy P A))))))))))
def B_X5_fitsSeen_0 (b n0 : Nat) (cy : zY) (P : zPo) (A : Nat → zC) : zC :=
  z_aload 0 (z_aload 0 (z_get b n0 5 3 (z_get b n0 0 0 (z_iload 1 (z_iload 2 (z_callV b n0 0 0 cy 5 3 0 0 sp_X5_whom (z_istore 3 (z_const (0) (z_istore 4 (z_cut [0, 1, 3, 4] (A 17)))))))))))
def zVC_X5_fitsSeen (sp : zSp) : Prop := ∀ (b : Nat) (cy : zY) (n : Nat) (as : List Value) (E : zE) (P : zPo) (A : Nat → zC), (∀ l st k u E, B_X5_fitsSeen_17 b n cy P A l st k u E → A 17 l st k u E) → sp b cy as n E P → zgood as 5 ∧ B_X5_fitsSeen_0 b n cy P A (lv_args 0 as) [] 0 0 E

theorem zrv_eq {o : Option Nat} {w : Nat} (ho : ∀ q, o = some q → q < 6) (hw : w < 6) : (nI w = zrv o) = (o = some w) := by
  cases o with
  | none => exact propext ⟨fun h => absurd h (zrv_nn hw), fun h => by cases h⟩
  | some q =>
    have := ho q rfl
    exact propext ⟨fun h => by rw [(nI_eq (by omega) (by omega)).mp h], fun h => by cases h; rfl⟩
set_option maxRecDepth 100000 in
set_option maxHeartbeats 4000000 in
theorem vc_X5_fitsSeen : zVC_X5_fitsSeen sp_X5_fitsSeen := by
  intro b cy N as E P A hA hsp
  obtain ⟨n, lo, la, c, cnt, sT, sW, r, by0, rfl, ⟨hp1, e11⟩, ⟨hcnt, ⟨kept, tr, e0⟩, f, g, e63, e64, hs⟩, hr, hby, hP⟩ := hsp
  refine ⟨⟨Nat.le_of_ble_eq_true rfl, zg1 rfl (zg1 rfl (zg1 rfl (zg0)))⟩, ?_⟩
  obtain ⟨hR, hmo, hok, hi, hN⟩ := id hp1
  have hn := hok.1
  have N0 : 0 < N := by omega
  have N11 : 11 < N := by omega
  have N63 : 63 < N := by omega
  have N64 : 64 < N := by omega
  have hlt : ∀ q, zwhom n lo c r by0 = some q → q < 6 := fun q hq => by have := (zwhom_lt hq).1; omega
  have loop : ∀ (d k : Nat) (hd : d + k = cnt), zall (fun k => decide (sT k ≠ r) || decide (zwhom n lo c r by0 = some (sW k))) k = true → A 17 [(0, .ref b), (1, .int (nI r)), (3, .int (zrv (zwhom n lo c r by0))), (4, .int (nI k))] [] 0 0 E := by
    intro d
    induction d with
    | zero =>
      intro k hd hk1
      obtain rfl : k = cnt := by omega
      apply hA
      have cle : nI k ≤ nI k := nI_le (Nat.le_refl _) (by omega)
      simp only [B_X5_fitsSeen_0, B_X5_fitsSeen_17, B_X5_fitsSeen_50, e_cut, e_iload, e_aload, e_istore, e_astore, e_iinc, e_const, e_lconst, e_bin, e_bin0, e_un, e_ladd, e_dupi, e_dupr, e_dup2, e_pop, e_if, e_icmp, e_sw, e_sw0, e_sw1, e_get, e_put, e_ald, e_ast, e_aald, e_aast, e_copy, e_new, e_newa, e_anewa, e_min, e_abs, e_oinit, e_callI, e_callV, e_callS, e_iret, e_zret, e_lret, e_vret, e_tl1, e_tl0, e_tl2, e_tl3, z10, Bool.false_eq_true, e_argi, e_argr, e_argn, zld_c, zst_n, zst_c, zpick_n, zpick_c, List.drop_succ_cons, List.drop_zero, List.take_succ_cons, List.take_zero, List.length_cons, List.length_nil, List.reverse_cons, List.reverse_nil, List.nil_append, List.cons_append, List.append_nil, List.getElem?_cons_zero, List.getElem?_cons_succ, List.set_cons_zero, List.set_cons_succ, Nat.add_sub_cancel_left, Nat.sub_self, Nat.add_zero, Nat.zero_add, Nat.le_add_right, Nat.le_refl, true_and, and_true, va_rf, zok, Nat.add_left_cancel_iff, Nat.add_eq_left, Nat.left_eq_add, eq_self, if_true, if_false, not_false_eq_true, not_true_eq_false, false_implies, true_implies, Nat.reduceEqDiff, Nat.reduceAdd, Nat.reduceLT, Nat.reduceLeDiff, reduceIte, zB0, e0, N0, cle]
      unfold zfit at hP
      rw [hk1] at hP
      exact ⟨Or.inr trivial, hP⟩
    | succ d ih =>
      intro k hd hk1
      have hk : k < cnt := by omega
      apply hA
      have cle : ¬ nI cnt ≤ nI k := nI_ge hk (by omega)
      have hin : vp_in (nI k) 6 := vp_in_nI (by omega) (by omega)
      have hcl : (nI k).toNatClampNeg = k := nI_clamp (by omega)
      obtain ⟨s1, s2, s3, s4⟩ := hs k hk
      simp only [B_X5_fitsSeen_0, B_X5_fitsSeen_17, B_X5_fitsSeen_50, e_cut, e_iload, e_aload, e_istore, e_astore, e_iinc, e_const, e_lconst, e_bin, e_bin0, e_un, e_ladd, e_dupi, e_dupr, e_dup2, e_pop, e_if, e_icmp, e_sw, e_sw0, e_sw1, e_get, e_put, e_ald, e_ast, e_aald, e_aast, e_copy, e_new, e_newa, e_anewa, e_min, e_abs, e_oinit, e_callI, e_callV, e_callS, e_iret, e_zret, e_lret, e_vret, e_tl1, e_tl0, e_tl2, e_tl3, z10, Bool.false_eq_true, e_argi, e_argr, e_argn, zld_c, zst_n, zst_c, zpick_n, zpick_c, List.drop_succ_cons, List.drop_zero, List.take_succ_cons, List.take_zero, List.length_cons, List.length_nil, List.reverse_cons, List.reverse_nil, List.nil_append, List.cons_append, List.append_nil, List.getElem?_cons_zero, List.getElem?_cons_succ, List.set_cons_zero, List.set_cons_succ, Nat.add_sub_cancel_left, Nat.sub_self, Nat.add_zero, Nat.zero_add, Nat.le_add_right, Nat.le_refl, true_and, and_true, va_rf, zok, Nat.add_left_cancel_iff, Nat.add_eq_left, Nat.left_eq_add, eq_self, if_true, if_false, not_false_eq_true, not_true_eq_false, false_implies, true_implies, Nat.reduceEqDiff, Nat.reduceAdd, Nat.reduceLT, Nat.reduceLeDiff, reduceIte, zB0, e0, N0, N63, N64, e63, e64, cle, hin, hcl, s3, s4, nI_eq (show sT k < 2 ^ 31 by omega) (show r < 2 ^ 31 by omega), zrv_eq hlt s2, nI_1]
      refine ⟨fun c1 => ⟨fun c2 => ?_, fun c2 => ?_⟩, fun c1 => ?_⟩
      · exact ih (k + 1) (by omega) (by rw [zall, hk1]; simp [c2])
      · have : ¬ zfit n lo c cnt sT sW r by0 = true := by
          unfold zfit; rw [zall_f (t := k) (by simp [c1, c2]) hk]; simp
        rw [if_neg this] at hP
        exact ⟨Or.inl trivial, hP⟩
      · exact ih (k + 1) (by omega) (by rw [zall, hk1]; simp [c1])
  simp only [B_X5_fitsSeen_0, B_X5_fitsSeen_17, B_X5_fitsSeen_50, e_cut, e_iload, e_aload, e_istore, e_astore, e_iinc, e_const, e_lconst, e_bin, e_bin0, e_un, e_ladd, e_dupi, e_dupr, e_dup2, e_pop, e_if, e_icmp, e_sw, e_sw0, e_sw1, e_get, e_put, e_ald, e_ast, e_aald, e_aast, e_copy, e_new, e_newa, e_anewa, e_min, e_abs, e_oinit, e_callI, e_callV, e_callS, e_iret, e_zret, e_lret, e_vret, e_tl1, e_tl0, e_tl2, e_tl3, z10, Bool.false_eq_true, e_argi, e_argr, e_argn, zld_c, zst_n, zst_c, zpick_n, zpick_c, List.drop_succ_cons, List.drop_zero, List.take_succ_cons, List.take_zero, List.length_cons, List.length_nil, List.reverse_cons, List.reverse_nil, List.nil_append, List.cons_append, List.append_nil, List.getElem?_cons_zero, List.getElem?_cons_succ, List.set_cons_zero, List.set_cons_succ, Nat.add_sub_cancel_left, Nat.sub_self, Nat.add_zero, Nat.zero_add, Nat.le_add_right, Nat.le_refl, true_and, and_true, va_rf, zok, Nat.add_left_cancel_iff, Nat.add_eq_left, Nat.left_eq_add, eq_self, if_true, if_false, not_false_eq_true, not_true_eq_false, false_implies, true_implies, Nat.reduceEqDiff, Nat.reduceAdd, Nat.reduceLT, Nat.reduceLeDiff, reduceIte, zB0, e0, N0, N11, e11]
  refine ⟨n, lo, la, 12, c, r, by0, rfl, hp1, hr, hby, ?_⟩
  simp only [e_cut, e_iload, e_aload, e_istore, e_astore, e_iinc, e_const, e_lconst, e_bin, e_bin0, e_un, e_ladd, e_dupi, e_dupr, e_dup2, e_pop, e_if, e_icmp, e_sw, e_sw0, e_sw1, e_get, e_put, e_ald, e_ast, e_aald, e_aast, e_copy, e_new, e_newa, e_anewa, e_min, e_abs, e_oinit, e_callI, e_callV, e_callS, e_iret, e_zret, e_lret, e_vret, e_tl1, e_tl0, e_tl2, e_tl3, z10, Bool.false_eq_true, e_argi, e_argr, e_argn, zld_c, zst_n, zst_c, zpick_n, zpick_c, List.drop_succ_cons, List.drop_zero, List.take_succ_cons, List.take_zero, List.length_cons, List.length_nil, List.reverse_cons, List.reverse_nil, List.nil_append, List.cons_append, List.append_nil, List.getElem?_cons_zero, List.getElem?_cons_succ, List.set_cons_zero, List.set_cons_succ, Nat.add_sub_cancel_left, Nat.sub_self, Nat.add_zero, Nat.zero_add, Nat.le_add_right, Nat.le_refl, true_and, and_true, va_rf, zok, Nat.add_left_cancel_iff, Nat.add_eq_left, Nat.left_eq_add, eq_self, if_true, if_false, not_false_eq_true, not_true_eq_false, false_implies, true_implies, Nat.reduceEqDiff, Nat.reduceAdd, Nat.reduceLT, Nat.reduceLeDiff, reduceIte]
  exact loop cnt 0 rfl rfl
set_option maxRecDepth 20000 in
theorem f_X5_fitsSeen_194 : Cond.fieldLink RX5 194 (TX5 9).1 (TX5 9).2.1 (TX5 9).2.2.1 ∈ wsX5_fitsSeen := by decide +kernel
set_option maxRecDepth 20000 in
theorem k_X5_fitsSeen_5 : ∀ w ∈ u_ws RX5 TX5 11, w ∈ wsX5_fitsSeen := fun _ h => List.mem_cons_of_mem _ (List.mem_append_left _ (List.mem_append_left _ (List.mem_append_left _ (List.mem_append_right _ h))))
set_option maxRecDepth 20000 in
theorem f_X5_fitsSeen_44 : Cond.fieldLink RX5 44 (TX5 7).1 (TX5 7).2.1 (TX5 7).2.2.1 ∈ wsX5_fitsSeen := by decide +kernel
set_option maxRecDepth 20000 in
theorem f_X5_fitsSeen_48 : Cond.fieldLink RX5 48 (TX5 8).1 (TX5 8).2.1 (TX5 8).2.2.1 ∈ wsX5_fitsSeen := by decide +kernel
set_option maxRecDepth 20000 in
theorem f_X5_fitsSeen_29 : Cond.fieldLink RX5 29 (TX5 3).1 (TX5 3).2.1 (TX5 3).2.2.1 ∈ wsX5_fitsSeen := by decide +kernel
set_option maxRecDepth 20000 in
theorem f_X5_fitsSeen_76 : Cond.fieldLink RX5 76 (TX0 0).1 (TX0 0).2.1 (TX0 0).2.2.1 ∈ wsX5_fitsSeen := by decide +kernel
set_option maxRecDepth 20000 in
theorem k_X5_fitsSeen_0 : ∀ w ∈ u_ws RX0 TX0 2, w ∈ wsX5_fitsSeen := fun _ h => List.mem_cons_of_mem _ (List.mem_append_left _ (List.mem_append_left _ (List.mem_append_right _ h)))
set_option maxRecDepth 100000 in
set_option maxHeartbeats 4000000 in
theorem S_X5_fitsSeen_50 {p : Program} {e : Env} {s : State} {m : MethodId} {args : Array Value} {below : List Frame} {meth : Method} {c : Code} {D : va_G} {cy : zY} {b n0 : Nat} {P : zPo} (la : Launch) (X : zX p la e (rm_X5_fitsSeen) s m args below meth c 5 D cy b n0 cX5_fitsSeen wsX5_fitsSeen RX5) (hr : meth.sig.returnType = (some .boolean)) (h_X5_whom : zMet la yX5_whom wsX5_whom rm_X5_whom 0 0 sp_X5_whom) : zS p la e (rm_X5_fitsSeen) s m args below meth c (MQ below (zQ D b (n0 + 0) P) args s 0 0 (fun q => b ≤ q)) 5 D b n0 50 (B_X5_fitsSeen_50 b n0 cy P (zAt p la e (rm_X5_fitsSeen) s m args below meth c (MQ below (zQ D b (n0 + 0) P) args s 0 0 (fun q => b ≤ q)) 5 D b n0)) := by
  unfold B_X5_fitsSeen_50
  exact (s_iinc X dX5_fitsSeen_50 (by decide) (by decide) (s_goto X dX5_fitsSeen_53 (by decide) (s_cut (by decide) zS_at)))
set_option maxRecDepth 100000 in
set_option maxHeartbeats 4000000 in
theorem S_X5_fitsSeen_17 {p : Program} {e : Env} {s : State} {m : MethodId} {args : Array Value} {below : List Frame} {meth : Method} {c : Code} {D : va_G} {cy : zY} {b n0 : Nat} {P : zPo} (la : Launch) (X : zX p la e (rm_X5_fitsSeen) s m args below meth c 5 D cy b n0 cX5_fitsSeen wsX5_fitsSeen RX5) (hr : meth.sig.returnType = (some .boolean)) (h_X5_whom : zMet la yX5_whom wsX5_whom rm_X5_whom 0 0 sp_X5_whom) : zS p la e (rm_X5_fitsSeen) s m args below meth c (MQ below (zQ D b (n0 + 0) P) args s 0 0 (fun q => b ≤ q)) 5 D b n0 17 (B_X5_fitsSeen_17 b n0 cy P (zAt p la e (rm_X5_fitsSeen) s m args below meth c (MQ below (zQ D b (n0 + 0) P) args s 0 0 (fun q => b ≤ q)) 5 D b n0)) := by
  unfold B_X5_fitsSeen_17
  exact (s_iload X dX5_fitsSeen_17 (s_aload_n X dX5_fitsSeen_19 rfl (s_get X dX5_fitsSeen_20 rfl k_X5_fitsSeen_5 (by decide) f_X5_fitsSeen_194 (s_icmp_ge X dX5_fitsSeen_23 (by decide) (s_iconst X dX5_fitsSeen_56 (by decide) (s_zret X dX5_fitsSeen_57 hr)) (s_aload_n X dX5_fitsSeen_26 rfl (s_get X dX5_fitsSeen_27 rfl k_X5_fitsSeen_5 (by decide) f_X5_fitsSeen_44 (s_iload X dX5_fitsSeen_30 (s_iald X dX5_fitsSeen_32 (s_iload_n X dX5_fitsSeen_33 rfl (s_icmp_ne X dX5_fitsSeen_34 (by decide) (S_X5_fitsSeen_50 la X hr h_X5_whom) (s_aload_n X dX5_fitsSeen_37 rfl (s_get X dX5_fitsSeen_38 rfl k_X5_fitsSeen_5 (by decide) f_X5_fitsSeen_48 (s_iload X dX5_fitsSeen_41 (s_iald X dX5_fitsSeen_43 (s_iload_n X dX5_fitsSeen_44 rfl (s_icmp_eq X dX5_fitsSeen_45 (by decide) (S_X5_fitsSeen_50 la X hr h_X5_whom) (s_iconst X dX5_fitsSeen_48 (by decide) (s_zret X dX5_fitsSeen_49 hr))))))))))))))))))
set_option maxRecDepth 100000 in
set_option maxHeartbeats 4000000 in
theorem S_X5_fitsSeen_0 {p : Program} {e : Env} {s : State} {m : MethodId} {args : Array Value} {below : List Frame} {meth : Method} {c : Code} {D : va_G} {cy : zY} {b n0 : Nat} {P : zPo} (la : Launch) (X : zX p la e (rm_X5_fitsSeen) s m args below meth c 5 D cy b n0 cX5_fitsSeen wsX5_fitsSeen RX5) (hr : meth.sig.returnType = (some .boolean)) (h_X5_whom : zMet la yX5_whom wsX5_whom rm_X5_whom 0 0 sp_X5_whom) : zS p la e (rm_X5_fitsSeen) s m args below meth c (MQ below (zQ D b (n0 + 0) P) args s 0 0 (fun q => b ≤ q)) 5 D b n0 0 (B_X5_fitsSeen_0 b n0 cy P (zAt p la e (rm_X5_fitsSeen) s m args below meth c (MQ below (zQ D b (n0 + 0) P) args s 0 0 (fun q => b ≤ q)) 5 D b n0)) := by
  unfold B_X5_fitsSeen_0
  exact (s_aload_n X dX5_fitsSeen_0 rfl (s_aload_n X dX5_fitsSeen_1 rfl (s_get X dX5_fitsSeen_2 rfl k_X5_fitsSeen_5 (by decide) f_X5_fitsSeen_29 (s_get X dX5_fitsSeen_5 rfl k_X5_fitsSeen_0 (by decide) f_X5_fitsSeen_76 (s_iload_n X dX5_fitsSeen_8 rfl (s_iload_n X dX5_fitsSeen_9 rfl (s_callV X h_X5_whom dX5_fitsSeen_10 rfl gX5_fitsSeen_X5_whom rfl rfl rfl (by decide +kernel) ⟨by decide, by decide⟩ (s_istore_n X dX5_fitsSeen_13 rfl (by decide) (s_iconst X dX5_fitsSeen_14 (by decide) (s_istore X dX5_fitsSeen_15 (by decide) (s_cut (by decide) zS_at)))))))))))
theorem w_X5_fitsSeen (la : Launch) (h_X5_whom : zMet la yX5_whom wsX5_whom rm_X5_whom 0 0 sp_X5_whom) (sp : zSp) (vc : zVC_X5_fitsSeen sp) : zMet la yX5_fitsSeen wsX5_fitsSeen (rm_X5_fitsSeen) 0 0 sp :=
  z_of (cc := cX5_fitsSeen) (maxL := 5) (ret := (some .boolean)) (by decide +kernel) rfl (fun p e s m args below meth c D cy b n as E P hsp X hr hin => by
    obtain ⟨h1, h2⟩ := vc b cy n as E P (zAt p la e (rm_X5_fitsSeen) s m args below meth c (MQ below (zQ D b (n + 0) P) args s 0 0 (fun q => b ≤ q)) 5 D b n) (fun _ _ _ _ _ q => S_X5_fitsSeen_17 la X hr h_X5_whom _ _ _ _ _ q) hsp
    exact ⟨h1, S_X5_fitsSeen_0 la X hr h_X5_whom _ _ _ _ _ h2⟩)

theorem m_X5_fitsSeen (la : Launch) : zMet la yX5_fitsSeen wsX5_fitsSeen rm_X5_fitsSeen 0 0 sp_X5_fitsSeen := w_X5_fitsSeen la (m_X5_whom la) _ vc_X5_fitsSeen
def zlw (n : Nat) (lo c : Nat → Nat) (cnt : Nat) (sT sW : Nat → Nat) (r : Nat) : Nat → Nat
  | 0 => 0
  | k + 1 => if zfit n lo c cnt sT sW r k = true then zset (zlw n lo c cnt sT sW r k) k else zlw n lo c cnt sT sW r k
theorem zlw_lt {n : Nat} {lo c : Nat → Nat} {cnt : Nat} {sT sW : Nat → Nat} {r : Nat} : ∀ k, k ≤ 6 → zlw n lo c cnt sT sW r k < 64 := by
  intro k
  induction k with
  | zero => intro _; show (0 : Nat) < 64; omega
  | succ k ih =>
    intro hk
    rw [zlw]
    split
    · exact zset_lt (ih (by omega)) (by omega)
    · exact ih (by omega)
def sp_X5_fittingLaws : zSp := fun b cy as N E P => ∃ (n : Nat) (lo la : Nat → Nat) (c : Nat → Nat) (cnt : Nat) (sT sW : Nat → Nat) (r : Nat), as = [.ref b, .int (nI r)] ∧ zP2 b cy N E n lo la c ∧ zSn b cy E cnt sT sW ∧ r < n ∧ P (some (.int (nI (zlw n lo c cnt sT sW r 3)))) E
abbrev rm_X5_fittingLaws : Room := { frames := 5, cells := 0, slots := 0, locals := 135 }
def B_X5_fittingLaws_24 (b n0 : Nat) (cy : zY) (P : zPo) (A : Nat → zC) : zC :=
  z_iinc 3 (1) (z_cut [0, 1, 2, 3] (A 4))
def B_X5_fittingLaws_4 (b n0 : Nat) (cy : zY) (P : zPo) (A : Nat → zC) : zC :=
  z_iload 3 (z_const (3) (z_icmp (fun x y => y ≤ x) (z_iload 2 (z_iret 0 0 P)) (z_aload 0 (z_iload 1 (z_iload 3 (z_callV b n0 0 0 cy 5 2 0 0 sp_X5_fitsSeen (z_if (fun x => x = 0) (B_X5_fittingLaws_24 b n0 cy P A) (z_iload 2 (z_const (1) (z_iload 3 (z_bin (fun x y => x <<< (y &&& 31)) (z_bin (fun x y => x ||| y) (z_istore 2 (B_X5_fittingLaws_24 b n0 cy P A))))))))))))))
def B_X5_fittingLaws_0 (b n0 : Nat) (cy : zY) (P : zPo) (A : Nat → zC) : zC :=
  z_const (0) (z_istore 2 (z_const (0) (z_istore 3 (z_cut [0, 1, 2, 3] (A 4)))))
def zVC_X5_fittingLaws (sp : zSp) : Prop := ∀ (b : Nat) (cy : zY) (n : Nat) (as : List Value) (E : zE) (P : zPo) (A : Nat → zC), (∀ l st k u E, B_X5_fittingLaws_4 b n cy P A l st k u E → A 4 l st k u E) → sp b cy as n E P → zgood as 4 ∧ B_X5_fittingLaws_0 b n cy P A (lv_args 0 as) [] 0 0 E

set_option maxRecDepth 100000 in
set_option maxHeartbeats 4000000 in
theorem vc_X5_fittingLaws : zVC_X5_fittingLaws sp_X5_fittingLaws := by
  intro b cy N as E P A hA hsp
  obtain ⟨n, lo, la, c, cnt, sT, sW, r, rfl, hp2, hsn, hr, hP⟩ := hsp
  refine ⟨⟨Nat.le_of_ble_eq_true rfl, zg1 rfl (zg1 rfl (zg0))⟩, ?_⟩
  obtain ⟨⟨⟨⟨kept, cnt1, tr, e0⟩, hT, hlo⟩, hmo, hok, hi, hN⟩, e11⟩ := id hp2
  have N0 : 0 < N := by omega
  have k3 : (3 : Int32) = nI 3 := rfl
  have loop : ∀ (d k : Nat) (hd : d + k = 3), A 4 [(0, .ref b), (1, .int (nI r)), (2, .int (nI (zlw n lo c cnt sT sW r k))), (3, .int (nI k))] [] 0 0 E := by
    intro d
    induction d with
    | zero =>
      intro k hd
      obtain rfl : k = 3 := by omega
      apply hA
      have cle : nI 3 ≤ nI 3 := nI_le (Nat.le_refl _) (by omega)
      simp only [B_X5_fittingLaws_0, B_X5_fittingLaws_4, B_X5_fittingLaws_24, e_cut, e_iload, e_aload, e_istore, e_astore, e_iinc, e_const, e_lconst, e_bin, e_bin0, e_un, e_ladd, e_dupi, e_dupr, e_dup2, e_pop, e_if, e_icmp, e_sw, e_sw0, e_sw1, e_get, e_put, e_ald, e_ast, e_aald, e_aast, e_copy, e_new, e_newa, e_anewa, e_min, e_abs, e_oinit, e_callI, e_callV, e_callS, e_iret, e_zret, e_lret, e_vret, e_tl1, e_tl0, e_tl2, e_tl3, z10, Bool.false_eq_true, e_argi, e_argr, e_argn, zld_c, zst_n, zst_c, zpick_n, zpick_c, List.drop_succ_cons, List.drop_zero, List.take_succ_cons, List.take_zero, List.length_cons, List.length_nil, List.reverse_cons, List.reverse_nil, List.nil_append, List.cons_append, List.append_nil, List.getElem?_cons_zero, List.getElem?_cons_succ, List.set_cons_zero, List.set_cons_succ, Nat.add_sub_cancel_left, Nat.sub_self, Nat.add_zero, Nat.zero_add, Nat.le_add_right, Nat.le_refl, true_and, and_true, va_rf, zok, Nat.add_left_cancel_iff, Nat.add_eq_left, Nat.left_eq_add, eq_self, if_true, if_false, not_false_eq_true, not_true_eq_false, false_implies, true_implies, Nat.reduceEqDiff, Nat.reduceAdd, Nat.reduceLT, Nat.reduceLeDiff, reduceIte, k3, cle]
      exact hP
    | succ d ih =>
      intro k hd
      apply hA
      have cle : ¬ nI 3 ≤ nI k := nI_ge (by omega) (by omega)
      simp only [B_X5_fittingLaws_0, B_X5_fittingLaws_4, B_X5_fittingLaws_24, e_cut, e_iload, e_aload, e_istore, e_astore, e_iinc, e_const, e_lconst, e_bin, e_bin0, e_un, e_ladd, e_dupi, e_dupr, e_dup2, e_pop, e_if, e_icmp, e_sw, e_sw0, e_sw1, e_get, e_put, e_ald, e_ast, e_aald, e_aast, e_copy, e_new, e_newa, e_anewa, e_min, e_abs, e_oinit, e_callI, e_callV, e_callS, e_iret, e_zret, e_lret, e_vret, e_tl1, e_tl0, e_tl2, e_tl3, z10, Bool.false_eq_true, e_argi, e_argr, e_argn, zld_c, zst_n, zst_c, zpick_n, zpick_c, List.drop_succ_cons, List.drop_zero, List.take_succ_cons, List.take_zero, List.length_cons, List.length_nil, List.reverse_cons, List.reverse_nil, List.nil_append, List.cons_append, List.append_nil, List.getElem?_cons_zero, List.getElem?_cons_succ, List.set_cons_zero, List.set_cons_succ, Nat.add_sub_cancel_left, Nat.sub_self, Nat.add_zero, Nat.zero_add, Nat.le_add_right, Nat.le_refl, true_and, and_true, va_rf, zok, Nat.add_left_cancel_iff, Nat.add_eq_left, Nat.left_eq_add, eq_self, if_true, if_false, not_false_eq_true, not_true_eq_false, false_implies, true_implies, Nat.reduceEqDiff, Nat.reduceAdd, Nat.reduceLT, Nat.reduceLeDiff, reduceIte, k3, cle, zB0, e0, N0]
      refine ⟨n, lo, la, c, cnt, sT, sW, r, k, rfl, hp2, hsn, hr, by omega, ?_⟩
      have h9 := ih (k + 1) (by omega)
      rw [zlw] at h9
      by_cases q1 : zfit n lo c cnt sT sW r k = true
      · rw [if_pos q1] at h9
        simp only [e_cut, e_iload, e_aload, e_istore, e_astore, e_iinc, e_const, e_lconst, e_bin, e_bin0, e_un, e_ladd, e_dupi, e_dupr, e_dup2, e_pop, e_if, e_icmp, e_sw, e_sw0, e_sw1, e_get, e_put, e_ald, e_ast, e_aald, e_aast, e_copy, e_new, e_newa, e_anewa, e_min, e_abs, e_oinit, e_callI, e_callV, e_callS, e_iret, e_zret, e_lret, e_vret, e_tl1, e_tl0, e_tl2, e_tl3, z10, Bool.false_eq_true, e_argi, e_argr, e_argn, zld_c, zst_n, zst_c, zpick_n, zpick_c, List.drop_succ_cons, List.drop_zero, List.take_succ_cons, List.take_zero, List.length_cons, List.length_nil, List.reverse_cons, List.reverse_nil, List.nil_append, List.cons_append, List.append_nil, List.getElem?_cons_zero, List.getElem?_cons_succ, List.set_cons_zero, List.set_cons_succ, Nat.add_sub_cancel_left, Nat.sub_self, Nat.add_zero, Nat.zero_add, Nat.le_add_right, Nat.le_refl, true_and, and_true, va_rf, zok, Nat.add_left_cancel_iff, Nat.add_eq_left, Nat.left_eq_add, eq_self, if_true, if_false, not_false_eq_true, not_true_eq_false, false_implies, true_implies, Nat.reduceEqDiff, Nat.reduceAdd, Nat.reduceLT, Nat.reduceLeDiff, reduceIte, q1, B_X5_fittingLaws_0, B_X5_fittingLaws_4, B_X5_fittingLaws_24, zset_i (zlw_lt k (by omega)) (show k < 6 by omega), nI_1]
        exact h9
      · rw [if_neg q1] at h9
        simp only [e_cut, e_iload, e_aload, e_istore, e_astore, e_iinc, e_const, e_lconst, e_bin, e_bin0, e_un, e_ladd, e_dupi, e_dupr, e_dup2, e_pop, e_if, e_icmp, e_sw, e_sw0, e_sw1, e_get, e_put, e_ald, e_ast, e_aald, e_aast, e_copy, e_new, e_newa, e_anewa, e_min, e_abs, e_oinit, e_callI, e_callV, e_callS, e_iret, e_zret, e_lret, e_vret, e_tl1, e_tl0, e_tl2, e_tl3, z10, Bool.false_eq_true, e_argi, e_argr, e_argn, zld_c, zst_n, zst_c, zpick_n, zpick_c, List.drop_succ_cons, List.drop_zero, List.take_succ_cons, List.take_zero, List.length_cons, List.length_nil, List.reverse_cons, List.reverse_nil, List.nil_append, List.cons_append, List.append_nil, List.getElem?_cons_zero, List.getElem?_cons_succ, List.set_cons_zero, List.set_cons_succ, Nat.add_sub_cancel_left, Nat.sub_self, Nat.add_zero, Nat.zero_add, Nat.le_add_right, Nat.le_refl, true_and, and_true, va_rf, zok, Nat.add_left_cancel_iff, Nat.add_eq_left, Nat.left_eq_add, eq_self, if_true, if_false, not_false_eq_true, not_true_eq_false, false_implies, true_implies, Nat.reduceEqDiff, Nat.reduceAdd, Nat.reduceLT, Nat.reduceLeDiff, reduceIte, q1, B_X5_fittingLaws_0, B_X5_fittingLaws_4, B_X5_fittingLaws_24, nI_1]
        exact h9
  simp only [B_X5_fittingLaws_0, B_X5_fittingLaws_4, B_X5_fittingLaws_24, e_cut, e_iload, e_aload, e_istore, e_astore, e_iinc, e_const, e_lconst, e_bin, e_bin0, e_un, e_ladd, e_dupi, e_dupr, e_dup2, e_pop, e_if, e_icmp, e_sw, e_sw0, e_sw1, e_get, e_put, e_ald, e_ast, e_aald, e_aast, e_copy, e_new, e_newa, e_anewa, e_min, e_abs, e_oinit, e_callI, e_callV, e_callS, e_iret, e_zret, e_lret, e_vret, e_tl1, e_tl0, e_tl2, e_tl3, z10, Bool.false_eq_true, e_argi, e_argr, e_argn, zld_c, zst_n, zst_c, zpick_n, zpick_c, List.drop_succ_cons, List.drop_zero, List.take_succ_cons, List.take_zero, List.length_cons, List.length_nil, List.reverse_cons, List.reverse_nil, List.nil_append, List.cons_append, List.append_nil, List.getElem?_cons_zero, List.getElem?_cons_succ, List.set_cons_zero, List.set_cons_succ, Nat.add_sub_cancel_left, Nat.sub_self, Nat.add_zero, Nat.zero_add, Nat.le_add_right, Nat.le_refl, true_and, and_true, va_rf, zok, Nat.add_left_cancel_iff, Nat.add_eq_left, Nat.left_eq_add, eq_self, if_true, if_false, not_false_eq_true, not_true_eq_false, false_implies, true_implies, Nat.reduceEqDiff, Nat.reduceAdd, Nat.reduceLT, Nat.reduceLeDiff, reduceIte]
  exact loop 3 0 rfl
set_option maxRecDepth 100000 in
set_option maxHeartbeats 4000000 in
theorem S_X5_fittingLaws_24 {p : Program} {e : Env} {s : State} {m : MethodId} {args : Array Value} {below : List Frame} {meth : Method} {c : Code} {D : va_G} {cy : zY} {b n0 : Nat} {P : zPo} (la : Launch) (X : zX p la e (rm_X5_fittingLaws) s m args below meth c 4 D cy b n0 cX5_fittingLaws wsX5_fittingLaws RX5) (hr : meth.sig.returnType = (some .int)) (h_X5_fitsSeen : zMet la yX5_fitsSeen wsX5_fitsSeen rm_X5_fitsSeen 0 0 sp_X5_fitsSeen) : zS p la e (rm_X5_fittingLaws) s m args below meth c (MQ below (zQ D b (n0 + 0) P) args s 0 0 (fun q => b ≤ q)) 4 D b n0 24 (B_X5_fittingLaws_24 b n0 cy P (zAt p la e (rm_X5_fittingLaws) s m args below meth c (MQ below (zQ D b (n0 + 0) P) args s 0 0 (fun q => b ≤ q)) 4 D b n0)) := by
  unfold B_X5_fittingLaws_24
  exact (s_iinc X dX5_fittingLaws_24 (by decide) (by decide) (s_goto X dX5_fittingLaws_27 (by decide) (s_cut (by decide) zS_at)))
set_option maxRecDepth 100000 in
set_option maxHeartbeats 4000000 in
theorem S_X5_fittingLaws_4 {p : Program} {e : Env} {s : State} {m : MethodId} {args : Array Value} {below : List Frame} {meth : Method} {c : Code} {D : va_G} {cy : zY} {b n0 : Nat} {P : zPo} (la : Launch) (X : zX p la e (rm_X5_fittingLaws) s m args below meth c 4 D cy b n0 cX5_fittingLaws wsX5_fittingLaws RX5) (hr : meth.sig.returnType = (some .int)) (h_X5_fitsSeen : zMet la yX5_fitsSeen wsX5_fitsSeen rm_X5_fitsSeen 0 0 sp_X5_fitsSeen) : zS p la e (rm_X5_fittingLaws) s m args below meth c (MQ below (zQ D b (n0 + 0) P) args s 0 0 (fun q => b ≤ q)) 4 D b n0 4 (B_X5_fittingLaws_4 b n0 cy P (zAt p la e (rm_X5_fittingLaws) s m args below meth c (MQ below (zQ D b (n0 + 0) P) args s 0 0 (fun q => b ≤ q)) 4 D b n0)) := by
  unfold B_X5_fittingLaws_4
  exact (s_iload_n X dX5_fittingLaws_4 rfl (s_iconst X dX5_fittingLaws_5 (by decide) (s_icmp_ge X dX5_fittingLaws_6 (by decide) (s_iload_n X dX5_fittingLaws_30 rfl (s_iret X dX5_fittingLaws_31 hr)) (s_aload_n X dX5_fittingLaws_9 rfl (s_iload_n X dX5_fittingLaws_10 rfl (s_iload_n X dX5_fittingLaws_11 rfl (s_callV X h_X5_fitsSeen dX5_fittingLaws_12 rfl gX5_fittingLaws_X5_fitsSeen rfl rfl rfl (by decide +kernel) ⟨by decide, by decide⟩ (s_if_eq X dX5_fittingLaws_15 (by decide) (S_X5_fittingLaws_24 la X hr h_X5_fitsSeen) (s_iload_n X dX5_fittingLaws_18 rfl (s_iconst X dX5_fittingLaws_19 (by decide) (s_iload_n X dX5_fittingLaws_20 rfl (s_ishl X dX5_fittingLaws_21 (s_ior X dX5_fittingLaws_22 (s_istore_n X dX5_fittingLaws_23 rfl (by decide) (S_X5_fittingLaws_24 la X hr h_X5_fitsSeen)))))))))))))))
set_option maxRecDepth 100000 in
set_option maxHeartbeats 4000000 in
theorem S_X5_fittingLaws_0 {p : Program} {e : Env} {s : State} {m : MethodId} {args : Array Value} {below : List Frame} {meth : Method} {c : Code} {D : va_G} {cy : zY} {b n0 : Nat} {P : zPo} (la : Launch) (X : zX p la e (rm_X5_fittingLaws) s m args below meth c 4 D cy b n0 cX5_fittingLaws wsX5_fittingLaws RX5) (hr : meth.sig.returnType = (some .int)) (h_X5_fitsSeen : zMet la yX5_fitsSeen wsX5_fitsSeen rm_X5_fitsSeen 0 0 sp_X5_fitsSeen) : zS p la e (rm_X5_fittingLaws) s m args below meth c (MQ below (zQ D b (n0 + 0) P) args s 0 0 (fun q => b ≤ q)) 4 D b n0 0 (B_X5_fittingLaws_0 b n0 cy P (zAt p la e (rm_X5_fittingLaws) s m args below meth c (MQ below (zQ D b (n0 + 0) P) args s 0 0 (fun q => b ≤ q)) 4 D b n0)) := by
  unfold B_X5_fittingLaws_0
  exact (s_iconst X dX5_fittingLaws_0 (by decide) (s_istore_n X dX5_fittingLaws_1 rfl (by decide) (s_iconst X dX5_fittingLaws_2 (by decide) (s_istore_n X dX5_fittingLaws_3 rfl (by decide) (s_cut (by decide) zS_at)))))
theorem w_X5_fittingLaws (la : Launch) (h_X5_fitsSeen : zMet la yX5_fitsSeen wsX5_fitsSeen rm_X5_fitsSeen 0 0 sp_X5_fitsSeen) (sp : zSp) (vc : zVC_X5_fittingLaws sp) : zMet la yX5_fittingLaws wsX5_fittingLaws (rm_X5_fittingLaws) 0 0 sp :=
  z_of (cc := cX5_fittingLaws) (maxL := 4) (ret := (some .int)) (by decide +kernel) rfl (fun p e s m args below meth c D cy b n as E P hsp X hr hin => by
    obtain ⟨h1, h2⟩ := vc b cy n as E P (zAt p la e (rm_X5_fittingLaws) s m args below meth c (MQ below (zQ D b (n + 0) P) args s 0 0 (fun q => b ≤ q)) 4 D b n) (fun _ _ _ _ _ q => S_X5_fittingLaws_4 la X hr h_X5_fitsSeen _ _ _ _ _ q) hsp
    exact ⟨h1, S_X5_fittingLaws_0 la X hr h_X5_fitsSeen _ _ _ _ _ h2⟩)

theorem m_X5_fittingLaws (la : Launch) : zMet la yX5_fittingLaws wsX5_fittingLaws rm_X5_fittingLaws 0 0 sp_X5_fittingLaws := w_X5_fittingLaws la (m_X5_fitsSeen la) _ vc_X5_fittingLaws
/-- how many thought of r ever -/
def zthk (n : Nat) (c : Nat → Nat) (r : Nat) : Nat := zsum (fun q => if 0 < c (16 + 6 * q + r) then 1 else 0) n
def sp_X5_thinkersOf : zSp := fun b cy as N E P => ∃ (n : Nat) (lo la : Nat → Nat) (c : Nat → Nat) (r : Nat), as = [.ref b, .int (nI r)] ∧ zP2 b cy N E n lo la c ∧ r < 6 ∧ P (some (.int (nI (zthk n c r)))) E
abbrev rm_X5_thinkersOf : Room := { frames := 2, cells := 0, slots := 0, locals := 62 }
def B_X5_thinkersOf_33 (b n0 : Nat) (cy : zY) (P : zPo) (A : Nat → zC) : zC :=
  z_iinc 3 (1) (z_cut [0, 1, 2, 3] (A 4))
def B_X5_thinkersOf_4 (b n0 : Nat) (cy : zY) (P : zPo) (A : Nat → zC) : zC :=
  z_iload 3 (z_aload 0 (z_get b n0 5 1 (z_get b n0 4 0 (z_icmp (fun x y => y ≤ x) (z_iload 2 (z_iret 0 0 P)) (z_aload 0 (z_get b n0 5 3 (z_get b n0 0 0 (z_iload 3 (z_iload 1 (z_callV b n0 0 0 cy 1 2 0 0 sp_X1_thoughtOf (z_if (fun x => x ≤ 0) (B_X5_thinkersOf_33 b n0 cy P A) (z_iinc 2 (1) (B_X5_thinkersOf_33 b n0 cy P A)))))))))))))
def B_X5_thinkersOf_0 (b n0 : Nat) (cy : zY) (P : zPo) (A : Nat → zC) : zC :=
  z_const (0) (z_istore 2 (z_const (0) (z_istore 3 (z_cut [0, 1, 2, 3] (A 4)))))
def zVC_X5_thinkersOf (sp : zSp) : Prop := ∀ (b : Nat) (cy : zY) (n : Nat) (as : List Value) (E : zE) (P : zPo) (A : Nat → zC), (∀ l st k u E, B_X5_thinkersOf_4 b n cy P A l st k u E → A 4 l st k u E) → sp b cy as n E P → zgood as 4 ∧ B_X5_thinkersOf_0 b n cy P A (lv_args 0 as) [] 0 0 E

set_option maxRecDepth 100000 in
set_option maxHeartbeats 4000000 in
theorem vc_X5_thinkersOf : zVC_X5_thinkersOf sp_X5_thinkersOf := by
  intro b cy N as E P A hA hsp
  obtain ⟨n, lo, la, c, r, rfl, ⟨hp1, e11⟩, hr, hP⟩ := hsp
  refine ⟨⟨Nat.le_of_ble_eq_true rfl, zg1 rfl (zg1 rfl (zg0))⟩, ?_⟩
  obtain ⟨⟨⟨kept, cnt, tr, e0⟩, ⟨seat, line, items, ⟨hn, tf, tg, th, h0, h1, h2, h3, htf, htg, hth⟩⟩, hlo⟩, hmo, hok, hi, hN⟩ := id hp1
  have N0 : 0 < N := by omega
  have N3 : 3 < N := by omega
  have N11 : 11 < N := by omega
  have N12 : 12 < N := by omega
  obtain ⟨hn1, mf, mg, mh, m0, m1, m2, m3, hmf, hmg, hmh⟩ := id hmo
  unfold zthk at hP
  generalize hg : (fun q => if 0 < c (16 + 6 * q + r) then 1 else 0) = g at hP
  have loop : ∀ (d k : Nat) (hd : d + k = n), A 4 [(0, .ref b), (1, .int (nI r)), (2, .int (nI (zsum g k))), (3, .int (nI k))] [] 0 0 E := by
    intro d
    induction d with
    | zero =>
      intro k hd
      obtain rfl : k = n := by omega
      apply hA
      have cle : nI k ≤ nI k := nI_le (Nat.le_refl _) (by omega)
      simp only [B_X5_thinkersOf_0, B_X5_thinkersOf_4, B_X5_thinkersOf_33, e_cut, e_iload, e_aload, e_istore, e_astore, e_iinc, e_const, e_lconst, e_bin, e_bin0, e_un, e_ladd, e_dupi, e_dupr, e_dup2, e_pop, e_if, e_icmp, e_sw, e_sw0, e_sw1, e_get, e_put, e_ald, e_ast, e_aald, e_aast, e_copy, e_new, e_newa, e_anewa, e_min, e_abs, e_oinit, e_callI, e_callV, e_callS, e_iret, e_zret, e_lret, e_vret, e_tl1, e_tl0, e_tl2, e_tl3, z10, Bool.false_eq_true, e_argi, e_argr, e_argn, zld_c, zst_n, zst_c, zpick_n, zpick_c, List.drop_succ_cons, List.drop_zero, List.take_succ_cons, List.take_zero, List.length_cons, List.length_nil, List.reverse_cons, List.reverse_nil, List.nil_append, List.cons_append, List.append_nil, List.getElem?_cons_zero, List.getElem?_cons_succ, List.set_cons_zero, List.set_cons_succ, Nat.add_sub_cancel_left, Nat.sub_self, Nat.add_zero, Nat.zero_add, Nat.le_add_right, Nat.le_refl, true_and, and_true, va_rf, zok, Nat.add_left_cancel_iff, Nat.add_eq_left, Nat.left_eq_add, eq_self, if_true, if_false, not_false_eq_true, not_true_eq_false, false_implies, true_implies, Nat.reduceEqDiff, Nat.reduceAdd, Nat.reduceLT, Nat.reduceLeDiff, reduceIte, zB0, e0, N0, N3, h0, cle]
      exact hP
    | succ d ih =>
      intro k hd
      have hk : k < n := by omega
      have hk6 : k < 6 := by omega
      apply hA
      have cle : ¬ nI n ≤ nI k := nI_ge hk (by omega)
      have h9 := ih (k + 1) (by omega)
      rw [zsum] at h9
      simp only [B_X5_thinkersOf_0, B_X5_thinkersOf_4, B_X5_thinkersOf_33, e_cut, e_iload, e_aload, e_istore, e_astore, e_iinc, e_const, e_lconst, e_bin, e_bin0, e_un, e_ladd, e_dupi, e_dupr, e_dup2, e_pop, e_if, e_icmp, e_sw, e_sw0, e_sw1, e_get, e_put, e_ald, e_ast, e_aald, e_aast, e_copy, e_new, e_newa, e_anewa, e_min, e_abs, e_oinit, e_callI, e_callV, e_callS, e_iret, e_zret, e_lret, e_vret, e_tl1, e_tl0, e_tl2, e_tl3, z10, Bool.false_eq_true, e_argi, e_argr, e_argn, zld_c, zst_n, zst_c, zpick_n, zpick_c, List.drop_succ_cons, List.drop_zero, List.take_succ_cons, List.take_zero, List.length_cons, List.length_nil, List.reverse_cons, List.reverse_nil, List.nil_append, List.cons_append, List.append_nil, List.getElem?_cons_zero, List.getElem?_cons_succ, List.set_cons_zero, List.set_cons_succ, Nat.add_sub_cancel_left, Nat.sub_self, Nat.add_zero, Nat.zero_add, Nat.le_add_right, Nat.le_refl, true_and, and_true, va_rf, zok, Nat.add_left_cancel_iff, Nat.add_eq_left, Nat.left_eq_add, eq_self, if_true, if_false, not_false_eq_true, not_true_eq_false, false_implies, true_implies, Nat.reduceEqDiff, Nat.reduceAdd, Nat.reduceLT, Nat.reduceLeDiff, reduceIte, zB0, e0, N0, N3, h0, cle, N11, e11, m0, N12, nI_1]
      refine ⟨12, k, r, n, c, rfl, hmo, hi, hk6, hr, ?_⟩
      have hlat := hok.lat hk6 hr
      simp only [e_cut, e_iload, e_aload, e_istore, e_astore, e_iinc, e_const, e_lconst, e_bin, e_bin0, e_un, e_ladd, e_dupi, e_dupr, e_dup2, e_pop, e_if, e_icmp, e_sw, e_sw0, e_sw1, e_get, e_put, e_ald, e_ast, e_aald, e_aast, e_copy, e_new, e_newa, e_anewa, e_min, e_abs, e_oinit, e_callI, e_callV, e_callS, e_iret, e_zret, e_lret, e_vret, e_tl1, e_tl0, e_tl2, e_tl3, z10, Bool.false_eq_true, e_argi, e_argr, e_argn, zld_c, zst_n, zst_c, zpick_n, zpick_c, List.drop_succ_cons, List.drop_zero, List.take_succ_cons, List.take_zero, List.length_cons, List.length_nil, List.reverse_cons, List.reverse_nil, List.nil_append, List.cons_append, List.append_nil, List.getElem?_cons_zero, List.getElem?_cons_succ, List.set_cons_zero, List.set_cons_succ, Nat.add_sub_cancel_left, Nat.sub_self, Nat.add_zero, Nat.zero_add, Nat.le_add_right, Nat.le_refl, true_and, and_true, va_rf, zok, Nat.add_left_cancel_iff, Nat.add_eq_left, Nat.left_eq_add, eq_self, if_true, if_false, not_false_eq_true, not_true_eq_false, false_implies, true_implies, Nat.reduceEqDiff, Nat.reduceAdd, Nat.reduceLT, Nat.reduceLeDiff, reduceIte, B_X5_thinkersOf_0, B_X5_thinkersOf_4, B_X5_thinkersOf_33, nI_1]
      refine ⟨fun c1 => ?_, fun c1 => ?_⟩
      · have e : g k = 0 := by
          rw [← hg]
          rcases Nat.eq_zero_or_pos (c (16 + 6 * k + r)) with h | h
          · simp [h]
          · exact absurd c1 (nI_nle h hlat)
        rw [e] at h9; exact h9
      · have e : g k = 1 := by
          rw [← hg]
          rcases Nat.eq_zero_or_pos (c (16 + 6 * k + r)) with h | h
          · rw [h] at c1; exact absurd (by decide) c1
          · simp [h]
        rw [e] at h9; exact h9
  simp only [B_X5_thinkersOf_0, B_X5_thinkersOf_4, B_X5_thinkersOf_33, e_cut, e_iload, e_aload, e_istore, e_astore, e_iinc, e_const, e_lconst, e_bin, e_bin0, e_un, e_ladd, e_dupi, e_dupr, e_dup2, e_pop, e_if, e_icmp, e_sw, e_sw0, e_sw1, e_get, e_put, e_ald, e_ast, e_aald, e_aast, e_copy, e_new, e_newa, e_anewa, e_min, e_abs, e_oinit, e_callI, e_callV, e_callS, e_iret, e_zret, e_lret, e_vret, e_tl1, e_tl0, e_tl2, e_tl3, z10, Bool.false_eq_true, e_argi, e_argr, e_argn, zld_c, zst_n, zst_c, zpick_n, zpick_c, List.drop_succ_cons, List.drop_zero, List.take_succ_cons, List.take_zero, List.length_cons, List.length_nil, List.reverse_cons, List.reverse_nil, List.nil_append, List.cons_append, List.append_nil, List.getElem?_cons_zero, List.getElem?_cons_succ, List.set_cons_zero, List.set_cons_succ, Nat.add_sub_cancel_left, Nat.sub_self, Nat.add_zero, Nat.zero_add, Nat.le_add_right, Nat.le_refl, true_and, and_true, va_rf, zok, Nat.add_left_cancel_iff, Nat.add_eq_left, Nat.left_eq_add, eq_self, if_true, if_false, not_false_eq_true, not_true_eq_false, false_implies, true_implies, Nat.reduceEqDiff, Nat.reduceAdd, Nat.reduceLT, Nat.reduceLeDiff, reduceIte]
  exact loop n 0 rfl
set_option maxRecDepth 20000 in
theorem f_X5_thinkersOf_19 : Cond.fieldLink RX5 19 (TX5 1).1 (TX5 1).2.1 (TX5 1).2.2.1 ∈ wsX5_thinkersOf := by decide +kernel
set_option maxRecDepth 20000 in
theorem k_X5_thinkersOf_5 : ∀ w ∈ u_ws RX5 TX5 11, w ∈ wsX5_thinkersOf := fun _ h => List.mem_cons_of_mem _ (List.mem_append_left _ (List.mem_append_left _ (List.mem_append_left _ (List.mem_append_right _ h))))
set_option maxRecDepth 20000 in
theorem f_X5_thinkersOf_200 : Cond.fieldLink RX5 200 (TX4 0).1 (TX4 0).2.1 (TX4 0).2.2.1 ∈ wsX5_thinkersOf := by decide +kernel
set_option maxRecDepth 20000 in
theorem k_X5_thinkersOf_4 : ∀ w ∈ u_ws RX4 TX4 6, w ∈ wsX5_thinkersOf := fun _ h => List.mem_cons_of_mem _ (List.mem_append_left _ (List.mem_append_left _ (List.mem_append_right _ h)))
set_option maxRecDepth 20000 in
theorem f_X5_thinkersOf_29 : Cond.fieldLink RX5 29 (TX5 3).1 (TX5 3).2.1 (TX5 3).2.2.1 ∈ wsX5_thinkersOf := by decide +kernel
set_option maxRecDepth 20000 in
theorem f_X5_thinkersOf_76 : Cond.fieldLink RX5 76 (TX0 0).1 (TX0 0).2.1 (TX0 0).2.2.1 ∈ wsX5_thinkersOf := by decide +kernel
set_option maxRecDepth 20000 in
theorem k_X5_thinkersOf_0 : ∀ w ∈ u_ws RX0 TX0 2, w ∈ wsX5_thinkersOf := fun _ h => List.mem_cons_of_mem _ (List.mem_append_left _ (List.mem_append_right _ h))
set_option maxRecDepth 100000 in
set_option maxHeartbeats 4000000 in
theorem S_X5_thinkersOf_33 {p : Program} {e : Env} {s : State} {m : MethodId} {args : Array Value} {below : List Frame} {meth : Method} {c : Code} {D : va_G} {cy : zY} {b n0 : Nat} {P : zPo} (la : Launch) (X : zX p la e (rm_X5_thinkersOf) s m args below meth c 4 D cy b n0 cX5_thinkersOf wsX5_thinkersOf RX5) (hr : meth.sig.returnType = (some .int)) (h_X1_thoughtOf : zMet la yX1_thoughtOf wsX1_thoughtOf rm_X1_thoughtOf 0 0 sp_X1_thoughtOf) : zS p la e (rm_X5_thinkersOf) s m args below meth c (MQ below (zQ D b (n0 + 0) P) args s 0 0 (fun q => b ≤ q)) 4 D b n0 33 (B_X5_thinkersOf_33 b n0 cy P (zAt p la e (rm_X5_thinkersOf) s m args below meth c (MQ below (zQ D b (n0 + 0) P) args s 0 0 (fun q => b ≤ q)) 4 D b n0)) := by
  unfold B_X5_thinkersOf_33
  exact (s_iinc X dX5_thinkersOf_33 (by decide) (by decide) (s_goto X dX5_thinkersOf_36 (by decide) (s_cut (by decide) zS_at)))
set_option maxRecDepth 100000 in
set_option maxHeartbeats 4000000 in
theorem S_X5_thinkersOf_4 {p : Program} {e : Env} {s : State} {m : MethodId} {args : Array Value} {below : List Frame} {meth : Method} {c : Code} {D : va_G} {cy : zY} {b n0 : Nat} {P : zPo} (la : Launch) (X : zX p la e (rm_X5_thinkersOf) s m args below meth c 4 D cy b n0 cX5_thinkersOf wsX5_thinkersOf RX5) (hr : meth.sig.returnType = (some .int)) (h_X1_thoughtOf : zMet la yX1_thoughtOf wsX1_thoughtOf rm_X1_thoughtOf 0 0 sp_X1_thoughtOf) : zS p la e (rm_X5_thinkersOf) s m args below meth c (MQ below (zQ D b (n0 + 0) P) args s 0 0 (fun q => b ≤ q)) 4 D b n0 4 (B_X5_thinkersOf_4 b n0 cy P (zAt p la e (rm_X5_thinkersOf) s m args below meth c (MQ below (zQ D b (n0 + 0) P) args s 0 0 (fun q => b ≤ q)) 4 D b n0)) := by
  unfold B_X5_thinkersOf_4
  exact (s_iload_n X dX5_thinkersOf_4 rfl (s_aload_n X dX5_thinkersOf_5 rfl (s_get X dX5_thinkersOf_6 rfl k_X5_thinkersOf_5 (by decide) f_X5_thinkersOf_19 (s_get X dX5_thinkersOf_9 rfl k_X5_thinkersOf_4 (by decide) f_X5_thinkersOf_200 (s_icmp_ge X dX5_thinkersOf_12 (by decide) (s_iload_n X dX5_thinkersOf_39 rfl (s_iret X dX5_thinkersOf_40 hr)) (s_aload_n X dX5_thinkersOf_15 rfl (s_get X dX5_thinkersOf_16 rfl k_X5_thinkersOf_5 (by decide) f_X5_thinkersOf_29 (s_get X dX5_thinkersOf_19 rfl k_X5_thinkersOf_0 (by decide) f_X5_thinkersOf_76 (s_iload_n X dX5_thinkersOf_22 rfl (s_iload_n X dX5_thinkersOf_23 rfl (s_callV X h_X1_thoughtOf dX5_thinkersOf_24 rfl gX5_thinkersOf_X1_thoughtOf rfl rfl rfl (by decide +kernel) ⟨by decide, by decide⟩ (s_if_le X dX5_thinkersOf_27 (by decide) (S_X5_thinkersOf_33 la X hr h_X1_thoughtOf) (s_iinc X dX5_thinkersOf_30 (by decide) (by decide) (S_X5_thinkersOf_33 la X hr h_X1_thoughtOf))))))))))))))
set_option maxRecDepth 100000 in
set_option maxHeartbeats 4000000 in
theorem S_X5_thinkersOf_0 {p : Program} {e : Env} {s : State} {m : MethodId} {args : Array Value} {below : List Frame} {meth : Method} {c : Code} {D : va_G} {cy : zY} {b n0 : Nat} {P : zPo} (la : Launch) (X : zX p la e (rm_X5_thinkersOf) s m args below meth c 4 D cy b n0 cX5_thinkersOf wsX5_thinkersOf RX5) (hr : meth.sig.returnType = (some .int)) (h_X1_thoughtOf : zMet la yX1_thoughtOf wsX1_thoughtOf rm_X1_thoughtOf 0 0 sp_X1_thoughtOf) : zS p la e (rm_X5_thinkersOf) s m args below meth c (MQ below (zQ D b (n0 + 0) P) args s 0 0 (fun q => b ≤ q)) 4 D b n0 0 (B_X5_thinkersOf_0 b n0 cy P (zAt p la e (rm_X5_thinkersOf) s m args below meth c (MQ below (zQ D b (n0 + 0) P) args s 0 0 (fun q => b ≤ q)) 4 D b n0)) := by
  unfold B_X5_thinkersOf_0
  exact (s_iconst X dX5_thinkersOf_0 (by decide) (s_istore_n X dX5_thinkersOf_1 rfl (by decide) (s_iconst X dX5_thinkersOf_2 (by decide) (s_istore_n X dX5_thinkersOf_3 rfl (by decide) (s_cut (by decide) zS_at)))))
theorem w_X5_thinkersOf (la : Launch) (h_X1_thoughtOf : zMet la yX1_thoughtOf wsX1_thoughtOf rm_X1_thoughtOf 0 0 sp_X1_thoughtOf) (sp : zSp) (vc : zVC_X5_thinkersOf sp) : zMet la yX5_thinkersOf wsX5_thinkersOf (rm_X5_thinkersOf) 0 0 sp :=
  z_of (cc := cX5_thinkersOf) (maxL := 4) (ret := (some .int)) (by decide +kernel) rfl (fun p e s m args below meth c D cy b n as E P hsp X hr hin => by
    obtain ⟨h1, h2⟩ := vc b cy n as E P (zAt p la e (rm_X5_thinkersOf) s m args below meth c (MQ below (zQ D b (n + 0) P) args s 0 0 (fun q => b ≤ q)) 4 D b n) (fun _ _ _ _ _ q => S_X5_thinkersOf_4 la X hr h_X1_thoughtOf _ _ _ _ _ q) hsp
    exact ⟨h1, S_X5_thinkersOf_0 la X hr h_X1_thoughtOf _ _ _ _ _ h2⟩)

theorem m_X5_thinkersOf (la : Launch) : zMet la yX5_thinkersOf wsX5_thinkersOf rm_X5_thinkersOf 0 0 sp_X5_thinkersOf := w_X5_thinkersOf la (m_X1_thoughtOf la) _ vc_X5_thinkersOf
/-! marks -/
theorem zP2.tr {b : Nat} {cy : zY} {N : Nat} {E : zE} {n : Nat} {lo la c : Nat → Nat} (h : zP2 b cy N E n lo la c) (kept cnt : Int32) (tr : Int64) : zP2 b cy N (va_up E 0 (zB0 b kept cnt tr)) n lo la c := by
  obtain ⟨⟨⟨hb, ⟨seat, line, items, ht⟩, hlo⟩, hmo, hok, hi, hN⟩, e11⟩ := h
  refine ⟨⟨⟨⟨kept, cnt, tr, by simp [va_up]⟩, ⟨seat, line, items, ht.congr (fun k a1 a2 => by simp only [e_up]; rw [if_neg (by omega)])⟩, hlo⟩, hmo.congr (fun k a1 a2 => by simp only [e_up]; rw [if_neg (by omega)]), hok, hi, hN⟩, ?_⟩
  simp only [e_up]; rw [if_neg (by omega)]; exact e11
def zMk (k : Int64 → Int64) (val : Nat → (Nat → Nat) → (Nat → Nat) → Nat → Int32) : zSp := fun b cy as N E P => ∃ (n : Nat) (lo la : Nat → Nat) (c : Nat → Nat) (kept cnt : Int32) (tr : Int64) (r : Nat), as = [.ref b, .int (nI r)] ∧ E 0 = zB0 b kept cnt tr ∧ zP2 b cy N E n lo la c ∧ r < n ∧ P (some (.int (val n lo c r))) (va_up E 0 (zB0 b kept cnt (k tr)))
def sp_X5_riderMark : zSp := zMk (fun t => t + 1) (fun _ _ c r => nI (c (4 + r)))
abbrev rm_X5_riderMark : Room := { frames := 1, cells := 0, slots := 0, locals := 40 }
def B_X5_riderMark_0 (b n0 : Nat) (cy : zY) (P : zPo) (A : Nat → zC) : zC :=
  z_aload 0 (z_dup (z_get b n0 5 10 (z_lconst (1) (z_ladd (z_put b n0 5 10 2 (z_aload 0 (z_get b n0 5 3 (z_get b n0 0 0 (z_get b n0 1 4 (z_iload 1 (z_ald b n0 (cy 1) (z_iret 0 0 P))))))))))))
def zVC_X5_riderMark (sp : zSp) : Prop := ∀ (b : Nat) (cy : zY) (n : Nat) (as : List Value) (E : zE) (P : zPo) (A : Nat → zC), sp b cy as n E P → zgood as 2 ∧ B_X5_riderMark_0 b n cy P A (lv_args 0 as) [] 0 0 E

set_option maxRecDepth 100000 in
set_option maxHeartbeats 4000000 in
theorem vc_X5_riderMark : zVC_X5_riderMark sp_X5_riderMark := by
  intro b cy N as E P A hsp
  obtain ⟨n, lo, la, c, kept, cnt, tr, r, rfl, e0, ⟨⟨hR, hmo, hok, hi, hN⟩, e11⟩, hr, hP⟩ := hsp
  refine ⟨⟨Nat.le_of_ble_eq_true rfl, zg1 rfl (zg1 rfl (zg0))⟩, ?_⟩
  have hn := hok.1
  obtain ⟨hn1, mf, mg, mh, m0, m1, m2, m3, hmf, hmg, hmh⟩ := id hmo
  replace m1 : E 13 = .inl (cy 1, 6, .inl mf) := m1
  have N0 : 0 < N := by omega
  have N11 : 11 < N := by omega
  have N12 : 12 < N := by omega
  have N13 : 13 < N := by omega
  have hin : vp_in (nI r) 6 := vp_in_nI (by omega) (by omega)
  have hcl : (nI r).toNatClampNeg = r := nI_clamp (by omega)
  simp only [B_X5_riderMark_0, e_cut, e_iload, e_aload, e_istore, e_astore, e_iinc, e_const, e_lconst, e_bin, e_bin0, e_un, e_ladd, e_dupi, e_dupr, e_dup2, e_pop, e_if, e_icmp, e_sw, e_sw0, e_sw1, e_get, e_put, e_ald, e_ast, e_aald, e_aast, e_copy, e_new, e_newa, e_anewa, e_min, e_abs, e_oinit, e_callI, e_callV, e_callS, e_iret, e_zret, e_lret, e_vret, e_tl1, e_tl0, e_tl2, e_tl3, z10, Bool.false_eq_true, e_argi, e_argr, e_argn, zld_c, zst_n, zst_c, zpick_n, zpick_c, List.drop_succ_cons, List.drop_zero, List.take_succ_cons, List.take_zero, List.length_cons, List.length_nil, List.reverse_cons, List.reverse_nil, List.nil_append, List.cons_append, List.append_nil, List.getElem?_cons_zero, List.getElem?_cons_succ, List.set_cons_zero, List.set_cons_succ, Nat.add_sub_cancel_left, Nat.sub_self, Nat.add_zero, Nat.zero_add, Nat.le_add_right, Nat.le_refl, true_and, and_true, va_rf, zok, Nat.add_left_cancel_iff, Nat.add_eq_left, Nat.left_eq_add, eq_self, if_true, if_false, not_false_eq_true, not_true_eq_false, false_implies, true_implies, Nat.reduceEqDiff, Nat.reduceAdd, Nat.reduceLT, Nat.reduceLeDiff, reduceIte, zB0, e0, N0, N11, N12, N13, e_up, e11, m0, m1, hin, hcl, hmf r hr]
  exact hP
set_option maxRecDepth 20000 in
theorem f_X5_riderMark_231 : Cond.fieldLink RX5 231 (TX5 10).1 (TX5 10).2.1 (TX5 10).2.2.1 ∈ wsX5_riderMark := by decide +kernel
set_option maxRecDepth 20000 in
theorem k_X5_riderMark_5 : ∀ w ∈ u_ws RX5 TX5 11, w ∈ wsX5_riderMark := fun _ h => List.mem_cons_of_mem _ (List.mem_append_left _ (List.mem_append_left _ (List.mem_append_right _ h)))
set_option maxRecDepth 20000 in
theorem f_X5_riderMark_29 : Cond.fieldLink RX5 29 (TX5 3).1 (TX5 3).2.1 (TX5 3).2.2.1 ∈ wsX5_riderMark := by decide +kernel
set_option maxRecDepth 20000 in
theorem f_X5_riderMark_76 : Cond.fieldLink RX5 76 (TX0 0).1 (TX0 0).2.1 (TX0 0).2.2.1 ∈ wsX5_riderMark := by decide +kernel
set_option maxRecDepth 20000 in
theorem k_X5_riderMark_0 : ∀ w ∈ u_ws RX0 TX0 2, w ∈ wsX5_riderMark := fun _ h => List.mem_cons_of_mem _ (List.mem_append_left _ (List.mem_append_right _ h))
set_option maxRecDepth 20000 in
theorem f_X5_riderMark_79 : Cond.fieldLink RX5 79 (TX1 4).1 (TX1 4).2.1 (TX1 4).2.2.1 ∈ wsX5_riderMark := by decide +kernel
set_option maxRecDepth 20000 in
theorem k_X5_riderMark_1 : ∀ w ∈ u_ws RX1 TX1 7, w ∈ wsX5_riderMark := fun _ h => List.mem_cons_of_mem _ (List.mem_append_right _ h)
set_option maxRecDepth 100000 in
set_option maxHeartbeats 4000000 in
theorem S_X5_riderMark_0 {p : Program} {e : Env} {s : State} {m : MethodId} {args : Array Value} {below : List Frame} {meth : Method} {c : Code} {D : va_G} {cy : zY} {b n0 : Nat} {P : zPo} (la : Launch) (X : zX p la e (rm_X5_riderMark) s m args below meth c 2 D cy b n0 cX5_riderMark wsX5_riderMark RX5) (hr : meth.sig.returnType = (some .int)) : zS p la e (rm_X5_riderMark) s m args below meth c (MQ below (zQ D b (n0 + 0) P) args s 0 0 (fun q => b ≤ q)) 2 D b n0 0 (B_X5_riderMark_0 b n0 cy P (zAt p la e (rm_X5_riderMark) s m args below meth c (MQ below (zQ D b (n0 + 0) P) args s 0 0 (fun q => b ≤ q)) 2 D b n0)) := by
  unfold B_X5_riderMark_0
  exact (s_aload_n X dX5_riderMark_0 rfl (s_dup X dX5_riderMark_1 (s_get X dX5_riderMark_2 rfl k_X5_riderMark_5 (by decide) f_X5_riderMark_231 (s_lconst X dX5_riderMark_5 (by decide) (s_ladd X dX5_riderMark_6 (s_put X dX5_riderMark_7 rfl k_X5_riderMark_5 tyX5_ok nmX5 (by decide) f_X5_riderMark_231 rfl (tyX5_ok 10 (by decide)) zok_long (s_aload_n X dX5_riderMark_10 rfl (s_get X dX5_riderMark_11 rfl k_X5_riderMark_5 (by decide) f_X5_riderMark_29 (s_get X dX5_riderMark_14 rfl k_X5_riderMark_0 (by decide) f_X5_riderMark_76 (s_get X dX5_riderMark_17 rfl k_X5_riderMark_1 (by decide) f_X5_riderMark_79 (s_iload_n X dX5_riderMark_20 rfl (s_iald X dX5_riderMark_21 (s_iret X dX5_riderMark_22 hr)))))))))))))
theorem w_X5_riderMark (la : Launch) (sp : zSp) (vc : zVC_X5_riderMark sp) : zMet la yX5_riderMark wsX5_riderMark (rm_X5_riderMark) 0 0 sp :=
  z_of (cc := cX5_riderMark) (maxL := 2) (ret := (some .int)) (by decide +kernel) rfl (fun p e s m args below meth c D cy b n as E P hsp X hr hin => by
    obtain ⟨h1, h2⟩ := vc b cy n as E P (zAt p la e (rm_X5_riderMark) s m args below meth c (MQ below (zQ D b (n + 0) P) args s 0 0 (fun q => b ≤ q)) 2 D b n) hsp
    exact ⟨h1, S_X5_riderMark_0 la X hr _ _ _ _ _ h2⟩)

theorem m_X5_riderMark (la : Launch) : zMet la yX5_riderMark wsX5_riderMark rm_X5_riderMark 0 0 sp_X5_riderMark := w_X5_riderMark la _ vc_X5_riderMark
theorem zB0_up {E : zE} {b : Nat} {kept cnt : Int32} {tr : Int64} : va_up E 0 (zB0 b kept cnt tr) 0 = zB0 b kept cnt tr := by simp [va_up]
def sp_X5_nunMark : zSp := zMk (fun t => t + 10 + 1) (fun _ lo c r => nI (c (4 + r)) + nI (lo r))
abbrev rm_X5_nunMark : Room := { frames := 2, cells := 0, slots := 0, locals := 61 }
def B_X5_nunMark_0 (b n0 : Nat) (cy : zY) (P : zPo) (A : Nat → zC) : zC :=
  z_aload 0 (z_dup (z_get b n0 5 10 (z_lconst (10) (z_ladd (z_put b n0 5 10 2 (z_aload 0 (z_iload 1 (z_callV b n0 0 0 cy 5 1 0 0 sp_X5_riderMark (z_aload 0 (z_get b n0 5 1 (z_get b n0 4 4 (z_iload 1 (z_ald b n0 (cy 1) (z_bin (fun x y => x + y) (z_iret 0 0 P)))))))))))))))
def zVC_X5_nunMark (sp : zSp) : Prop := ∀ (b : Nat) (cy : zY) (n : Nat) (as : List Value) (E : zE) (P : zPo) (A : Nat → zC), sp b cy as n E P → zgood as 2 ∧ B_X5_nunMark_0 b n cy P A (lv_args 0 as) [] 0 0 E

set_option maxRecDepth 100000 in
set_option maxHeartbeats 4000000 in
theorem vc_X5_nunMark : zVC_X5_nunMark sp_X5_nunMark := by
  intro b cy N as E P A hsp
  obtain ⟨n, lo, la, c, kept, cnt, tr, r, rfl, e0, hp2, hr, hP⟩ := hsp
  refine ⟨⟨Nat.le_of_ble_eq_true rfl, zg1 rfl (zg1 rfl (zg0))⟩, ?_⟩
  have h1 := hp2.tr kept cnt (tr + 10)
  obtain ⟨⟨⟨hR, ⟨seat, line, items, ⟨hn, tf, tg, th, h0, hh1, hh2, hh3, htf, htg, hth⟩⟩, hlo⟩, hmo, hok, hi, hN⟩, e11⟩ := id hp2
  replace hh2 : E 5 = .inl (cy 1, 6, .inl tg) := hh2
  have N0 : 0 < N := by omega
  have N3 : 3 < N := by omega
  have N5 : 5 < N := by omega
  have hin : vp_in (nI r) 6 := vp_in_nI (by omega) (by omega)
  have hcl : (nI r).toNatClampNeg = r := nI_clamp (by omega)
  simp only [B_X5_nunMark_0, e_cut, e_iload, e_aload, e_istore, e_astore, e_iinc, e_const, e_lconst, e_bin, e_bin0, e_un, e_ladd, e_dupi, e_dupr, e_dup2, e_pop, e_if, e_icmp, e_sw, e_sw0, e_sw1, e_get, e_put, e_ald, e_ast, e_aald, e_aast, e_copy, e_new, e_newa, e_anewa, e_min, e_abs, e_oinit, e_callI, e_callV, e_callS, e_iret, e_zret, e_lret, e_vret, e_tl1, e_tl0, e_tl2, e_tl3, z10, Bool.false_eq_true, e_argi, e_argr, e_argn, zld_c, zst_n, zst_c, zpick_n, zpick_c, List.drop_succ_cons, List.drop_zero, List.take_succ_cons, List.take_zero, List.length_cons, List.length_nil, List.reverse_cons, List.reverse_nil, List.nil_append, List.cons_append, List.append_nil, List.getElem?_cons_zero, List.getElem?_cons_succ, List.set_cons_zero, List.set_cons_succ, Nat.add_sub_cancel_left, Nat.sub_self, Nat.add_zero, Nat.zero_add, Nat.le_add_right, Nat.le_refl, true_and, and_true, va_rf, zok, Nat.add_left_cancel_iff, Nat.add_eq_left, Nat.left_eq_add, eq_self, if_true, if_false, not_false_eq_true, not_true_eq_false, false_implies, true_implies, Nat.reduceEqDiff, Nat.reduceAdd, Nat.reduceLT, Nat.reduceLeDiff, reduceIte, zB0, e0, N0, e_up]
  refine ⟨n, lo, la, c, kept, cnt, tr + 10, r, rfl, zB0_up, h1, hr, ?_⟩
  simp only [e_cut, e_iload, e_aload, e_istore, e_astore, e_iinc, e_const, e_lconst, e_bin, e_bin0, e_un, e_ladd, e_dupi, e_dupr, e_dup2, e_pop, e_if, e_icmp, e_sw, e_sw0, e_sw1, e_get, e_put, e_ald, e_ast, e_aald, e_aast, e_copy, e_new, e_newa, e_anewa, e_min, e_abs, e_oinit, e_callI, e_callV, e_callS, e_iret, e_zret, e_lret, e_vret, e_tl1, e_tl0, e_tl2, e_tl3, z10, Bool.false_eq_true, e_argi, e_argr, e_argn, zld_c, zst_n, zst_c, zpick_n, zpick_c, List.drop_succ_cons, List.drop_zero, List.take_succ_cons, List.take_zero, List.length_cons, List.length_nil, List.reverse_cons, List.reverse_nil, List.nil_append, List.cons_append, List.append_nil, List.getElem?_cons_zero, List.getElem?_cons_succ, List.set_cons_zero, List.set_cons_succ, Nat.add_sub_cancel_left, Nat.sub_self, Nat.add_zero, Nat.zero_add, Nat.le_add_right, Nat.le_refl, true_and, and_true, va_rf, zok, Nat.add_left_cancel_iff, Nat.add_eq_left, Nat.left_eq_add, eq_self, if_true, if_false, not_false_eq_true, not_true_eq_false, false_implies, true_implies, Nat.reduceEqDiff, Nat.reduceAdd, Nat.reduceLT, Nat.reduceLeDiff, reduceIte, zB0, N0, N3, N5, e_up, h0, hh2, hin, hcl, htg r hr, bx_uu]
  exact hP
set_option maxRecDepth 20000 in
theorem f_X5_nunMark_231 : Cond.fieldLink RX5 231 (TX5 10).1 (TX5 10).2.1 (TX5 10).2.2.1 ∈ wsX5_nunMark := by decide +kernel
set_option maxRecDepth 20000 in
theorem k_X5_nunMark_5 : ∀ w ∈ u_ws RX5 TX5 11, w ∈ wsX5_nunMark := fun _ h => List.mem_cons_of_mem _ (List.mem_append_left _ (List.mem_append_left _ (List.mem_append_left _ (List.mem_append_right _ h))))
set_option maxRecDepth 20000 in
theorem f_X5_nunMark_c264 : Cond.constantLong RX5 264 (10) ∈ wsX5_nunMark := by decide +kernel
set_option maxRecDepth 20000 in
theorem f_X5_nunMark_19 : Cond.fieldLink RX5 19 (TX5 1).1 (TX5 1).2.1 (TX5 1).2.2.1 ∈ wsX5_nunMark := by decide +kernel
set_option maxRecDepth 20000 in
theorem f_X5_nunMark_82 : Cond.fieldLink RX5 82 (TX4 4).1 (TX4 4).2.1 (TX4 4).2.2.1 ∈ wsX5_nunMark := by decide +kernel
set_option maxRecDepth 20000 in
theorem k_X5_nunMark_4 : ∀ w ∈ u_ws RX4 TX4 6, w ∈ wsX5_nunMark := fun _ h => List.mem_cons_of_mem _ (List.mem_append_left _ (List.mem_append_left _ (List.mem_append_right _ h)))
set_option maxRecDepth 100000 in
set_option maxHeartbeats 4000000 in
theorem S_X5_nunMark_0 {p : Program} {e : Env} {s : State} {m : MethodId} {args : Array Value} {below : List Frame} {meth : Method} {c : Code} {D : va_G} {cy : zY} {b n0 : Nat} {P : zPo} (la : Launch) (X : zX p la e (rm_X5_nunMark) s m args below meth c 2 D cy b n0 cX5_nunMark wsX5_nunMark RX5) (hr : meth.sig.returnType = (some .int)) (h_X5_riderMark : zMet la yX5_riderMark wsX5_riderMark rm_X5_riderMark 0 0 sp_X5_riderMark) : zS p la e (rm_X5_nunMark) s m args below meth c (MQ below (zQ D b (n0 + 0) P) args s 0 0 (fun q => b ≤ q)) 2 D b n0 0 (B_X5_nunMark_0 b n0 cy P (zAt p la e (rm_X5_nunMark) s m args below meth c (MQ below (zQ D b (n0 + 0) P) args s 0 0 (fun q => b ≤ q)) 2 D b n0)) := by
  unfold B_X5_nunMark_0
  exact (s_aload_n X dX5_nunMark_0 rfl (s_dup X dX5_nunMark_1 (s_get X dX5_nunMark_2 rfl k_X5_nunMark_5 (by decide) f_X5_nunMark_231 (s_ldc2 X dX5_nunMark_5 f_X5_nunMark_c264 (s_ladd X dX5_nunMark_8 (s_put X dX5_nunMark_9 rfl k_X5_nunMark_5 tyX5_ok nmX5 (by decide) f_X5_nunMark_231 rfl (tyX5_ok 10 (by decide)) zok_long (s_aload_n X dX5_nunMark_12 rfl (s_iload_n X dX5_nunMark_13 rfl (s_callV X h_X5_riderMark dX5_nunMark_14 rfl gX5_nunMark_X5_riderMark rfl rfl rfl (by decide +kernel) ⟨by decide, by decide⟩ (s_aload_n X dX5_nunMark_17 rfl (s_get X dX5_nunMark_18 rfl k_X5_nunMark_5 (by decide) f_X5_nunMark_19 (s_get X dX5_nunMark_21 rfl k_X5_nunMark_4 (by decide) f_X5_nunMark_82 (s_iload_n X dX5_nunMark_24 rfl (s_iald X dX5_nunMark_25 (s_iadd X dX5_nunMark_26 (s_iret X dX5_nunMark_27 hr))))))))))))))))
theorem w_X5_nunMark (la : Launch) (h_X5_riderMark : zMet la yX5_riderMark wsX5_riderMark rm_X5_riderMark 0 0 sp_X5_riderMark) (sp : zSp) (vc : zVC_X5_nunMark sp) : zMet la yX5_nunMark wsX5_nunMark (rm_X5_nunMark) 0 0 sp :=
  z_of (cc := cX5_nunMark) (maxL := 2) (ret := (some .int)) (by decide +kernel) rfl (fun p e s m args below meth c D cy b n as E P hsp X hr hin => by
    obtain ⟨h1, h2⟩ := vc b cy n as E P (zAt p la e (rm_X5_nunMark) s m args below meth c (MQ below (zQ D b (n + 0) P) args s 0 0 (fun q => b ≤ q)) 2 D b n) hsp
    exact ⟨h1, S_X5_nunMark_0 la X hr h_X5_riderMark _ _ _ _ _ h2⟩)

theorem m_X5_nunMark (la : Launch) : zMet la yX5_nunMark wsX5_nunMark rm_X5_nunMark 0 0 sp_X5_nunMark := w_X5_nunMark la (m_X5_riderMark la) _ vc_X5_nunMark
def sp_X5_boyMark : zSp := zMk (fun t => t + 100 + 1) (fun n _ c r => nI (c (4 + r)) - nI (zthk n c r))
abbrev rm_X5_boyMark : Room := { frames := 3, cells := 0, slots := 0, locals := 85 }
def B_X5_boyMark_0 (b n0 : Nat) (cy : zY) (P : zPo) (A : Nat → zC) : zC :=
  z_aload 0 (z_dup (z_get b n0 5 10 (z_lconst (100) (z_ladd (z_put b n0 5 10 2 (z_aload 0 (z_iload 1 (z_callV b n0 0 0 cy 5 1 0 0 sp_X5_riderMark (z_aload 0 (z_iload 1 (z_callV b n0 0 0 cy 5 1 0 0 sp_X5_thinkersOf (z_bin (fun x y => x - y) (z_iret 0 0 P)))))))))))))
def zVC_X5_boyMark (sp : zSp) : Prop := ∀ (b : Nat) (cy : zY) (n : Nat) (as : List Value) (E : zE) (P : zPo) (A : Nat → zC), sp b cy as n E P → zgood as 2 ∧ B_X5_boyMark_0 b n cy P A (lv_args 0 as) [] 0 0 E

set_option maxRecDepth 100000 in
set_option maxHeartbeats 4000000 in
theorem vc_X5_boyMark : zVC_X5_boyMark sp_X5_boyMark := by
  intro b cy N as E P A hsp
  obtain ⟨n, lo, la, c, kept, cnt, tr, r, rfl, e0, hp2, hr, hP⟩ := hsp
  refine ⟨⟨Nat.le_of_ble_eq_true rfl, zg1 rfl (zg1 rfl (zg0))⟩, ?_⟩
  have h1 := hp2.tr kept cnt (tr + 100)
  have h2 := hp2.tr kept cnt (tr + 100 + 1)
  obtain ⟨⟨hR, hmo, hok, hi, hN⟩, e11⟩ := id hp2
  have hn := hok.1
  have N0 : 0 < N := by omega
  simp only [B_X5_boyMark_0, e_cut, e_iload, e_aload, e_istore, e_astore, e_iinc, e_const, e_lconst, e_bin, e_bin0, e_un, e_ladd, e_dupi, e_dupr, e_dup2, e_pop, e_if, e_icmp, e_sw, e_sw0, e_sw1, e_get, e_put, e_ald, e_ast, e_aald, e_aast, e_copy, e_new, e_newa, e_anewa, e_min, e_abs, e_oinit, e_callI, e_callV, e_callS, e_iret, e_zret, e_lret, e_vret, e_tl1, e_tl0, e_tl2, e_tl3, z10, Bool.false_eq_true, e_argi, e_argr, e_argn, zld_c, zst_n, zst_c, zpick_n, zpick_c, List.drop_succ_cons, List.drop_zero, List.take_succ_cons, List.take_zero, List.length_cons, List.length_nil, List.reverse_cons, List.reverse_nil, List.nil_append, List.cons_append, List.append_nil, List.getElem?_cons_zero, List.getElem?_cons_succ, List.set_cons_zero, List.set_cons_succ, Nat.add_sub_cancel_left, Nat.sub_self, Nat.add_zero, Nat.zero_add, Nat.le_add_right, Nat.le_refl, true_and, and_true, va_rf, zok, Nat.add_left_cancel_iff, Nat.add_eq_left, Nat.left_eq_add, eq_self, if_true, if_false, not_false_eq_true, not_true_eq_false, false_implies, true_implies, Nat.reduceEqDiff, Nat.reduceAdd, Nat.reduceLT, Nat.reduceLeDiff, reduceIte, zB0, e0, N0, e_up]
  refine ⟨n, lo, la, c, kept, cnt, tr + 100, r, rfl, zB0_up, h1, hr, ?_⟩
  simp only [e_cut, e_iload, e_aload, e_istore, e_astore, e_iinc, e_const, e_lconst, e_bin, e_bin0, e_un, e_ladd, e_dupi, e_dupr, e_dup2, e_pop, e_if, e_icmp, e_sw, e_sw0, e_sw1, e_get, e_put, e_ald, e_ast, e_aald, e_aast, e_copy, e_new, e_newa, e_anewa, e_min, e_abs, e_oinit, e_callI, e_callV, e_callS, e_iret, e_zret, e_lret, e_vret, e_tl1, e_tl0, e_tl2, e_tl3, z10, Bool.false_eq_true, e_argi, e_argr, e_argn, zld_c, zst_n, zst_c, zpick_n, zpick_c, List.drop_succ_cons, List.drop_zero, List.take_succ_cons, List.take_zero, List.length_cons, List.length_nil, List.reverse_cons, List.reverse_nil, List.nil_append, List.cons_append, List.append_nil, List.getElem?_cons_zero, List.getElem?_cons_succ, List.set_cons_zero, List.set_cons_succ, Nat.add_sub_cancel_left, Nat.sub_self, Nat.add_zero, Nat.zero_add, Nat.le_add_right, Nat.le_refl, true_and, and_true, va_rf, zok, Nat.add_left_cancel_iff, Nat.add_eq_left, Nat.left_eq_add, eq_self, if_true, if_false, not_false_eq_true, not_true_eq_false, false_implies, true_implies, Nat.reduceEqDiff, Nat.reduceAdd, Nat.reduceLT, Nat.reduceLeDiff, reduceIte, zB0, N0, e_up, bx_uu]
  refine ⟨n, lo, la, c, r, rfl, h2, by omega, ?_⟩
  simp only [e_cut, e_iload, e_aload, e_istore, e_astore, e_iinc, e_const, e_lconst, e_bin, e_bin0, e_un, e_ladd, e_dupi, e_dupr, e_dup2, e_pop, e_if, e_icmp, e_sw, e_sw0, e_sw1, e_get, e_put, e_ald, e_ast, e_aald, e_aast, e_copy, e_new, e_newa, e_anewa, e_min, e_abs, e_oinit, e_callI, e_callV, e_callS, e_iret, e_zret, e_lret, e_vret, e_tl1, e_tl0, e_tl2, e_tl3, z10, Bool.false_eq_true, e_argi, e_argr, e_argn, zld_c, zst_n, zst_c, zpick_n, zpick_c, List.drop_succ_cons, List.drop_zero, List.take_succ_cons, List.take_zero, List.length_cons, List.length_nil, List.reverse_cons, List.reverse_nil, List.nil_append, List.cons_append, List.append_nil, List.getElem?_cons_zero, List.getElem?_cons_succ, List.set_cons_zero, List.set_cons_succ, Nat.add_sub_cancel_left, Nat.sub_self, Nat.add_zero, Nat.zero_add, Nat.le_add_right, Nat.le_refl, true_and, and_true, va_rf, zok, Nat.add_left_cancel_iff, Nat.add_eq_left, Nat.left_eq_add, eq_self, if_true, if_false, not_false_eq_true, not_true_eq_false, false_implies, true_implies, Nat.reduceEqDiff, Nat.reduceAdd, Nat.reduceLT, Nat.reduceLeDiff, reduceIte]
  exact hP
set_option maxRecDepth 20000 in
theorem f_X5_boyMark_231 : Cond.fieldLink RX5 231 (TX5 10).1 (TX5 10).2.1 (TX5 10).2.2.1 ∈ wsX5_boyMark := by decide +kernel
set_option maxRecDepth 20000 in
theorem k_X5_boyMark_5 : ∀ w ∈ u_ws RX5 TX5 11, w ∈ wsX5_boyMark := fun _ h => List.mem_cons_of_mem _ (List.mem_append_left _ (List.mem_append_left _ (List.mem_append_left _ (List.mem_append_right _ h))))
set_option maxRecDepth 20000 in
theorem f_X5_boyMark_c266 : Cond.constantLong RX5 266 (100) ∈ wsX5_boyMark := by decide +kernel
set_option maxRecDepth 100000 in
set_option maxHeartbeats 4000000 in
theorem S_X5_boyMark_0 {p : Program} {e : Env} {s : State} {m : MethodId} {args : Array Value} {below : List Frame} {meth : Method} {c : Code} {D : va_G} {cy : zY} {b n0 : Nat} {P : zPo} (la : Launch) (X : zX p la e (rm_X5_boyMark) s m args below meth c 2 D cy b n0 cX5_boyMark wsX5_boyMark RX5) (hr : meth.sig.returnType = (some .int)) (h_X5_riderMark : zMet la yX5_riderMark wsX5_riderMark rm_X5_riderMark 0 0 sp_X5_riderMark) (h_X5_thinkersOf : zMet la yX5_thinkersOf wsX5_thinkersOf rm_X5_thinkersOf 0 0 sp_X5_thinkersOf) : zS p la e (rm_X5_boyMark) s m args below meth c (MQ below (zQ D b (n0 + 0) P) args s 0 0 (fun q => b ≤ q)) 2 D b n0 0 (B_X5_boyMark_0 b n0 cy P (zAt p la e (rm_X5_boyMark) s m args below meth c (MQ below (zQ D b (n0 + 0) P) args s 0 0 (fun q => b ≤ q)) 2 D b n0)) := by
  unfold B_X5_boyMark_0
  exact (s_aload_n X dX5_boyMark_0 rfl (s_dup X dX5_boyMark_1 (s_get X dX5_boyMark_2 rfl k_X5_boyMark_5 (by decide) f_X5_boyMark_231 (s_ldc2 X dX5_boyMark_5 f_X5_boyMark_c266 (s_ladd X dX5_boyMark_8 (s_put X dX5_boyMark_9 rfl k_X5_boyMark_5 tyX5_ok nmX5 (by decide) f_X5_boyMark_231 rfl (tyX5_ok 10 (by decide)) zok_long (s_aload_n X dX5_boyMark_12 rfl (s_iload_n X dX5_boyMark_13 rfl (s_callV X h_X5_riderMark dX5_boyMark_14 rfl gX5_boyMark_X5_riderMark rfl rfl rfl (by decide +kernel) ⟨by decide, by decide⟩ (s_aload_n X dX5_boyMark_17 rfl (s_iload_n X dX5_boyMark_18 rfl (s_callV X h_X5_thinkersOf dX5_boyMark_19 rfl gX5_boyMark_X5_thinkersOf rfl rfl rfl (by decide +kernel) ⟨by decide, by decide⟩ (s_isub X dX5_boyMark_22 (s_iret X dX5_boyMark_23 hr))))))))))))))
theorem w_X5_boyMark (la : Launch) (h_X5_riderMark : zMet la yX5_riderMark wsX5_riderMark rm_X5_riderMark 0 0 sp_X5_riderMark) (h_X5_thinkersOf : zMet la yX5_thinkersOf wsX5_thinkersOf rm_X5_thinkersOf 0 0 sp_X5_thinkersOf) (sp : zSp) (vc : zVC_X5_boyMark sp) : zMet la yX5_boyMark wsX5_boyMark (rm_X5_boyMark) 0 0 sp :=
  z_of (cc := cX5_boyMark) (maxL := 2) (ret := (some .int)) (by decide +kernel) rfl (fun p e s m args below meth c D cy b n as E P hsp X hr hin => by
    obtain ⟨h1, h2⟩ := vc b cy n as E P (zAt p la e (rm_X5_boyMark) s m args below meth c (MQ below (zQ D b (n + 0) P) args s 0 0 (fun q => b ≤ q)) 2 D b n) hsp
    exact ⟨h1, S_X5_boyMark_0 la X hr h_X5_riderMark h_X5_thinkersOf _ _ _ _ _ h2⟩)

theorem m_X5_boyMark (la : Launch) : zMet la yX5_boyMark wsX5_boyMark rm_X5_boyMark 0 0 sp_X5_boyMark := w_X5_boyMark la (m_X5_riderMark la) (m_X5_thinkersOf la) _ vc_X5_boyMark
def sp_X5_widowerMark : zSp := zMk (fun t => t + 1000 + 10 + 1) (fun _ lo c r => (nI (c (4 + r)) + nI (lo r)) * 2)
abbrev rm_X5_widowerMark : Room := { frames := 3, cells := 0, slots := 0, locals := 82 }
def B_X5_widowerMark_0 (b n0 : Nat) (cy : zY) (P : zPo) (A : Nat → zC) : zC :=
  z_aload 0 (z_dup (z_get b n0 5 10 (z_lconst (1000) (z_ladd (z_put b n0 5 10 2 (z_aload 0 (z_iload 1 (z_callV b n0 0 0 cy 5 1 0 0 sp_X5_nunMark (z_const (2) (z_bin (fun x y => x * y) (z_iret 0 0 P)))))))))))
def zVC_X5_widowerMark (sp : zSp) : Prop := ∀ (b : Nat) (cy : zY) (n : Nat) (as : List Value) (E : zE) (P : zPo) (A : Nat → zC), sp b cy as n E P → zgood as 2 ∧ B_X5_widowerMark_0 b n cy P A (lv_args 0 as) [] 0 0 E

set_option maxRecDepth 100000 in
set_option maxHeartbeats 4000000 in
theorem vc_X5_widowerMark : zVC_X5_widowerMark sp_X5_widowerMark := by
  intro b cy N as E P A hsp
  obtain ⟨n, lo, la, c, kept, cnt, tr, r, rfl, e0, hp2, hr, hP⟩ := hsp
  refine ⟨⟨Nat.le_of_ble_eq_true rfl, zg1 rfl (zg1 rfl (zg0))⟩, ?_⟩
  have h1 := hp2.tr kept cnt (tr + 1000)
  have hN := hp2.1.2.2.2.2
  have N0 : 0 < N := by omega
  simp only [B_X5_widowerMark_0, e_cut, e_iload, e_aload, e_istore, e_astore, e_iinc, e_const, e_lconst, e_bin, e_bin0, e_un, e_ladd, e_dupi, e_dupr, e_dup2, e_pop, e_if, e_icmp, e_sw, e_sw0, e_sw1, e_get, e_put, e_ald, e_ast, e_aald, e_aast, e_copy, e_new, e_newa, e_anewa, e_min, e_abs, e_oinit, e_callI, e_callV, e_callS, e_iret, e_zret, e_lret, e_vret, e_tl1, e_tl0, e_tl2, e_tl3, z10, Bool.false_eq_true, e_argi, e_argr, e_argn, zld_c, zst_n, zst_c, zpick_n, zpick_c, List.drop_succ_cons, List.drop_zero, List.take_succ_cons, List.take_zero, List.length_cons, List.length_nil, List.reverse_cons, List.reverse_nil, List.nil_append, List.cons_append, List.append_nil, List.getElem?_cons_zero, List.getElem?_cons_succ, List.set_cons_zero, List.set_cons_succ, Nat.add_sub_cancel_left, Nat.sub_self, Nat.add_zero, Nat.zero_add, Nat.le_add_right, Nat.le_refl, true_and, and_true, va_rf, zok, Nat.add_left_cancel_iff, Nat.add_eq_left, Nat.left_eq_add, eq_self, if_true, if_false, not_false_eq_true, not_true_eq_false, false_implies, true_implies, Nat.reduceEqDiff, Nat.reduceAdd, Nat.reduceLT, Nat.reduceLeDiff, reduceIte, zB0, e0, N0, e_up]
  refine ⟨n, lo, la, c, kept, cnt, tr + 1000, r, rfl, zB0_up, h1, hr, ?_⟩
  simp only [e_cut, e_iload, e_aload, e_istore, e_astore, e_iinc, e_const, e_lconst, e_bin, e_bin0, e_un, e_ladd, e_dupi, e_dupr, e_dup2, e_pop, e_if, e_icmp, e_sw, e_sw0, e_sw1, e_get, e_put, e_ald, e_ast, e_aald, e_aast, e_copy, e_new, e_newa, e_anewa, e_min, e_abs, e_oinit, e_callI, e_callV, e_callS, e_iret, e_zret, e_lret, e_vret, e_tl1, e_tl0, e_tl2, e_tl3, z10, Bool.false_eq_true, e_argi, e_argr, e_argn, zld_c, zst_n, zst_c, zpick_n, zpick_c, List.drop_succ_cons, List.drop_zero, List.take_succ_cons, List.take_zero, List.length_cons, List.length_nil, List.reverse_cons, List.reverse_nil, List.nil_append, List.cons_append, List.append_nil, List.getElem?_cons_zero, List.getElem?_cons_succ, List.set_cons_zero, List.set_cons_succ, Nat.add_sub_cancel_left, Nat.sub_self, Nat.add_zero, Nat.zero_add, Nat.le_add_right, Nat.le_refl, true_and, and_true, va_rf, zok, Nat.add_left_cancel_iff, Nat.add_eq_left, Nat.left_eq_add, eq_self, if_true, if_false, not_false_eq_true, not_true_eq_false, false_implies, true_implies, Nat.reduceEqDiff, Nat.reduceAdd, Nat.reduceLT, Nat.reduceLeDiff, reduceIte, zB0, bx_uu]
  exact hP
set_option maxRecDepth 20000 in
theorem f_X5_widowerMark_231 : Cond.fieldLink RX5 231 (TX5 10).1 (TX5 10).2.1 (TX5 10).2.2.1 ∈ wsX5_widowerMark := by decide +kernel
set_option maxRecDepth 20000 in
theorem k_X5_widowerMark_5 : ∀ w ∈ u_ws RX5 TX5 11, w ∈ wsX5_widowerMark := fun _ h => List.mem_cons_of_mem _ (List.mem_append_left _ (List.mem_append_left _ (List.mem_append_left _ (List.mem_append_right _ h))))
set_option maxRecDepth 20000 in
theorem f_X5_widowerMark_c271 : Cond.constantLong RX5 271 (1000) ∈ wsX5_widowerMark := by decide +kernel
set_option maxRecDepth 100000 in
set_option maxHeartbeats 4000000 in
theorem S_X5_widowerMark_0 {p : Program} {e : Env} {s : State} {m : MethodId} {args : Array Value} {below : List Frame} {meth : Method} {c : Code} {D : va_G} {cy : zY} {b n0 : Nat} {P : zPo} (la : Launch) (X : zX p la e (rm_X5_widowerMark) s m args below meth c 2 D cy b n0 cX5_widowerMark wsX5_widowerMark RX5) (hr : meth.sig.returnType = (some .int)) (h_X5_nunMark : zMet la yX5_nunMark wsX5_nunMark rm_X5_nunMark 0 0 sp_X5_nunMark) : zS p la e (rm_X5_widowerMark) s m args below meth c (MQ below (zQ D b (n0 + 0) P) args s 0 0 (fun q => b ≤ q)) 2 D b n0 0 (B_X5_widowerMark_0 b n0 cy P (zAt p la e (rm_X5_widowerMark) s m args below meth c (MQ below (zQ D b (n0 + 0) P) args s 0 0 (fun q => b ≤ q)) 2 D b n0)) := by
  unfold B_X5_widowerMark_0
  exact (s_aload_n X dX5_widowerMark_0 rfl (s_dup X dX5_widowerMark_1 (s_get X dX5_widowerMark_2 rfl k_X5_widowerMark_5 (by decide) f_X5_widowerMark_231 (s_ldc2 X dX5_widowerMark_5 f_X5_widowerMark_c271 (s_ladd X dX5_widowerMark_8 (s_put X dX5_widowerMark_9 rfl k_X5_widowerMark_5 tyX5_ok nmX5 (by decide) f_X5_widowerMark_231 rfl (tyX5_ok 10 (by decide)) zok_long (s_aload_n X dX5_widowerMark_12 rfl (s_iload_n X dX5_widowerMark_13 rfl (s_callV X h_X5_nunMark dX5_widowerMark_14 rfl gX5_widowerMark_X5_nunMark rfl rfl rfl (by decide +kernel) ⟨by decide, by decide⟩ (s_iconst X dX5_widowerMark_17 (by decide) (s_imul X dX5_widowerMark_18 (s_iret X dX5_widowerMark_19 hr))))))))))))
theorem w_X5_widowerMark (la : Launch) (h_X5_nunMark : zMet la yX5_nunMark wsX5_nunMark rm_X5_nunMark 0 0 sp_X5_nunMark) (sp : zSp) (vc : zVC_X5_widowerMark sp) : zMet la yX5_widowerMark wsX5_widowerMark (rm_X5_widowerMark) 0 0 sp :=
  z_of (cc := cX5_widowerMark) (maxL := 2) (ret := (some .int)) (by decide +kernel) rfl (fun p e s m args below meth c D cy b n as E P hsp X hr hin => by
    obtain ⟨h1, h2⟩ := vc b cy n as E P (zAt p la e (rm_X5_widowerMark) s m args below meth c (MQ below (zQ D b (n + 0) P) args s 0 0 (fun q => b ≤ q)) 2 D b n) hsp
    exact ⟨h1, S_X5_widowerMark_0 la X hr h_X5_nunMark _ _ _ _ _ h2⟩)

theorem m_X5_widowerMark (la : Launch) : zMet la yX5_widowerMark wsX5_widowerMark rm_X5_widowerMark 0 0 sp_X5_widowerMark := w_X5_widowerMark la (m_X5_nunMark la) _ vc_X5_widowerMark
def sp_X5_girlMark : zSp := zMk (fun t => t + 10000 + 100 + 1) (fun n _ c r => nI (c (4 + r)) - nI (zthk n c r) + nI r)
abbrev rm_X5_girlMark : Room := { frames := 4, cells := 0, slots := 0, locals := 106 }
def B_X5_girlMark_0 (b n0 : Nat) (cy : zY) (P : zPo) (A : Nat → zC) : zC :=
  z_aload 0 (z_dup (z_get b n0 5 10 (z_lconst (10000) (z_ladd (z_put b n0 5 10 2 (z_aload 0 (z_iload 1 (z_callV b n0 0 0 cy 5 1 0 0 sp_X5_boyMark (z_iload 1 (z_bin (fun x y => x + y) (z_iret 0 0 P)))))))))))
def zVC_X5_girlMark (sp : zSp) : Prop := ∀ (b : Nat) (cy : zY) (n : Nat) (as : List Value) (E : zE) (P : zPo) (A : Nat → zC), sp b cy as n E P → zgood as 2 ∧ B_X5_girlMark_0 b n cy P A (lv_args 0 as) [] 0 0 E

set_option maxRecDepth 100000 in
set_option maxHeartbeats 4000000 in
theorem vc_X5_girlMark : zVC_X5_girlMark sp_X5_girlMark := by
  intro b cy N as E P A hsp
  obtain ⟨n, lo, la, c, kept, cnt, tr, r, rfl, e0, hp2, hr, hP⟩ := hsp
  refine ⟨⟨Nat.le_of_ble_eq_true rfl, zg1 rfl (zg1 rfl (zg0))⟩, ?_⟩
  have h1 := hp2.tr kept cnt (tr + 10000)
  have hN := hp2.1.2.2.2.2
  have N0 : 0 < N := by omega
  simp only [B_X5_girlMark_0, e_cut, e_iload, e_aload, e_istore, e_astore, e_iinc, e_const, e_lconst, e_bin, e_bin0, e_un, e_ladd, e_dupi, e_dupr, e_dup2, e_pop, e_if, e_icmp, e_sw, e_sw0, e_sw1, e_get, e_put, e_ald, e_ast, e_aald, e_aast, e_copy, e_new, e_newa, e_anewa, e_min, e_abs, e_oinit, e_callI, e_callV, e_callS, e_iret, e_zret, e_lret, e_vret, e_tl1, e_tl0, e_tl2, e_tl3, z10, Bool.false_eq_true, e_argi, e_argr, e_argn, zld_c, zst_n, zst_c, zpick_n, zpick_c, List.drop_succ_cons, List.drop_zero, List.take_succ_cons, List.take_zero, List.length_cons, List.length_nil, List.reverse_cons, List.reverse_nil, List.nil_append, List.cons_append, List.append_nil, List.getElem?_cons_zero, List.getElem?_cons_succ, List.set_cons_zero, List.set_cons_succ, Nat.add_sub_cancel_left, Nat.sub_self, Nat.add_zero, Nat.zero_add, Nat.le_add_right, Nat.le_refl, true_and, and_true, va_rf, zok, Nat.add_left_cancel_iff, Nat.add_eq_left, Nat.left_eq_add, eq_self, if_true, if_false, not_false_eq_true, not_true_eq_false, false_implies, true_implies, Nat.reduceEqDiff, Nat.reduceAdd, Nat.reduceLT, Nat.reduceLeDiff, reduceIte, zB0, e0, N0, e_up]
  refine ⟨n, lo, la, c, kept, cnt, tr + 10000, r, rfl, zB0_up, h1, hr, ?_⟩
  simp only [e_cut, e_iload, e_aload, e_istore, e_astore, e_iinc, e_const, e_lconst, e_bin, e_bin0, e_un, e_ladd, e_dupi, e_dupr, e_dup2, e_pop, e_if, e_icmp, e_sw, e_sw0, e_sw1, e_get, e_put, e_ald, e_ast, e_aald, e_aast, e_copy, e_new, e_newa, e_anewa, e_min, e_abs, e_oinit, e_callI, e_callV, e_callS, e_iret, e_zret, e_lret, e_vret, e_tl1, e_tl0, e_tl2, e_tl3, z10, Bool.false_eq_true, e_argi, e_argr, e_argn, zld_c, zst_n, zst_c, zpick_n, zpick_c, List.drop_succ_cons, List.drop_zero, List.take_succ_cons, List.take_zero, List.length_cons, List.length_nil, List.reverse_cons, List.reverse_nil, List.nil_append, List.cons_append, List.append_nil, List.getElem?_cons_zero, List.getElem?_cons_succ, List.set_cons_zero, List.set_cons_succ, Nat.add_sub_cancel_left, Nat.sub_self, Nat.add_zero, Nat.zero_add, Nat.le_add_right, Nat.le_refl, true_and, and_true, va_rf, zok, Nat.add_left_cancel_iff, Nat.add_eq_left, Nat.left_eq_add, eq_self, if_true, if_false, not_false_eq_true, not_true_eq_false, false_implies, true_implies, Nat.reduceEqDiff, Nat.reduceAdd, Nat.reduceLT, Nat.reduceLeDiff, reduceIte, zB0, bx_uu]
  exact hP
set_option maxRecDepth 20000 in
theorem f_X5_girlMark_231 : Cond.fieldLink RX5 231 (TX5 10).1 (TX5 10).2.1 (TX5 10).2.2.1 ∈ wsX5_girlMark := by decide +kernel
set_option maxRecDepth 20000 in
theorem k_X5_girlMark_5 : ∀ w ∈ u_ws RX5 TX5 11, w ∈ wsX5_girlMark := fun _ h => List.mem_cons_of_mem _ (List.mem_append_left _ (List.mem_append_left _ (List.mem_append_left _ (List.mem_append_right _ h))))
set_option maxRecDepth 20000 in
theorem f_X5_girlMark_c273 : Cond.constantLong RX5 273 (10000) ∈ wsX5_girlMark := by decide +kernel
set_option maxRecDepth 100000 in
set_option maxHeartbeats 4000000 in
theorem S_X5_girlMark_0 {p : Program} {e : Env} {s : State} {m : MethodId} {args : Array Value} {below : List Frame} {meth : Method} {c : Code} {D : va_G} {cy : zY} {b n0 : Nat} {P : zPo} (la : Launch) (X : zX p la e (rm_X5_girlMark) s m args below meth c 2 D cy b n0 cX5_girlMark wsX5_girlMark RX5) (hr : meth.sig.returnType = (some .int)) (h_X5_boyMark : zMet la yX5_boyMark wsX5_boyMark rm_X5_boyMark 0 0 sp_X5_boyMark) : zS p la e (rm_X5_girlMark) s m args below meth c (MQ below (zQ D b (n0 + 0) P) args s 0 0 (fun q => b ≤ q)) 2 D b n0 0 (B_X5_girlMark_0 b n0 cy P (zAt p la e (rm_X5_girlMark) s m args below meth c (MQ below (zQ D b (n0 + 0) P) args s 0 0 (fun q => b ≤ q)) 2 D b n0)) := by
  unfold B_X5_girlMark_0
  exact (s_aload_n X dX5_girlMark_0 rfl (s_dup X dX5_girlMark_1 (s_get X dX5_girlMark_2 rfl k_X5_girlMark_5 (by decide) f_X5_girlMark_231 (s_ldc2 X dX5_girlMark_5 f_X5_girlMark_c273 (s_ladd X dX5_girlMark_8 (s_put X dX5_girlMark_9 rfl k_X5_girlMark_5 tyX5_ok nmX5 (by decide) f_X5_girlMark_231 rfl (tyX5_ok 10 (by decide)) zok_long (s_aload_n X dX5_girlMark_12 rfl (s_iload_n X dX5_girlMark_13 rfl (s_callV X h_X5_boyMark dX5_girlMark_14 rfl gX5_girlMark_X5_boyMark rfl rfl rfl (by decide +kernel) ⟨by decide, by decide⟩ (s_iload_n X dX5_girlMark_17 rfl (s_iadd X dX5_girlMark_18 (s_iret X dX5_girlMark_19 hr))))))))))))
theorem w_X5_girlMark (la : Launch) (h_X5_boyMark : zMet la yX5_boyMark wsX5_boyMark rm_X5_boyMark 0 0 sp_X5_boyMark) (sp : zSp) (vc : zVC_X5_girlMark sp) : zMet la yX5_girlMark wsX5_girlMark (rm_X5_girlMark) 0 0 sp :=
  z_of (cc := cX5_girlMark) (maxL := 2) (ret := (some .int)) (by decide +kernel) rfl (fun p e s m args below meth c D cy b n as E P hsp X hr hin => by
    obtain ⟨h1, h2⟩ := vc b cy n as E P (zAt p la e (rm_X5_girlMark) s m args below meth c (MQ below (zQ D b (n + 0) P) args s 0 0 (fun q => b ≤ q)) 2 D b n) hsp
    exact ⟨h1, S_X5_girlMark_0 la X hr h_X5_boyMark _ _ _ _ _ h2⟩)

theorem m_X5_girlMark (la : Launch) : zMet la yX5_girlMark wsX5_girlMark rm_X5_girlMark 0 0 sp_X5_girlMark := w_X5_girlMark la (m_X5_boyMark la) _ vc_X5_girlMark
def sp_X5_driverMark : zSp := zMk (fun t => t + 100000 + 1) (fun _ _ c r => nI (c (4 + r)) + nI (c 0))
abbrev rm_X5_driverMark : Room := { frames := 2, cells := 0, slots := 0, locals := 61 }
def B_X5_driverMark_0 (b n0 : Nat) (cy : zY) (P : zPo) (A : Nat → zC) : zC :=
  z_aload 0 (z_dup (z_get b n0 5 10 (z_lconst (100000) (z_ladd (z_put b n0 5 10 2 (z_aload 0 (z_iload 1 (z_callV b n0 0 0 cy 5 1 0 0 sp_X5_riderMark (z_aload 0 (z_get b n0 5 3 (z_get b n0 0 0 (z_get b n0 1 0 (z_bin (fun x y => x + y) (z_iret 0 0 P))))))))))))))
def zVC_X5_driverMark (sp : zSp) : Prop := ∀ (b : Nat) (cy : zY) (n : Nat) (as : List Value) (E : zE) (P : zPo) (A : Nat → zC), sp b cy as n E P → zgood as 2 ∧ B_X5_driverMark_0 b n cy P A (lv_args 0 as) [] 0 0 E

set_option maxRecDepth 100000 in
set_option maxHeartbeats 4000000 in
theorem vc_X5_driverMark : zVC_X5_driverMark sp_X5_driverMark := by
  intro b cy N as E P A hsp
  obtain ⟨n, lo, la, c, kept, cnt, tr, r, rfl, e0, hp2, hr, hP⟩ := hsp
  refine ⟨⟨Nat.le_of_ble_eq_true rfl, zg1 rfl (zg1 rfl (zg0))⟩, ?_⟩
  have h1 := hp2.tr kept cnt (tr + 100000)
  obtain ⟨⟨hR, hmo, hok, hi, hN⟩, e11⟩ := id hp2
  obtain ⟨hn1, mf, mg, mh, m0, m1, m2, m3, hmf, hmg, hmh⟩ := id hmo
  have N0 : 0 < N := by omega
  have N11 : 11 < N := by omega
  have N12 : 12 < N := by omega
  simp only [B_X5_driverMark_0, e_cut, e_iload, e_aload, e_istore, e_astore, e_iinc, e_const, e_lconst, e_bin, e_bin0, e_un, e_ladd, e_dupi, e_dupr, e_dup2, e_pop, e_if, e_icmp, e_sw, e_sw0, e_sw1, e_get, e_put, e_ald, e_ast, e_aald, e_aast, e_copy, e_new, e_newa, e_anewa, e_min, e_abs, e_oinit, e_callI, e_callV, e_callS, e_iret, e_zret, e_lret, e_vret, e_tl1, e_tl0, e_tl2, e_tl3, z10, Bool.false_eq_true, e_argi, e_argr, e_argn, zld_c, zst_n, zst_c, zpick_n, zpick_c, List.drop_succ_cons, List.drop_zero, List.take_succ_cons, List.take_zero, List.length_cons, List.length_nil, List.reverse_cons, List.reverse_nil, List.nil_append, List.cons_append, List.append_nil, List.getElem?_cons_zero, List.getElem?_cons_succ, List.set_cons_zero, List.set_cons_succ, Nat.add_sub_cancel_left, Nat.sub_self, Nat.add_zero, Nat.zero_add, Nat.le_add_right, Nat.le_refl, true_and, and_true, va_rf, zok, Nat.add_left_cancel_iff, Nat.add_eq_left, Nat.left_eq_add, eq_self, if_true, if_false, not_false_eq_true, not_true_eq_false, false_implies, true_implies, Nat.reduceEqDiff, Nat.reduceAdd, Nat.reduceLT, Nat.reduceLeDiff, reduceIte, zB0, e0, N0, e_up]
  refine ⟨n, lo, la, c, kept, cnt, tr + 100000, r, rfl, zB0_up, h1, hr, ?_⟩
  simp only [e_cut, e_iload, e_aload, e_istore, e_astore, e_iinc, e_const, e_lconst, e_bin, e_bin0, e_un, e_ladd, e_dupi, e_dupr, e_dup2, e_pop, e_if, e_icmp, e_sw, e_sw0, e_sw1, e_get, e_put, e_ald, e_ast, e_aald, e_aast, e_copy, e_new, e_newa, e_anewa, e_min, e_abs, e_oinit, e_callI, e_callV, e_callS, e_iret, e_zret, e_lret, e_vret, e_tl1, e_tl0, e_tl2, e_tl3, z10, Bool.false_eq_true, e_argi, e_argr, e_argn, zld_c, zst_n, zst_c, zpick_n, zpick_c, List.drop_succ_cons, List.drop_zero, List.take_succ_cons, List.take_zero, List.length_cons, List.length_nil, List.reverse_cons, List.reverse_nil, List.nil_append, List.cons_append, List.append_nil, List.getElem?_cons_zero, List.getElem?_cons_succ, List.set_cons_zero, List.set_cons_succ, Nat.add_sub_cancel_left, Nat.sub_self, Nat.add_zero, Nat.zero_add, Nat.le_add_right, Nat.le_refl, true_and, and_true, va_rf, zok, Nat.add_left_cancel_iff, Nat.add_eq_left, Nat.left_eq_add, eq_self, if_true, if_false, not_false_eq_true, not_true_eq_false, false_implies, true_implies, Nat.reduceEqDiff, Nat.reduceAdd, Nat.reduceLT, Nat.reduceLeDiff, reduceIte, zB0, N0, N11, N12, e_up, e11, m0, bx_uu]
  exact hP
set_option maxRecDepth 20000 in
theorem f_X5_driverMark_231 : Cond.fieldLink RX5 231 (TX5 10).1 (TX5 10).2.1 (TX5 10).2.2.1 ∈ wsX5_driverMark := by decide +kernel
set_option maxRecDepth 20000 in
theorem k_X5_driverMark_5 : ∀ w ∈ u_ws RX5 TX5 11, w ∈ wsX5_driverMark := fun _ h => List.mem_cons_of_mem _ (List.mem_append_left _ (List.mem_append_left _ (List.mem_append_right _ h)))
set_option maxRecDepth 20000 in
theorem f_X5_driverMark_c275 : Cond.constantLong RX5 275 (100000) ∈ wsX5_driverMark := by decide +kernel
set_option maxRecDepth 20000 in
theorem f_X5_driverMark_29 : Cond.fieldLink RX5 29 (TX5 3).1 (TX5 3).2.1 (TX5 3).2.2.1 ∈ wsX5_driverMark := by decide +kernel
set_option maxRecDepth 20000 in
theorem f_X5_driverMark_76 : Cond.fieldLink RX5 76 (TX0 0).1 (TX0 0).2.1 (TX0 0).2.2.1 ∈ wsX5_driverMark := by decide +kernel
set_option maxRecDepth 20000 in
theorem k_X5_driverMark_0 : ∀ w ∈ u_ws RX0 TX0 2, w ∈ wsX5_driverMark := fun _ h => List.mem_cons_of_mem _ (List.mem_append_left _ (List.mem_append_right _ h))
set_option maxRecDepth 20000 in
theorem f_X5_driverMark_116 : Cond.fieldLink RX5 116 (TX1 0).1 (TX1 0).2.1 (TX1 0).2.2.1 ∈ wsX5_driverMark := by decide +kernel
set_option maxRecDepth 20000 in
theorem k_X5_driverMark_1 : ∀ w ∈ u_ws RX1 TX1 7, w ∈ wsX5_driverMark := fun _ h => List.mem_cons_of_mem _ (List.mem_append_right _ h)
set_option maxRecDepth 100000 in
set_option maxHeartbeats 4000000 in
theorem S_X5_driverMark_0 {p : Program} {e : Env} {s : State} {m : MethodId} {args : Array Value} {below : List Frame} {meth : Method} {c : Code} {D : va_G} {cy : zY} {b n0 : Nat} {P : zPo} (la : Launch) (X : zX p la e (rm_X5_driverMark) s m args below meth c 2 D cy b n0 cX5_driverMark wsX5_driverMark RX5) (hr : meth.sig.returnType = (some .int)) (h_X5_riderMark : zMet la yX5_riderMark wsX5_riderMark rm_X5_riderMark 0 0 sp_X5_riderMark) : zS p la e (rm_X5_driverMark) s m args below meth c (MQ below (zQ D b (n0 + 0) P) args s 0 0 (fun q => b ≤ q)) 2 D b n0 0 (B_X5_driverMark_0 b n0 cy P (zAt p la e (rm_X5_driverMark) s m args below meth c (MQ below (zQ D b (n0 + 0) P) args s 0 0 (fun q => b ≤ q)) 2 D b n0)) := by
  unfold B_X5_driverMark_0
  exact (s_aload_n X dX5_driverMark_0 rfl (s_dup X dX5_driverMark_1 (s_get X dX5_driverMark_2 rfl k_X5_driverMark_5 (by decide) f_X5_driverMark_231 (s_ldc2 X dX5_driverMark_5 f_X5_driverMark_c275 (s_ladd X dX5_driverMark_8 (s_put X dX5_driverMark_9 rfl k_X5_driverMark_5 tyX5_ok nmX5 (by decide) f_X5_driverMark_231 rfl (tyX5_ok 10 (by decide)) zok_long (s_aload_n X dX5_driverMark_12 rfl (s_iload_n X dX5_driverMark_13 rfl (s_callV X h_X5_riderMark dX5_driverMark_14 rfl gX5_driverMark_X5_riderMark rfl rfl rfl (by decide +kernel) ⟨by decide, by decide⟩ (s_aload_n X dX5_driverMark_17 rfl (s_get X dX5_driverMark_18 rfl k_X5_driverMark_5 (by decide) f_X5_driverMark_29 (s_get X dX5_driverMark_21 rfl k_X5_driverMark_0 (by decide) f_X5_driverMark_76 (s_get X dX5_driverMark_24 rfl k_X5_driverMark_1 (by decide) f_X5_driverMark_116 (s_iadd X dX5_driverMark_27 (s_iret X dX5_driverMark_28 hr)))))))))))))))
theorem w_X5_driverMark (la : Launch) (h_X5_riderMark : zMet la yX5_riderMark wsX5_riderMark rm_X5_riderMark 0 0 sp_X5_riderMark) (sp : zSp) (vc : zVC_X5_driverMark sp) : zMet la yX5_driverMark wsX5_driverMark (rm_X5_driverMark) 0 0 sp :=
  z_of (cc := cX5_driverMark) (maxL := 2) (ret := (some .int)) (by decide +kernel) rfl (fun p e s m args below meth c D cy b n as E P hsp X hr hin => by
    obtain ⟨h1, h2⟩ := vc b cy n as E P (zAt p la e (rm_X5_driverMark) s m args below meth c (MQ below (zQ D b (n + 0) P) args s 0 0 (fun q => b ≤ q)) 2 D b n) hsp
    exact ⟨h1, S_X5_driverMark_0 la X hr h_X5_riderMark _ _ _ _ _ h2⟩)

theorem m_X5_driverMark (la : Launch) : zMet la yX5_driverMark wsX5_driverMark rm_X5_driverMark 0 0 sp_X5_driverMark := w_X5_driverMark la (m_X5_riderMark la) _ vc_X5_driverMark

