/-! the other one's reader -/
def zMt (cy : zY) (E : zE) (len : Nat) (tx : Nat → Nat) : Prop := len ≤ 120 ∧ (∀ j, j < len → tx j < 256) ∧ ∃ f : Nat → Int32, E 160 = .inl (cy 0, 120, .inl f) ∧ ∀ j, j < len → f j &&& 255 = nI (tx j)
theorem zMt.congr {cy : zY} {E E' : zE} {len : Nat} {tx : Nat → Nat} (h : zMt cy E len tx) (hE : E' 160 = E 160) : zMt cy E' len tx := by
  obtain ⟨h1, h2, f, h3, h4⟩ := h
  exact ⟨h1, h2, f, by rw [hE]; exact h3, h4⟩
def zhe (len : Nat) (tx : Nat → Nat) (q : Nat) : Int32 := if q < len then nI (tx q) else -1
theorem zin_ok {lo hi c : Nat} (h1 : lo < 256) (h2 : hi < 256) (h3 : c < 256) : (if ¬ nI c < nI lo ∧ ¬ nI hi < nI c then (1 : Int32) else 0) = if zokr lo hi c = true then 1 else 0 := by
  have e1 : nI c < nI lo ↔ c < lo := nI_ltI (by omega) (by omega)
  have e2 : nI hi < nI c ↔ hi < c := nI_ltI (by omega) (by omega)
  have e3 : zokr lo hi c = true ↔ lo ≤ c ∧ c ≤ hi := by simp only [zokr, Bool.and_eq_true, decide_eq_true_eq]
  by_cases c1 : lo ≤ c ∧ c ≤ hi
  · rw [if_pos ⟨fun h => by have := e1.mp h; omega, fun h => by have := e2.mp h; omega⟩, if_pos (e3.mpr c1)]
  · rw [if_neg (fun h => c1 ⟨Nat.le_of_not_lt (fun h9 => h.1 (e1.mpr h9)), Nat.le_of_not_lt (fun h9 => h.2 (e2.mpr h9))⟩), if_neg (fun h => c1 (e3.mp h))]
theorem zin_he {len q lo hi : Nat} {tx : Nat → Nat} (ht : ∀ j, j < len → tx j < 256) (h1 : lo < 256) (h2 : hi < 256) : (if ¬ zhe len tx q < nI lo ∧ ¬ nI hi < zhe len tx q then (1 : Int32) else 0) = if q < len ∧ zokr lo hi (tx q) = true then 1 else 0 := by
  by_cases e : q < len
  · have hh : zhe len tx q = nI (tx q) := by unfold zhe; rw [if_pos e]
    rw [hh, zin_ok h1 h2 (ht q e)]
    by_cases c : zokr lo hi (tx q) = true
    · rw [if_pos c, if_pos ⟨e, c⟩]
    · rw [if_neg c, if_neg (fun h => c h.2)]
  · have hh : zhe len tx q = -1 := by unfold zhe; rw [if_neg e]
    have hm : (-1 : Int32) < nI lo := by
      rw [fa_lt', nI_toInt (by omega), show (-1 : Int32).toInt = -1 by decide]; omega
    rw [hh, if_neg (fun h => h.1 hm), if_neg (fun h => e h.1)]
def sp_X6_here : zSp := fun b cy as N E P => ∃ (tr : Int64) (len q : Nat) (tx : Nat → Nat) (lt st so va fa se : Int32), as = [.ref (b + 159)] ∧ E 159 = zM0 b tr (nI len) lt (nI q) st so va fa se ∧ zMt cy E len tx ∧ q ≤ len ∧ 161 ≤ N ∧ P (some (.int (zhe len tx q))) E
abbrev rm_X6_here : Room := { frames := 1, cells := 0, slots := 0, locals := 40 }
def B_X6_here_28 (b n0 : Nat) (cy : zY) (P : zPo) (A : Nat → zC) : zC :=
  z_iret 0 0 P
def B_X6_here_0 (b n0 : Nat) (cy : zY) (P : zPo) (A : Nat → zC) : zC :=
  z_aload 0 (z_get b n0 6 9 (z_aload 0 (z_get b n0 6 2 (z_icmp (fun x y => y ≤ x) (z_const (-1) (B_X6_here_28 b n0 cy P A)) (z_aload 0 (z_get b n0 6 1 (z_aload 0 (z_get b n0 6 9 (z_ald b n0 (cy 0) (z_const (255) (z_bin (fun x y => x &&& y) (B_X6_here_28 b n0 cy P A))))))))))))
def zVC_X6_here (sp : zSp) : Prop := ∀ (b : Nat) (cy : zY) (n : Nat) (as : List Value) (E : zE) (P : zPo) (A : Nat → zC), sp b cy as n E P → zgood as 1 ∧ B_X6_here_0 b n cy P A (lv_args 0 as) [] 0 0 E

set_option maxRecDepth 100000 in
set_option maxHeartbeats 4000000 in
theorem vc_X6_here : zVC_X6_here sp_X6_here := by
  intro b cy N as E P A hsp
  obtain ⟨tr, len, q, tx, lt, st, so, va, fa, se, rfl, e0, ⟨hl, ht, f, e1, e2⟩, hq, hN, hP⟩ := hsp
  refine ⟨⟨Nat.le_of_ble_eq_true rfl, zg1 rfl (zg0)⟩, ?_⟩
  have N0 : 159 < N := by omega
  have N1 : 160 < N := by omega
  have kq : (nI len ≤ nI q) = (len ≤ q) := propext (nI_leI (by omega) (by omega))
  unfold zhe at hP
  by_cases c : q < len
  · have hin : vp_in (nI q) 120 := vp_in_nI (by omega) (by omega)
    have hcl : (nI q).toNatClampNeg = q := nI_clamp (by omega)
    rw [if_pos c] at hP
    simp -implicitDefEqProofs only [B_X6_here_0, B_X6_here_28, e_cut, e_iload, e_aload, e_istore, e_astore, e_iinc, e_const, e_lconst, e_bin, e_bin0, e_un, e_ladd, e_dupi, e_dupr, e_dup2, e_pop, e_sw, e_sw0, e_sw1, e_get, e_put, e_ald, e_ast, e_aald, e_aast, e_copy, e_new, e_newa, e_anewa, e_min, e_abs, e_oinit, e_callI, e_callV, e_callS, e_iret, e_zret, e_lret, e_vret, e_tl1, e_tl0, e_tl2, e_tl3, z10, Bool.false_eq_true, e_argi, e_argr, e_argn, zld_c, zst_n, zst_c, zpick_n, zpick_c, List.drop_succ_cons, List.drop_zero, List.take_succ_cons, List.take_zero, List.length_cons, List.length_nil, List.reverse_cons, List.reverse_nil, List.nil_append, List.cons_append, List.append_nil, List.getElem?_cons_zero, List.getElem?_cons_succ, List.set_cons_zero, List.set_cons_succ, Nat.add_sub_cancel_left, Nat.sub_self, Nat.add_zero, Nat.zero_add, Nat.le_add_right, Nat.le_refl, true_and, and_true, va_rf, zok, Nat.add_left_cancel_iff, Nat.add_eq_left, Nat.left_eq_add, eq_self, if_true, if_false, not_false_eq_true, not_true_eq_false, false_implies, true_implies, Nat.reduceEqDiff, Nat.reduceAdd, Nat.reduceLT, Nat.reduceLeDiff, reduceIte, zM0, e0, e1, N0, N1, e_icmpf (c2 := fun x y => y ≤ x) (fun h => absurd (kq.mp h) (by omega)), hin, hcl, e2 q c]
    exact hP
  · rw [if_neg c] at hP
    simp -implicitDefEqProofs only [B_X6_here_0, B_X6_here_28, e_cut, e_iload, e_aload, e_istore, e_astore, e_iinc, e_const, e_lconst, e_bin, e_bin0, e_un, e_ladd, e_dupi, e_dupr, e_dup2, e_pop, e_sw, e_sw0, e_sw1, e_get, e_put, e_ald, e_ast, e_aald, e_aast, e_copy, e_new, e_newa, e_anewa, e_min, e_abs, e_oinit, e_callI, e_callV, e_callS, e_iret, e_zret, e_lret, e_vret, e_tl1, e_tl0, e_tl2, e_tl3, z10, Bool.false_eq_true, e_argi, e_argr, e_argn, zld_c, zst_n, zst_c, zpick_n, zpick_c, List.drop_succ_cons, List.drop_zero, List.take_succ_cons, List.take_zero, List.length_cons, List.length_nil, List.reverse_cons, List.reverse_nil, List.nil_append, List.cons_append, List.append_nil, List.getElem?_cons_zero, List.getElem?_cons_succ, List.set_cons_zero, List.set_cons_succ, Nat.add_sub_cancel_left, Nat.sub_self, Nat.add_zero, Nat.zero_add, Nat.le_add_right, Nat.le_refl, true_and, and_true, va_rf, zok, Nat.add_left_cancel_iff, Nat.add_eq_left, Nat.left_eq_add, eq_self, if_true, if_false, not_false_eq_true, not_true_eq_false, false_implies, true_implies, Nat.reduceEqDiff, Nat.reduceAdd, Nat.reduceLT, Nat.reduceLeDiff, reduceIte, zM0, e0, N0, e_icmpt (c2 := fun x y => y ≤ x) (kq.mpr (by omega))]
    exact hP
set_option maxRecDepth 20000 in
theorem f_X6_here_62 : Cond.fieldLink RX6 62 (TX6 9).1 (TX6 9).2.1 (TX6 9).2.2.1 ∈ wsX6_here := by decide +kernel
set_option maxRecDepth 20000 in
theorem k_X6_here_6 : ∀ w ∈ u_ws RX6 TX6 21, w ∈ wsX6_here := fun _ h => List.mem_cons_of_mem _ (List.mem_append_right _ h)
set_option maxRecDepth 20000 in
theorem f_X6_here_58 : Cond.fieldLink RX6 58 (TX6 2).1 (TX6 2).2.1 (TX6 2).2.2.1 ∈ wsX6_here := by decide +kernel
set_option maxRecDepth 20000 in
theorem f_X6_here_7 : Cond.fieldLink RX6 7 (TX6 1).1 (TX6 1).2.1 (TX6 1).2.2.1 ∈ wsX6_here := by decide +kernel
set_option maxRecDepth 100000 in
set_option maxHeartbeats 4000000 in
theorem S_X6_here_28 {p : Program} {e : Env} {s : State} {m : MethodId} {args : Array Value} {below : List Frame} {meth : Method} {c : Code} {D : va_G} {cy : zY} {b n0 : Nat} {P : zPo} (la : Launch) (X : zX p la e (rm_X6_here) s m args below meth c 1 D cy b n0 cX6_here wsX6_here RX6) (hr : meth.sig.returnType = (some .int)) : zS p la e (rm_X6_here) s m args below meth c (MQ below (zQ D b (n0 + 0) P) args s 0 0 (fun q => b ≤ q)) 1 D b n0 28 (B_X6_here_28 b n0 cy P (zAt p la e (rm_X6_here) s m args below meth c (MQ below (zQ D b (n0 + 0) P) args s 0 0 (fun q => b ≤ q)) 1 D b n0)) := by
  unfold B_X6_here_28
  exact (s_iret X dX6_here_28 hr)
set_option maxRecDepth 100000 in
set_option maxHeartbeats 4000000 in
theorem S_X6_here_0 {p : Program} {e : Env} {s : State} {m : MethodId} {args : Array Value} {below : List Frame} {meth : Method} {c : Code} {D : va_G} {cy : zY} {b n0 : Nat} {P : zPo} (la : Launch) (X : zX p la e (rm_X6_here) s m args below meth c 1 D cy b n0 cX6_here wsX6_here RX6) (hr : meth.sig.returnType = (some .int)) : zS p la e (rm_X6_here) s m args below meth c (MQ below (zQ D b (n0 + 0) P) args s 0 0 (fun q => b ≤ q)) 1 D b n0 0 (B_X6_here_0 b n0 cy P (zAt p la e (rm_X6_here) s m args below meth c (MQ below (zQ D b (n0 + 0) P) args s 0 0 (fun q => b ≤ q)) 1 D b n0)) := by
  unfold B_X6_here_0
  exact (s_aload_n X dX6_here_0 rfl (s_get X dX6_here_1 rfl k_X6_here_6 (by decide) f_X6_here_62 (s_aload_n X dX6_here_4 rfl (s_get X dX6_here_5 rfl k_X6_here_6 (by decide) f_X6_here_58 (s_icmp_ge X dX6_here_8 (by decide) (s_iconst X dX6_here_27 (by decide) (S_X6_here_28 la X hr)) (s_aload_n X dX6_here_11 rfl (s_get X dX6_here_12 rfl k_X6_here_6 (by decide) f_X6_here_7 (s_aload_n X dX6_here_15 rfl (s_get X dX6_here_16 rfl k_X6_here_6 (by decide) f_X6_here_62 (s_bald X dX6_here_19 (s_sipush X dX6_here_20 (by decide) (s_iand X dX6_here_23 (s_goto X dX6_here_24 (by decide) (S_X6_here_28 la X hr))))))))))))))
theorem w_X6_here (la : Launch) (sp : zSp) (vc : zVC_X6_here sp) : zMet la yX6_here wsX6_here (rm_X6_here) 0 0 sp :=
  z_of (cc := cX6_here) (maxL := 1) (ret := (some .int)) (by decide +kernel) rfl (fun p e s m args below meth c D cy b n as E P hsp X hr hin => by
    obtain ⟨h1, h2⟩ := vc b cy n as E P (zAt p la e (rm_X6_here) s m args below meth c (MQ below (zQ D b (n + 0) P) args s 0 0 (fun q => b ≤ q)) 1 D b n) hsp
    exact ⟨h1, S_X6_here_0 la X hr _ _ _ _ _ h2⟩)

theorem m_X6_here (la : Launch) : zMet la yX6_here wsX6_here rm_X6_here 0 0 sp_X6_here := w_X6_here la _ vc_X6_here
/-- a token's sort, in the other one's figures -/
def zms (k : zTk) : Int32 := if k.2.1 = 0 then 3 else if k.2.1 = 1 then (if k.2.2.2 = 0 then 4 else nI k.2.2.2) else if k.2.1 = 2 then 1 else if k.2.1 = 3 then 2 else 4
/-- what it holds as a number -/
def zwv (w v : Nat) : Prop := (w ≤ 99 ∧ v = w) ∨ (99 < w ∧ w < 1000 ∧ v = 100)
def zPq (b : Nat) (E : zE) (len : Nat) (tr : Int64) (lt se : Int32) (k : zTk) (fa : Int32) : Prop := ∃ va : Int32, E 159 = zM0 b tr (nI len) lt (nI k.1) (nI k.2.2.1) (zms k) va fa se ∧ (k.2.1 = 2 → va = nI k.2.2.2)
def sp_X6_step : zSp := fun b cy as N E P => ∃ (tr : Int64) (len q : Nat) (tx : Nat → Nat) (lt st so va fa se : Int32), as = [.ref (b + 159)] ∧ E 159 = zM0 b tr (nI len) lt (nI q) st so va fa se ∧ zMt cy E len tx ∧ q ≤ len ∧ 161 ≤ N ∧ (∀ E', zPq b E' len tr lt se (ztk len tx q) fa → (∀ j, j ≠ 159 → E' j = E j) → P none E')
abbrev rm_X6_step : Room := { frames := 2, cells := 0, slots := 0, locals := 62 }
def B_X6_step_253 (b n0 : Nat) (cy : zY) (P : zPo) (A : Nat → zC) : zC :=
  z_vret 0 0 P
def B_X6_step_250 (b n0 : Nat) (cy : zY) (P : zPo) (A : Nat → zC) : zC :=
  z_put b n0 6 11 0 (B_X6_step_253 b n0 cy P A)
def B_X6_step_222 (b n0 : Nat) (cy : zY) (P : zPo) (A : Nat → zC) : zC :=
  z_put b n0 6 11 0 (B_X6_step_253 b n0 cy P A)
def B_X6_step_221 (b n0 : Nat) (cy : zY) (P : zPo) (A : Nat → zC) : zC :=
  z_const (1) (B_X6_step_222 b n0 cy P A)
def B_X6_step_217 (b n0 : Nat) (cy : zY) (P : zPo) (A : Nat → zC) : zC :=
  z_const (4) (B_X6_step_222 b n0 cy P A)
def B_X6_step_172 (b n0 : Nat) (cy : zY) (P : zPo) (A : Nat → zC) : zC :=
  z_put b n0 6 12 0 (z_aload 0 (z_dup (z_get b n0 6 9 (z_const (1) (z_bin (fun x y => x + y) (z_put b n0 6 9 0 (z_cut [0, 1] (A 126))))))))
def B_X6_step_126 (b n0 : Nat) (cy : zY) (P : zPo) (A : Nat → zC) : zC :=
  z_aload 0 (z_callV b n0 0 0 cy 6 0 0 0 sp_X6_here (z_const (48) (z_const (57) (z_callS b n0 0 0 cy 3 0 0 sp_X6_in (z_if (fun x => x = 0) (z_aload 0 (z_aload 0 (z_get b n0 6 12 (z_const (99) (z_icmp (fun x y => y < x) (B_X6_step_217 b n0 cy P A) (z_iload 1 (z_const (48) (z_icmp (fun x y => x = y) (z_aload 0 (z_get b n0 6 9 (z_aload 0 (z_get b n0 6 10 (z_bin (fun x y => x - y) (z_const (1) (z_icmp (fun x y => x ≤ y) (B_X6_step_221 b n0 cy P A) (B_X6_step_217 b n0 cy P A)))))))) (B_X6_step_221 b n0 cy P A))))))))) (z_aload 0 (z_aload 0 (z_get b n0 6 12 (z_const (99) (z_icmp (fun x y => x ≤ y) (z_const (10) (z_aload 0 (z_get b n0 6 12 (z_bin (fun x y => x * y) (z_aload 0 (z_callV b n0 0 0 cy 6 0 0 0 sp_X6_here (z_bin (fun x y => x + y) (z_const (48) (z_bin (fun x y => x - y) (B_X6_step_172 b n0 cy P A)))))))))) (z_aload 0 (z_get b n0 6 12 (B_X6_step_172 b n0 cy P A)))))))))))))
def B_X6_step_109 (b n0 : Nat) (cy : zY) (P : zPo) (A : Nat → zC) : zC :=
  z_put b n0 6 11 0 (B_X6_step_253 b n0 cy P A)
def B_X6_step_63 (b n0 : Nat) (cy : zY) (P : zPo) (A : Nat → zC) : zC :=
  z_aload 0 (z_callV b n0 0 0 cy 6 0 0 0 sp_X6_here (z_const (97) (z_const (122) (z_callS b n0 0 0 cy 3 0 0 sp_X6_in (z_if (fun x => x = 0) (z_aload 0 (z_aload 0 (z_get b n0 6 9 (z_aload 0 (z_get b n0 6 10 (z_bin (fun x y => x - y) (z_const (1) (z_icmp (fun x y => x = y) (z_iload 1 (B_X6_step_109 b n0 cy P A)) (z_const (4) (B_X6_step_109 b n0 cy P A)))))))))) (z_aload 0 (z_dup (z_get b n0 6 9 (z_const (1) (z_bin (fun x y => x + y) (z_put b n0 6 9 0 (z_cut [0, 1] (A 63)))))))))))))
def B_X6_step_0 (b n0 : Nat) (cy : zY) (P : zPo) (A : Nat → zC) : zC :=
  z_aload 0 (z_callV b n0 0 0 cy 6 0 0 0 sp_X6_here (z_const (32) (z_icmp (fun x y => x = y) (z_aload 0 (z_dup (z_get b n0 6 9 (z_const (1) (z_bin (fun x y => x + y) (z_put b n0 6 9 0 (z_cut [0] (A 0)))))))) (z_aload 0 (z_aload 0 (z_get b n0 6 9 (z_put b n0 6 10 0 (z_aload 0 (z_const (0) (z_put b n0 6 12 0 (z_aload 0 (z_callV b n0 0 0 cy 6 0 0 0 sp_X6_here (z_istore 1 (z_iload 1 (z_if (fun x => 0 ≤ x) (z_iload 1 (z_const (97) (z_const (122) (z_callS b n0 0 0 cy 3 0 0 sp_X6_in (z_if (fun x => x = 0) (z_iload 1 (z_const (48) (z_const (57) (z_callS b n0 0 0 cy 3 0 0 sp_X6_in (z_if (fun x => x = 0) (z_aload 0 (z_dup (z_get b n0 6 9 (z_const (1) (z_bin (fun x y => x + y) (z_put b n0 6 9 0 (z_aload 0 (z_iload 1 (z_const (59) (z_icmp (fun x y => x = y) (z_const (2) (B_X6_step_250 b n0 cy P A)) (z_const (4) (B_X6_step_250 b n0 cy P A)))))))))))) (z_cut [0, 1] (A 126))))))) (z_cut [0, 1] (A 63))))))) (z_aload 0 (z_const (3) (z_put b n0 6 11 0 (B_X6_step_253 b n0 cy P A)))))))))))))))))))
def zVC_X6_step (sp : zSp) : Prop := ∀ (b : Nat) (cy : zY) (n : Nat) (as : List Value) (E : zE) (P : zPo) (A : Nat → zC), (∀ l st k u E, B_X6_step_0 b n cy P A l st k u E → A 0 l st k u E) → (∀ l st k u E, B_X6_step_63 b n cy P A l st k u E → A 63 l st k u E) → (∀ l st k u E, B_X6_step_126 b n cy P A l st k u E → A 126 l st k u E) → sp b cy as n E P → zgood as 2 ∧ B_X6_step_0 b n cy P A (lv_args 0 as) [] 0 0 E

set_option maxRecDepth 100000 in
set_option maxHeartbeats 4000000 in
theorem vc_X6_step : zVC_X6_step sp_X6_step := by
  intro b cy N as E P A hA0 hA63 hA126 hsp
  obtain ⟨tr, len, q0, tx, lt, st0, so, va0, fa, se, rfl, e00, hMt, hq0, hN, hP⟩ := hsp
  refine ⟨⟨Nat.le_of_ble_eq_true rfl, zg1 rfl (zg0)⟩, ?_⟩
  have N0 : 159 < N := by omega
  have hl := hMt.1
  have ht := hMt.2.1
  obtain ⟨a1, a2, a3, a4⟩ := zs_all (ok := zokr 32 32) (tx := tx) (len := len) (len - q0) q0 rfl hq0
  have hztk : ∀ e so' st va, ztk len tx q0 = (e, so', st, va) → ∀ (w : Nat) E', (so' = 2 → w = va) → E' 159 = zM0 b tr (nI len) lt (nI e) (nI st) (zms (e, so', st, va)) (nI w) fa se → (∀ j, j ≠ 159 → E' j = E j) → P none E' := fun e so' st va h w E' hw hE' hk => by
    refine hP E' ?_ hk
    rw [h]
    exact ⟨_, hE', fun h2 => by rw [hw h2]⟩
  unfold ztk at hztk
  obtain ⟨s, hs⟩ : ∃ s, s = zs (zokr 32 32) tx len q0 := ⟨_, rfl⟩
  rw [← hs] at hztk a1 a2 a3 a4
  simp only at hztk
  have k97 : (97 : Int32) = nI 97 := rfl
  have k122 : (122 : Int32) = nI 122 := rfl
  have k48 : (48 : Int32) = nI 48 := rfl
  have k57 : (57 : Int32) = nI 57 := rfl
  -- a word
  have loopW : s < len → zokr 97 122 (tx s) = true → ∀ (d q : Nat) (E1 : zE), len - q = d → s < q ∨ q = s → q ≤ len → zs (zokr 97 122) tx len q = zs (zokr 97 122) tx len s → E1 159 = zM0 b tr (nI len) lt (nI q) (nI s) so 0 fa se → (∀ j, j ≠ 159 → E1 j = E j) → A 63 [(0, .ref (b + 159)), (1, .int (nI (tx s)))] [] 0 0 E1 := by
    intro hsl hok d
    have hts := ht s hsl
    have hz97 : 97 ≤ tx s ∧ tx s ≤ 122 := by simpa [zokr] using hok
    have hzm : ∀ q', zms (q', 1, s, tx s) = nI (tx s) := fun q' => by
      have h0 : ¬ tx s = 0 := by omega
      simp [zms, h0]
    induction d with
    | zero =>
      intro q E1 hd hsq hq hz f0 hk
      have hql : q = len := by omega
      apply hA63
      have hzq : zs (zokr 97 122) tx len q = q := zs_no (by omega)
      rw [hzq] at hz
      have hgo := hztk q 1 s (if q - s = 1 then tx s else 0) (by rw [if_pos hsl, if_pos hok, ← hz])
      simp -implicitDefEqProofs only [B_X6_step_63, e_cut, e_iload, e_aload, e_istore, e_astore, e_iinc, e_const, e_lconst, e_bin, e_bin0, e_un, e_ladd, e_dupi, e_dupr, e_dup2, e_pop, e_sw, e_sw0, e_sw1, e_get, e_put, e_ald, e_ast, e_aald, e_aast, e_copy, e_new, e_newa, e_anewa, e_min, e_abs, e_oinit, e_callI, e_callV, e_callS, e_iret, e_zret, e_lret, e_vret, e_tl1, e_tl0, e_tl2, e_tl3, z10, Bool.false_eq_true, e_argi, e_argr, e_argn, zld_c, zst_n, zst_c, zpick_n, zpick_c, List.drop_succ_cons, List.drop_zero, List.take_succ_cons, List.take_zero, List.length_cons, List.length_nil, List.reverse_cons, List.reverse_nil, List.nil_append, List.cons_append, List.append_nil, List.getElem?_cons_zero, List.getElem?_cons_succ, List.set_cons_zero, List.set_cons_succ, Nat.add_sub_cancel_left, Nat.sub_self, Nat.add_zero, Nat.zero_add, Nat.le_add_right, Nat.le_refl, true_and, and_true, va_rf, zok, Nat.add_left_cancel_iff, Nat.add_eq_left, Nat.left_eq_add, eq_self, if_true, if_false, not_false_eq_true, not_true_eq_false, false_implies, true_implies, Nat.reduceEqDiff, Nat.reduceAdd, Nat.reduceLT, Nat.reduceLeDiff, reduceIte, zM0, f0, N0]
      refine ⟨tr, len, q, tx, lt, _, _, _, fa, se, rfl, f0, hMt.congr (hk _ (by omega)), hq, by omega, ?_⟩
      simp -implicitDefEqProofs only [e_cut, e_iload, e_aload, e_istore, e_astore, e_iinc, e_const, e_lconst, e_bin, e_bin0, e_un, e_ladd, e_dupi, e_dupr, e_dup2, e_pop, e_sw, e_sw0, e_sw1, e_get, e_put, e_ald, e_ast, e_aald, e_aast, e_copy, e_new, e_newa, e_anewa, e_min, e_abs, e_oinit, e_callI, e_callV, e_callS, e_iret, e_zret, e_lret, e_vret, e_tl1, e_tl0, e_tl2, e_tl3, z10, Bool.false_eq_true, e_argi, e_argr, e_argn, zld_c, zst_n, zst_c, zpick_n, zpick_c, List.drop_succ_cons, List.drop_zero, List.take_succ_cons, List.take_zero, List.length_cons, List.length_nil, List.reverse_cons, List.reverse_nil, List.nil_append, List.cons_append, List.append_nil, List.getElem?_cons_zero, List.getElem?_cons_succ, List.set_cons_zero, List.set_cons_succ, Nat.add_sub_cancel_left, Nat.sub_self, Nat.add_zero, Nat.zero_add, Nat.le_add_right, Nat.le_refl, true_and, and_true, va_rf, zok, Nat.add_left_cancel_iff, Nat.add_eq_left, Nat.left_eq_add, eq_self, if_true, if_false, not_false_eq_true, not_true_eq_false, false_implies, true_implies, Nat.reduceEqDiff, Nat.reduceAdd, Nat.reduceLT, Nat.reduceLeDiff, reduceIte]
      refine ⟨_, _, _, rfl, ?_⟩
      have hi := zin_he (len := len) (q := q) (lo := 97) (hi := 122) ht (by omega) (by omega)
      rw [if_neg (show ¬ (q < len ∧ zokr 97 122 (tx q) = true) from fun h => by omega)] at hi
      rw [show (if ¬ zhe len tx q < 97 ∧ ¬ 122 < zhe len tx q then (1 : Int32) else 0) = 0 from hi]
      have ks : nI q - nI s = nI (q - s) := pk_sub (by omega)
      have k1 : (nI (q - s) = 1) = (q - s = 1) := nI_lit (n := 1) (x := 1) rfl (by omega) (by omega)
      by_cases c1 : q - s = 1
      · rw [if_pos c1] at hgo
        have := hgo 0 (va_up E1 159 (zM0 b tr (nI len) lt (nI q) (nI s) (nI (tx s)) 0 fa se)) (fun h => by omega) (by rw [u_eq, hzm]; rfl) (fun j hj => (u_ne hj).trans (hk j hj))
        simp -implicitDefEqProofs only [e_cut, e_iload, e_aload, e_istore, e_astore, e_iinc, e_const, e_lconst, e_bin, e_bin0, e_un, e_ladd, e_dupi, e_dupr, e_dup2, e_pop, e_sw, e_sw0, e_sw1, e_get, e_put, e_ald, e_ast, e_aald, e_aast, e_copy, e_new, e_newa, e_anewa, e_min, e_abs, e_oinit, e_callI, e_callV, e_callS, e_iret, e_zret, e_lret, e_vret, e_tl1, e_tl0, e_tl2, e_tl3, z10, Bool.false_eq_true, e_argi, e_argr, e_argn, zld_c, zst_n, zst_c, zpick_n, zpick_c, List.drop_succ_cons, List.drop_zero, List.take_succ_cons, List.take_zero, List.length_cons, List.length_nil, List.reverse_cons, List.reverse_nil, List.nil_append, List.cons_append, List.append_nil, List.getElem?_cons_zero, List.getElem?_cons_succ, List.set_cons_zero, List.set_cons_succ, Nat.add_sub_cancel_left, Nat.sub_self, Nat.add_zero, Nat.zero_add, Nat.le_add_right, Nat.le_refl, true_and, and_true, va_rf, zok, Nat.add_left_cancel_iff, Nat.add_eq_left, Nat.left_eq_add, eq_self, if_true, if_false, not_false_eq_true, not_true_eq_false, false_implies, true_implies, Nat.reduceEqDiff, Nat.reduceAdd, Nat.reduceLT, Nat.reduceLeDiff, reduceIte, e_ift (c1 := fun x => x = 0) (x := 0) rfl, zM0, f0, N0, ks, e_icmpt (c2 := fun x y => x = y) (k1.mpr c1), B_X6_step_109, B_X6_step_253]
        exact this
      · rw [if_neg c1] at hgo
        have := hgo 0 (va_up E1 159 (zM0 b tr (nI len) lt (nI q) (nI s) 4 0 fa se)) (fun h => by omega) (by rw [u_eq]; rfl) (fun j hj => (u_ne hj).trans (hk j hj))
        simp -implicitDefEqProofs only [e_cut, e_iload, e_aload, e_istore, e_astore, e_iinc, e_const, e_lconst, e_bin, e_bin0, e_un, e_ladd, e_dupi, e_dupr, e_dup2, e_pop, e_sw, e_sw0, e_sw1, e_get, e_put, e_ald, e_ast, e_aald, e_aast, e_copy, e_new, e_newa, e_anewa, e_min, e_abs, e_oinit, e_callI, e_callV, e_callS, e_iret, e_zret, e_lret, e_vret, e_tl1, e_tl0, e_tl2, e_tl3, z10, Bool.false_eq_true, e_argi, e_argr, e_argn, zld_c, zst_n, zst_c, zpick_n, zpick_c, List.drop_succ_cons, List.drop_zero, List.take_succ_cons, List.take_zero, List.length_cons, List.length_nil, List.reverse_cons, List.reverse_nil, List.nil_append, List.cons_append, List.append_nil, List.getElem?_cons_zero, List.getElem?_cons_succ, List.set_cons_zero, List.set_cons_succ, Nat.add_sub_cancel_left, Nat.sub_self, Nat.add_zero, Nat.zero_add, Nat.le_add_right, Nat.le_refl, true_and, and_true, va_rf, zok, Nat.add_left_cancel_iff, Nat.add_eq_left, Nat.left_eq_add, eq_self, if_true, if_false, not_false_eq_true, not_true_eq_false, false_implies, true_implies, Nat.reduceEqDiff, Nat.reduceAdd, Nat.reduceLT, Nat.reduceLeDiff, reduceIte, e_ift (c1 := fun x => x = 0) (x := 0) rfl, zM0, f0, N0, ks, e_icmpf (c2 := fun x y => x = y) (fun h => c1 (k1.mp h)), B_X6_step_109, B_X6_step_253]
        exact this
    | succ d ih =>
      intro q E1 hd hsq hq hz f0 hk
      have hql : q < len := by omega
      apply hA63
      simp -implicitDefEqProofs only [B_X6_step_63, e_cut, e_iload, e_aload, e_istore, e_astore, e_iinc, e_const, e_lconst, e_bin, e_bin0, e_un, e_ladd, e_dupi, e_dupr, e_dup2, e_pop, e_sw, e_sw0, e_sw1, e_get, e_put, e_ald, e_ast, e_aald, e_aast, e_copy, e_new, e_newa, e_anewa, e_min, e_abs, e_oinit, e_callI, e_callV, e_callS, e_iret, e_zret, e_lret, e_vret, e_tl1, e_tl0, e_tl2, e_tl3, z10, Bool.false_eq_true, e_argi, e_argr, e_argn, zld_c, zst_n, zst_c, zpick_n, zpick_c, List.drop_succ_cons, List.drop_zero, List.take_succ_cons, List.take_zero, List.length_cons, List.length_nil, List.reverse_cons, List.reverse_nil, List.nil_append, List.cons_append, List.append_nil, List.getElem?_cons_zero, List.getElem?_cons_succ, List.set_cons_zero, List.set_cons_succ, Nat.add_sub_cancel_left, Nat.sub_self, Nat.add_zero, Nat.zero_add, Nat.le_add_right, Nat.le_refl, true_and, and_true, va_rf, zok, Nat.add_left_cancel_iff, Nat.add_eq_left, Nat.left_eq_add, eq_self, if_true, if_false, not_false_eq_true, not_true_eq_false, false_implies, true_implies, Nat.reduceEqDiff, Nat.reduceAdd, Nat.reduceLT, Nat.reduceLeDiff, reduceIte, zM0, f0, N0]
      refine ⟨tr, len, q, tx, lt, _, _, _, fa, se, rfl, f0, hMt.congr (hk _ (by omega)), hq, by omega, ?_⟩
      simp -implicitDefEqProofs only [e_cut, e_iload, e_aload, e_istore, e_astore, e_iinc, e_const, e_lconst, e_bin, e_bin0, e_un, e_ladd, e_dupi, e_dupr, e_dup2, e_pop, e_sw, e_sw0, e_sw1, e_get, e_put, e_ald, e_ast, e_aald, e_aast, e_copy, e_new, e_newa, e_anewa, e_min, e_abs, e_oinit, e_callI, e_callV, e_callS, e_iret, e_zret, e_lret, e_vret, e_tl1, e_tl0, e_tl2, e_tl3, z10, Bool.false_eq_true, e_argi, e_argr, e_argn, zld_c, zst_n, zst_c, zpick_n, zpick_c, List.drop_succ_cons, List.drop_zero, List.take_succ_cons, List.take_zero, List.length_cons, List.length_nil, List.reverse_cons, List.reverse_nil, List.nil_append, List.cons_append, List.append_nil, List.getElem?_cons_zero, List.getElem?_cons_succ, List.set_cons_zero, List.set_cons_succ, Nat.add_sub_cancel_left, Nat.sub_self, Nat.add_zero, Nat.zero_add, Nat.le_add_right, Nat.le_refl, true_and, and_true, va_rf, zok, Nat.add_left_cancel_iff, Nat.add_eq_left, Nat.left_eq_add, eq_self, if_true, if_false, not_false_eq_true, not_true_eq_false, false_implies, true_implies, Nat.reduceEqDiff, Nat.reduceAdd, Nat.reduceLT, Nat.reduceLeDiff, reduceIte]
      refine ⟨_, _, _, rfl, ?_⟩
      have hi := zin_he (len := len) (q := q) (lo := 97) (hi := 122) ht (by omega) (by omega)
      by_cases c0 : zokr 97 122 (tx q) = true
      · rw [if_pos (show q < len ∧ zokr 97 122 (tx q) = true from ⟨hql, c0⟩)] at hi
        rw [show (if ¬ zhe len tx q < 97 ∧ ¬ 122 < zhe len tx q then (1 : Int32) else 0) = 1 from hi]
        simp -implicitDefEqProofs only [e_cut, e_iload, e_aload, e_istore, e_astore, e_iinc, e_const, e_lconst, e_bin, e_bin0, e_un, e_ladd, e_dupi, e_dupr, e_dup2, e_pop, e_sw, e_sw0, e_sw1, e_get, e_put, e_ald, e_ast, e_aald, e_aast, e_copy, e_new, e_newa, e_anewa, e_min, e_abs, e_oinit, e_callI, e_callV, e_callS, e_iret, e_zret, e_lret, e_vret, e_tl1, e_tl0, e_tl2, e_tl3, z10, Bool.false_eq_true, e_argi, e_argr, e_argn, zld_c, zst_n, zst_c, zpick_n, zpick_c, List.drop_succ_cons, List.drop_zero, List.take_succ_cons, List.take_zero, List.length_cons, List.length_nil, List.reverse_cons, List.reverse_nil, List.nil_append, List.cons_append, List.append_nil, List.getElem?_cons_zero, List.getElem?_cons_succ, List.set_cons_zero, List.set_cons_succ, Nat.add_sub_cancel_left, Nat.sub_self, Nat.add_zero, Nat.zero_add, Nat.le_add_right, Nat.le_refl, true_and, and_true, va_rf, zok, Nat.add_left_cancel_iff, Nat.add_eq_left, Nat.left_eq_add, eq_self, if_true, if_false, not_false_eq_true, not_true_eq_false, false_implies, true_implies, Nat.reduceEqDiff, Nat.reduceAdd, Nat.reduceLT, Nat.reduceLeDiff, reduceIte, e_iff (c1 := fun x => x = 0) (x := 1) (by decide), zM0, f0, N0, nI_1]
        exact ih (q + 1) _ (by omega) (by omega) (by omega) (by rw [← zs_go hql c0]; exact hz) u_eq (fun j hj => (u_ne hj).trans (hk j hj))
      · have hzq : zs (zokr 97 122) tx len q = q := zs_no (fun h => c0 h.2)
        have hsq' : s < q := by
          rcases hsq with h | h
          · exact h
          · rw [h] at c0; exact absurd hok c0
        rw [hzq] at hz
        have hgo := hztk q 1 s (if q - s = 1 then tx s else 0) (by rw [if_pos hsl, if_pos hok, ← hz])
        rw [if_neg (show ¬ (q < len ∧ zokr 97 122 (tx q) = true) from fun h => c0 h.2)] at hi
        rw [show (if ¬ zhe len tx q < 97 ∧ ¬ 122 < zhe len tx q then (1 : Int32) else 0) = 0 from hi]
        have ks : nI q - nI s = nI (q - s) := pk_sub (by omega)
        have k1 : (nI (q - s) = 1) = (q - s = 1) := nI_lit (n := 1) (x := 1) rfl (by omega) (by omega)
        by_cases c1 : q - s = 1
        · rw [if_pos c1] at hgo
          have := hgo 0 (va_up E1 159 (zM0 b tr (nI len) lt (nI q) (nI s) (nI (tx s)) 0 fa se)) (fun h => by omega) (by rw [u_eq, hzm]; rfl) (fun j hj => (u_ne hj).trans (hk j hj))
          simp -implicitDefEqProofs only [e_cut, e_iload, e_aload, e_istore, e_astore, e_iinc, e_const, e_lconst, e_bin, e_bin0, e_un, e_ladd, e_dupi, e_dupr, e_dup2, e_pop, e_sw, e_sw0, e_sw1, e_get, e_put, e_ald, e_ast, e_aald, e_aast, e_copy, e_new, e_newa, e_anewa, e_min, e_abs, e_oinit, e_callI, e_callV, e_callS, e_iret, e_zret, e_lret, e_vret, e_tl1, e_tl0, e_tl2, e_tl3, z10, Bool.false_eq_true, e_argi, e_argr, e_argn, zld_c, zst_n, zst_c, zpick_n, zpick_c, List.drop_succ_cons, List.drop_zero, List.take_succ_cons, List.take_zero, List.length_cons, List.length_nil, List.reverse_cons, List.reverse_nil, List.nil_append, List.cons_append, List.append_nil, List.getElem?_cons_zero, List.getElem?_cons_succ, List.set_cons_zero, List.set_cons_succ, Nat.add_sub_cancel_left, Nat.sub_self, Nat.add_zero, Nat.zero_add, Nat.le_add_right, Nat.le_refl, true_and, and_true, va_rf, zok, Nat.add_left_cancel_iff, Nat.add_eq_left, Nat.left_eq_add, eq_self, if_true, if_false, not_false_eq_true, not_true_eq_false, false_implies, true_implies, Nat.reduceEqDiff, Nat.reduceAdd, Nat.reduceLT, Nat.reduceLeDiff, reduceIte, e_ift (c1 := fun x => x = 0) (x := 0) rfl, zM0, f0, N0, ks, e_icmpt (c2 := fun x y => x = y) (k1.mpr c1), B_X6_step_109, B_X6_step_253]
          exact this
        · rw [if_neg c1] at hgo
          have := hgo 0 (va_up E1 159 (zM0 b tr (nI len) lt (nI q) (nI s) 4 0 fa se)) (fun h => by omega) (by rw [u_eq]; rfl) (fun j hj => (u_ne hj).trans (hk j hj))
          simp -implicitDefEqProofs only [e_cut, e_iload, e_aload, e_istore, e_astore, e_iinc, e_const, e_lconst, e_bin, e_bin0, e_un, e_ladd, e_dupi, e_dupr, e_dup2, e_pop, e_sw, e_sw0, e_sw1, e_get, e_put, e_ald, e_ast, e_aald, e_aast, e_copy, e_new, e_newa, e_anewa, e_min, e_abs, e_oinit, e_callI, e_callV, e_callS, e_iret, e_zret, e_lret, e_vret, e_tl1, e_tl0, e_tl2, e_tl3, z10, Bool.false_eq_true, e_argi, e_argr, e_argn, zld_c, zst_n, zst_c, zpick_n, zpick_c, List.drop_succ_cons, List.drop_zero, List.take_succ_cons, List.take_zero, List.length_cons, List.length_nil, List.reverse_cons, List.reverse_nil, List.nil_append, List.cons_append, List.append_nil, List.getElem?_cons_zero, List.getElem?_cons_succ, List.set_cons_zero, List.set_cons_succ, Nat.add_sub_cancel_left, Nat.sub_self, Nat.add_zero, Nat.zero_add, Nat.le_add_right, Nat.le_refl, true_and, and_true, va_rf, zok, Nat.add_left_cancel_iff, Nat.add_eq_left, Nat.left_eq_add, eq_self, if_true, if_false, not_false_eq_true, not_true_eq_false, false_implies, true_implies, Nat.reduceEqDiff, Nat.reduceAdd, Nat.reduceLT, Nat.reduceLeDiff, reduceIte, e_ift (c1 := fun x => x = 0) (x := 0) rfl, zM0, f0, N0, ks, e_icmpf (c2 := fun x y => x = y) (fun h => c1 (k1.mp h)), B_X6_step_109, B_X6_step_253]
          exact this
  -- a number
  have exitN : s < len → ¬ zokr 97 122 (tx s) = true → zokr 48 57 (tx s) = true → ∀ (q w : Nat) (E1 : zE), s < q → q ≤ len → q = zs (zokr 48 57) tx len s → zwv w (zval tx s (q - s)) → E1 159 = zM0 b tr (nI len) lt (nI q) (nI s) so (nI w) fa se → (∀ j, j ≠ 159 → E1 j = E j) → (if ¬ zhe len tx q < 48 ∧ ¬ 57 < zhe len tx q then (1 : Int32) else 0) = 0 → B_X6_step_126 b N cy P A [(0, .ref (b + 159)), (1, .int (nI (tx s)))] [] 0 0 E1 := by
    intro hsl hno hok q w E1 hsq hq hz hw f0 hk hi
    have hts := ht s hsl
    have hgo := hztk q (if (tx s = 48 ∧ 1 < q - s) ∨ 99 < zval tx s (q - s) then 4 else 2) s (zval tx s (q - s)) (by rw [if_pos hsl, if_neg hno, if_pos hok, ← hz])
    simp -implicitDefEqProofs only [B_X6_step_126, e_cut, e_iload, e_aload, e_istore, e_astore, e_iinc, e_const, e_lconst, e_bin, e_bin0, e_un, e_ladd, e_dupi, e_dupr, e_dup2, e_pop, e_sw, e_sw0, e_sw1, e_get, e_put, e_ald, e_ast, e_aald, e_aast, e_copy, e_new, e_newa, e_anewa, e_min, e_abs, e_oinit, e_callI, e_callV, e_callS, e_iret, e_zret, e_lret, e_vret, e_tl1, e_tl0, e_tl2, e_tl3, z10, Bool.false_eq_true, e_argi, e_argr, e_argn, zld_c, zst_n, zst_c, zpick_n, zpick_c, List.drop_succ_cons, List.drop_zero, List.take_succ_cons, List.take_zero, List.length_cons, List.length_nil, List.reverse_cons, List.reverse_nil, List.nil_append, List.cons_append, List.append_nil, List.getElem?_cons_zero, List.getElem?_cons_succ, List.set_cons_zero, List.set_cons_succ, Nat.add_sub_cancel_left, Nat.sub_self, Nat.add_zero, Nat.zero_add, Nat.le_add_right, Nat.le_refl, true_and, and_true, va_rf, zok, Nat.add_left_cancel_iff, Nat.add_eq_left, Nat.left_eq_add, eq_self, if_true, if_false, not_false_eq_true, not_true_eq_false, false_implies, true_implies, Nat.reduceEqDiff, Nat.reduceAdd, Nat.reduceLT, Nat.reduceLeDiff, reduceIte, zM0, f0, N0]
    refine ⟨tr, len, q, tx, lt, _, _, _, fa, se, rfl, f0, hMt.congr (hk _ (by omega)), hq, by omega, ?_⟩
    simp -implicitDefEqProofs only [e_cut, e_iload, e_aload, e_istore, e_astore, e_iinc, e_const, e_lconst, e_bin, e_bin0, e_un, e_ladd, e_dupi, e_dupr, e_dup2, e_pop, e_sw, e_sw0, e_sw1, e_get, e_put, e_ald, e_ast, e_aald, e_aast, e_copy, e_new, e_newa, e_anewa, e_min, e_abs, e_oinit, e_callI, e_callV, e_callS, e_iret, e_zret, e_lret, e_vret, e_tl1, e_tl0, e_tl2, e_tl3, z10, Bool.false_eq_true, e_argi, e_argr, e_argn, zld_c, zst_n, zst_c, zpick_n, zpick_c, List.drop_succ_cons, List.drop_zero, List.take_succ_cons, List.take_zero, List.length_cons, List.length_nil, List.reverse_cons, List.reverse_nil, List.nil_append, List.cons_append, List.append_nil, List.getElem?_cons_zero, List.getElem?_cons_succ, List.set_cons_zero, List.set_cons_succ, Nat.add_sub_cancel_left, Nat.sub_self, Nat.add_zero, Nat.zero_add, Nat.le_add_right, Nat.le_refl, true_and, and_true, va_rf, zok, Nat.add_left_cancel_iff, Nat.add_eq_left, Nat.left_eq_add, eq_self, if_true, if_false, not_false_eq_true, not_true_eq_false, false_implies, true_implies, Nat.reduceEqDiff, Nat.reduceAdd, Nat.reduceLT, Nat.reduceLeDiff, reduceIte]
    refine ⟨_, _, _, rfl, ?_⟩
    rw [hi]
    have hw31 : w < 1000 := by rcases hw with h | h <;> omega
    have k99 : ((99 : Int32) < nI w) = (99 < w) := propext (nI_ltI (a := 99) (by omega) (by omega))
    have kc : (nI (tx s) = 48) = (tx s = 48) := nI_lit (n := 48) (x := 48) rfl (by omega) (by omega)
    have ks : nI q - nI s = nI (q - s) := pk_sub (by omega)
    have k1 : (nI (q - s) ≤ 1) = (q - s ≤ 1) := propext (nI_leI (b := 1) (by omega) (by omega))
    have b217 : ((tx s = 48 ∧ 1 < q - s) ∨ 99 < zval tx s (q - s)) → B_X6_step_217 b N cy P A [(0, .ref (b + 159)), (1, .int (nI (tx s)))] [.ref (b + 159)] 0 0 E1 := fun h => by
      rw [if_pos h] at hgo
      have := hgo w (va_up E1 159 (zM0 b tr (nI len) lt (nI q) (nI s) 4 (nI w) fa se)) (fun h => by omega) (by rw [u_eq]; rfl) (fun j hj => (u_ne hj).trans (hk j hj))
      simp -implicitDefEqProofs only [B_X6_step_217, B_X6_step_222, B_X6_step_253, e_cut, e_iload, e_aload, e_istore, e_astore, e_iinc, e_const, e_lconst, e_bin, e_bin0, e_un, e_ladd, e_dupi, e_dupr, e_dup2, e_pop, e_sw, e_sw0, e_sw1, e_get, e_put, e_ald, e_ast, e_aald, e_aast, e_copy, e_new, e_newa, e_anewa, e_min, e_abs, e_oinit, e_callI, e_callV, e_callS, e_iret, e_zret, e_lret, e_vret, e_tl1, e_tl0, e_tl2, e_tl3, z10, Bool.false_eq_true, e_argi, e_argr, e_argn, zld_c, zst_n, zst_c, zpick_n, zpick_c, List.drop_succ_cons, List.drop_zero, List.take_succ_cons, List.take_zero, List.length_cons, List.length_nil, List.reverse_cons, List.reverse_nil, List.nil_append, List.cons_append, List.append_nil, List.getElem?_cons_zero, List.getElem?_cons_succ, List.set_cons_zero, List.set_cons_succ, Nat.add_sub_cancel_left, Nat.sub_self, Nat.add_zero, Nat.zero_add, Nat.le_add_right, Nat.le_refl, true_and, and_true, va_rf, zok, Nat.add_left_cancel_iff, Nat.add_eq_left, Nat.left_eq_add, eq_self, if_true, if_false, not_false_eq_true, not_true_eq_false, false_implies, true_implies, Nat.reduceEqDiff, Nat.reduceAdd, Nat.reduceLT, Nat.reduceLeDiff, reduceIte, zM0, f0, N0]
      exact this
    have b221 : ¬ ((tx s = 48 ∧ 1 < q - s) ∨ 99 < zval tx s (q - s)) → B_X6_step_221 b N cy P A [(0, .ref (b + 159)), (1, .int (nI (tx s)))] [.ref (b + 159)] 0 0 E1 := fun h => by
      rw [if_neg h] at hgo
      have := hgo w (va_up E1 159 (zM0 b tr (nI len) lt (nI q) (nI s) 1 (nI w) fa se)) (fun _ => by rcases hw with h2 | h2 <;> omega) (by rw [u_eq]; rfl) (fun j hj => (u_ne hj).trans (hk j hj))
      simp -implicitDefEqProofs only [B_X6_step_221, B_X6_step_222, B_X6_step_253, e_cut, e_iload, e_aload, e_istore, e_astore, e_iinc, e_const, e_lconst, e_bin, e_bin0, e_un, e_ladd, e_dupi, e_dupr, e_dup2, e_pop, e_sw, e_sw0, e_sw1, e_get, e_put, e_ald, e_ast, e_aald, e_aast, e_copy, e_new, e_newa, e_anewa, e_min, e_abs, e_oinit, e_callI, e_callV, e_callS, e_iret, e_zret, e_lret, e_vret, e_tl1, e_tl0, e_tl2, e_tl3, z10, Bool.false_eq_true, e_argi, e_argr, e_argn, zld_c, zst_n, zst_c, zpick_n, zpick_c, List.drop_succ_cons, List.drop_zero, List.take_succ_cons, List.take_zero, List.length_cons, List.length_nil, List.reverse_cons, List.reverse_nil, List.nil_append, List.cons_append, List.append_nil, List.getElem?_cons_zero, List.getElem?_cons_succ, List.set_cons_zero, List.set_cons_succ, Nat.add_sub_cancel_left, Nat.sub_self, Nat.add_zero, Nat.zero_add, Nat.le_add_right, Nat.le_refl, true_and, and_true, va_rf, zok, Nat.add_left_cancel_iff, Nat.add_eq_left, Nat.left_eq_add, eq_self, if_true, if_false, not_false_eq_true, not_true_eq_false, false_implies, true_implies, Nat.reduceEqDiff, Nat.reduceAdd, Nat.reduceLT, Nat.reduceLeDiff, reduceIte, zM0, f0, N0]
      exact this
    simp -implicitDefEqProofs only [e_cut, e_iload, e_aload, e_istore, e_astore, e_iinc, e_const, e_lconst, e_bin, e_bin0, e_un, e_ladd, e_dupi, e_dupr, e_dup2, e_pop, e_sw, e_sw0, e_sw1, e_get, e_put, e_ald, e_ast, e_aald, e_aast, e_copy, e_new, e_newa, e_anewa, e_min, e_abs, e_oinit, e_callI, e_callV, e_callS, e_iret, e_zret, e_lret, e_vret, e_tl1, e_tl0, e_tl2, e_tl3, z10, Bool.false_eq_true, e_argi, e_argr, e_argn, zld_c, zst_n, zst_c, zpick_n, zpick_c, List.drop_succ_cons, List.drop_zero, List.take_succ_cons, List.take_zero, List.length_cons, List.length_nil, List.reverse_cons, List.reverse_nil, List.nil_append, List.cons_append, List.append_nil, List.getElem?_cons_zero, List.getElem?_cons_succ, List.set_cons_zero, List.set_cons_succ, Nat.add_sub_cancel_left, Nat.sub_self, Nat.add_zero, Nat.zero_add, Nat.le_add_right, Nat.le_refl, true_and, and_true, va_rf, zok, Nat.add_left_cancel_iff, Nat.add_eq_left, Nat.left_eq_add, eq_self, if_true, if_false, not_false_eq_true, not_true_eq_false, false_implies, true_implies, Nat.reduceEqDiff, Nat.reduceAdd, Nat.reduceLT, Nat.reduceLeDiff, reduceIte, e_icmp, e_ift (c1 := fun x => x = 0) (x := 0) rfl, zM0, f0, N0, k99, kc, ks, k1]
    refine ⟨fun c1 => b217 (Or.inr (by rcases hw with h2 | h2 <;> omega)), fun c1 => ⟨fun c2 => ⟨fun c3 => b221 ?_, fun c3 => b217 (Or.inl ⟨c2, by omega⟩)⟩, fun c2 => b221 ?_⟩⟩
    · rcases hw with h2 | h2 <;> omega
    · rcases hw with h2 | h2 <;> omega
  have loopN : s < len → ¬ zokr 97 122 (tx s) = true → zokr 48 57 (tx s) = true → ∀ (d q w : Nat) (E1 : zE), len - q = d → s < q ∨ q = s → q ≤ len → zs (zokr 48 57) tx len q = zs (zokr 48 57) tx len s → zwv w (zval tx s (q - s)) → E1 159 = zM0 b tr (nI len) lt (nI q) (nI s) so (nI w) fa se → (∀ j, j ≠ 159 → E1 j = E j) → A 126 [(0, .ref (b + 159)), (1, .int (nI (tx s)))] [] 0 0 E1 := by
    intro hsl hno hok d
    induction d with
    | zero =>
      intro q w E1 hd hsq hq hz hw f0 hk
      apply hA126
      have hzq : zs (zokr 48 57) tx len q = q := zs_no (by omega)
      have hi := zin_he (len := len) (q := q) (lo := 48) (hi := 57) ht (by omega) (by omega)
      rw [if_neg (show ¬ (q < len ∧ zokr 48 57 (tx q) = true) from fun h => by omega)] at hi
      exact exitN hsl hno hok q w E1 (by omega) hq (by rw [← hz, hzq]) hw f0 hk hi
    | succ d ih =>
      intro q w E1 hd hsq hq hz hw f0 hk
      have hql : q < len := by omega
      apply hA126
      have hi := zin_he (len := len) (q := q) (lo := 48) (hi := 57) ht (by omega) (by omega)
      by_cases c0 : zokr 48 57 (tx q) = true
      · rw [if_pos (show q < len ∧ zokr 48 57 (tx q) = true from ⟨hql, c0⟩)] at hi
        have h48 : 48 ≤ tx q ∧ tx q ≤ 57 := by simpa [zokr] using c0
        have hsq2 : s ≤ q := by omega
        have hzv : zval tx s (q + 1 - s) = min (zval tx s (q - s) * 10 + (tx q - 48)) 100 := by
          rw [show q + 1 - s = q - s + 1 by omega, zval, show s + (q - s) = q by omega]
        have hw31 : w < 1000 := by rcases hw with h | h <;> omega
        have k99 : (nI w ≤ 99) = (w ≤ 99) := propext (nI_leI (b := 99) (by omega) (by omega))
        have hq1 : zs (zokr 48 57) tx len (q + 1) = zs (zokr 48 57) tx len s := by rw [← zs_go hql c0]; exact hz
        simp -implicitDefEqProofs only [B_X6_step_126, e_cut, e_iload, e_aload, e_istore, e_astore, e_iinc, e_const, e_lconst, e_bin, e_bin0, e_un, e_ladd, e_dupi, e_dupr, e_dup2, e_pop, e_sw, e_sw0, e_sw1, e_get, e_put, e_ald, e_ast, e_aald, e_aast, e_copy, e_new, e_newa, e_anewa, e_min, e_abs, e_oinit, e_callI, e_callV, e_callS, e_iret, e_zret, e_lret, e_vret, e_tl1, e_tl0, e_tl2, e_tl3, z10, Bool.false_eq_true, e_argi, e_argr, e_argn, zld_c, zst_n, zst_c, zpick_n, zpick_c, List.drop_succ_cons, List.drop_zero, List.take_succ_cons, List.take_zero, List.length_cons, List.length_nil, List.reverse_cons, List.reverse_nil, List.nil_append, List.cons_append, List.append_nil, List.getElem?_cons_zero, List.getElem?_cons_succ, List.set_cons_zero, List.set_cons_succ, Nat.add_sub_cancel_left, Nat.sub_self, Nat.add_zero, Nat.zero_add, Nat.le_add_right, Nat.le_refl, true_and, and_true, va_rf, zok, Nat.add_left_cancel_iff, Nat.add_eq_left, Nat.left_eq_add, eq_self, if_true, if_false, not_false_eq_true, not_true_eq_false, false_implies, true_implies, Nat.reduceEqDiff, Nat.reduceAdd, Nat.reduceLT, Nat.reduceLeDiff, reduceIte, zM0, f0, N0]
        refine ⟨tr, len, q, tx, lt, _, _, _, fa, se, rfl, f0, hMt.congr (hk _ (by omega)), hq, by omega, ?_⟩
        simp -implicitDefEqProofs only [e_cut, e_iload, e_aload, e_istore, e_astore, e_iinc, e_const, e_lconst, e_bin, e_bin0, e_un, e_ladd, e_dupi, e_dupr, e_dup2, e_pop, e_sw, e_sw0, e_sw1, e_get, e_put, e_ald, e_ast, e_aald, e_aast, e_copy, e_new, e_newa, e_anewa, e_min, e_abs, e_oinit, e_callI, e_callV, e_callS, e_iret, e_zret, e_lret, e_vret, e_tl1, e_tl0, e_tl2, e_tl3, z10, Bool.false_eq_true, e_argi, e_argr, e_argn, zld_c, zst_n, zst_c, zpick_n, zpick_c, List.drop_succ_cons, List.drop_zero, List.take_succ_cons, List.take_zero, List.length_cons, List.length_nil, List.reverse_cons, List.reverse_nil, List.nil_append, List.cons_append, List.append_nil, List.getElem?_cons_zero, List.getElem?_cons_succ, List.set_cons_zero, List.set_cons_succ, Nat.add_sub_cancel_left, Nat.sub_self, Nat.add_zero, Nat.zero_add, Nat.le_add_right, Nat.le_refl, true_and, and_true, va_rf, zok, Nat.add_left_cancel_iff, Nat.add_eq_left, Nat.left_eq_add, eq_self, if_true, if_false, not_false_eq_true, not_true_eq_false, false_implies, true_implies, Nat.reduceEqDiff, Nat.reduceAdd, Nat.reduceLT, Nat.reduceLeDiff, reduceIte]
        refine ⟨_, _, _, rfl, ?_⟩
        rw [show (if ¬ zhe len tx q < 48 ∧ ¬ 57 < zhe len tx q then (1 : Int32) else 0) = 1 from hi]
        by_cases c1 : w ≤ 99
        · have hv : zval tx s (q - s) = w := by rcases hw with h | h <;> omega
          simp -implicitDefEqProofs only [e_cut, e_iload, e_aload, e_istore, e_astore, e_iinc, e_const, e_lconst, e_bin, e_bin0, e_un, e_ladd, e_dupi, e_dupr, e_dup2, e_pop, e_sw, e_sw0, e_sw1, e_get, e_put, e_ald, e_ast, e_aald, e_aast, e_copy, e_new, e_newa, e_anewa, e_min, e_abs, e_oinit, e_callI, e_callV, e_callS, e_iret, e_zret, e_lret, e_vret, e_tl1, e_tl0, e_tl2, e_tl3, z10, Bool.false_eq_true, e_argi, e_argr, e_argn, zld_c, zst_n, zst_c, zpick_n, zpick_c, List.drop_succ_cons, List.drop_zero, List.take_succ_cons, List.take_zero, List.length_cons, List.length_nil, List.reverse_cons, List.reverse_nil, List.nil_append, List.cons_append, List.append_nil, List.getElem?_cons_zero, List.getElem?_cons_succ, List.set_cons_zero, List.set_cons_succ, Nat.add_sub_cancel_left, Nat.sub_self, Nat.add_zero, Nat.zero_add, Nat.le_add_right, Nat.le_refl, true_and, and_true, va_rf, zok, Nat.add_left_cancel_iff, Nat.add_eq_left, Nat.left_eq_add, eq_self, if_true, if_false, not_false_eq_true, not_true_eq_false, false_implies, true_implies, Nat.reduceEqDiff, Nat.reduceAdd, Nat.reduceLT, Nat.reduceLeDiff, reduceIte, e_iff (c1 := fun x => x = 0) (x := 1) (by decide), zM0, f0, N0, e_icmpt (c2 := fun x y => x ≤ y) (k99.mpr c1)]
          refine ⟨tr, len, q, tx, lt, _, _, _, fa, se, rfl, f0, hMt.congr (hk _ (by omega)), hq, by omega, ?_⟩
          have hx : 10 * nI w + zhe len tx q - 48 = nI (10 * w + tx q - 48) := by
            unfold zhe
            rw [if_pos hql, show (10 : Int32) * nI w = nI (10 * w) from pk_mul 10 w, nI_add]
            exact pk_sub (b := 48) (by omega)
          simp -implicitDefEqProofs only [e_cut, e_iload, e_aload, e_istore, e_astore, e_iinc, e_const, e_lconst, e_bin, e_bin0, e_un, e_ladd, e_dupi, e_dupr, e_dup2, e_pop, e_sw, e_sw0, e_sw1, e_get, e_put, e_ald, e_ast, e_aald, e_aast, e_copy, e_new, e_newa, e_anewa, e_min, e_abs, e_oinit, e_callI, e_callV, e_callS, e_iret, e_zret, e_lret, e_vret, e_tl1, e_tl0, e_tl2, e_tl3, z10, Bool.false_eq_true, e_argi, e_argr, e_argn, zld_c, zst_n, zst_c, zpick_n, zpick_c, List.drop_succ_cons, List.drop_zero, List.take_succ_cons, List.take_zero, List.length_cons, List.length_nil, List.reverse_cons, List.reverse_nil, List.nil_append, List.cons_append, List.append_nil, List.getElem?_cons_zero, List.getElem?_cons_succ, List.set_cons_zero, List.set_cons_succ, Nat.add_sub_cancel_left, Nat.sub_self, Nat.add_zero, Nat.zero_add, Nat.le_add_right, Nat.le_refl, true_and, and_true, va_rf, zok, Nat.add_left_cancel_iff, Nat.add_eq_left, Nat.left_eq_add, eq_self, if_true, if_false, not_false_eq_true, not_true_eq_false, false_implies, true_implies, Nat.reduceEqDiff, Nat.reduceAdd, Nat.reduceLT, Nat.reduceLeDiff, reduceIte, B_X6_step_172, zM0, f0, N0, hx, e_up, nI_1]
          refine ih (q + 1) (10 * w + tx q - 48) _ (by omega) (by omega) (by omega) hq1 ?_ u_eq (fun j hj => (u_ne hj).trans ((u_ne hj).trans (hk j hj)))
          rw [hzv, hv]; unfold zwv; omega
        · have hv : zval tx s (q - s) = 100 := by rcases hw with h | h <;> omega
          simp -implicitDefEqProofs only [e_cut, e_iload, e_aload, e_istore, e_astore, e_iinc, e_const, e_lconst, e_bin, e_bin0, e_un, e_ladd, e_dupi, e_dupr, e_dup2, e_pop, e_sw, e_sw0, e_sw1, e_get, e_put, e_ald, e_ast, e_aald, e_aast, e_copy, e_new, e_newa, e_anewa, e_min, e_abs, e_oinit, e_callI, e_callV, e_callS, e_iret, e_zret, e_lret, e_vret, e_tl1, e_tl0, e_tl2, e_tl3, z10, Bool.false_eq_true, e_argi, e_argr, e_argn, zld_c, zst_n, zst_c, zpick_n, zpick_c, List.drop_succ_cons, List.drop_zero, List.take_succ_cons, List.take_zero, List.length_cons, List.length_nil, List.reverse_cons, List.reverse_nil, List.nil_append, List.cons_append, List.append_nil, List.getElem?_cons_zero, List.getElem?_cons_succ, List.set_cons_zero, List.set_cons_succ, Nat.add_sub_cancel_left, Nat.sub_self, Nat.add_zero, Nat.zero_add, Nat.le_add_right, Nat.le_refl, true_and, and_true, va_rf, zok, Nat.add_left_cancel_iff, Nat.add_eq_left, Nat.left_eq_add, eq_self, if_true, if_false, not_false_eq_true, not_true_eq_false, false_implies, true_implies, Nat.reduceEqDiff, Nat.reduceAdd, Nat.reduceLT, Nat.reduceLeDiff, reduceIte, e_iff (c1 := fun x => x = 0) (x := 1) (by decide), zM0, f0, N0, e_icmpf (c2 := fun x y => x ≤ y) (fun h => c1 (k99.mp h)), B_X6_step_172, e_up, nI_1]
          refine ih (q + 1) w _ (by omega) (by omega) (by omega) hq1 ?_ u_eq (fun j hj => (u_ne hj).trans ((u_ne hj).trans (hk j hj)))
          rw [hzv, hv]; unfold zwv; omega
      · have hzq : zs (zokr 48 57) tx len q = q := zs_no (fun h => c0 h.2)
        have hsq' : s < q := by
          rcases hsq with h | h
          · exact h
          · rw [h] at c0; exact absurd hok c0
        rw [if_neg (show ¬ (q < len ∧ zokr 48 57 (tx q) = true) from fun h => c0 h.2)] at hi
        exact exitN hsl hno hok q w E1 hsq' hq (by rw [← hz, hzq]) hw f0 hk hi
  -- blanks
  have loopB : ∀ (d q : Nat) (E1 : zE) (st va : Int32), len - q = d → q ≤ len → zs (zokr 32 32) tx len q = s → E1 159 = zM0 b tr (nI len) lt (nI q) st so va fa se → (∀ j, j ≠ 159 → E1 j = E j) → B_X6_step_0 b N cy P A [(0, .ref (b + 159))] [] 0 0 E1 := by
    intro d
    induction d using Nat.strongRecOn with
    | ind d ih =>
      intro q E1 st va hd hq hz f0 hk
      have hMt1 : zMt cy E1 len tx := hMt.congr (hk _ (by omega))
      simp -implicitDefEqProofs only [B_X6_step_0, e_cut, e_iload, e_aload, e_istore, e_astore, e_iinc, e_const, e_lconst, e_bin, e_bin0, e_un, e_ladd, e_dupi, e_dupr, e_dup2, e_pop, e_sw, e_sw0, e_sw1, e_get, e_put, e_ald, e_ast, e_aald, e_aast, e_copy, e_new, e_newa, e_anewa, e_min, e_abs, e_oinit, e_callI, e_callV, e_callS, e_iret, e_zret, e_lret, e_vret, e_tl1, e_tl0, e_tl2, e_tl3, z10, Bool.false_eq_true, e_argi, e_argr, e_argn, zld_c, zst_n, zst_c, zpick_n, zpick_c, List.drop_succ_cons, List.drop_zero, List.take_succ_cons, List.take_zero, List.length_cons, List.length_nil, List.reverse_cons, List.reverse_nil, List.nil_append, List.cons_append, List.append_nil, List.getElem?_cons_zero, List.getElem?_cons_succ, List.set_cons_zero, List.set_cons_succ, Nat.add_sub_cancel_left, Nat.sub_self, Nat.add_zero, Nat.zero_add, Nat.le_add_right, Nat.le_refl, true_and, and_true, va_rf, zok, Nat.add_left_cancel_iff, Nat.add_eq_left, Nat.left_eq_add, eq_self, if_true, if_false, not_false_eq_true, not_true_eq_false, false_implies, true_implies, Nat.reduceEqDiff, Nat.reduceAdd, Nat.reduceLT, Nat.reduceLeDiff, reduceIte, zM0, f0, N0]
      refine ⟨tr, len, q, tx, lt, _, _, _, fa, se, rfl, f0, hMt1, hq, by omega, ?_⟩
      have k32 : (zhe len tx q = 32) = (q < len ∧ zokr 32 32 (tx q) = true) := by
        unfold zhe
        by_cases e : q < len
        · rw [if_pos e, nI_lit (n := 32) (x := 32) rfl (by have := ht q e; omega) (by omega)]
          simp [zokr, e]; omega
        · rw [if_neg e]
          exact propext ⟨fun h => absurd h (by decide), fun h => absurd h.1 e⟩
      by_cases c0 : q < len ∧ zokr 32 32 (tx q) = true
      · simp -implicitDefEqProofs only [e_cut, e_iload, e_aload, e_istore, e_astore, e_iinc, e_const, e_lconst, e_bin, e_bin0, e_un, e_ladd, e_dupi, e_dupr, e_dup2, e_pop, e_sw, e_sw0, e_sw1, e_get, e_put, e_ald, e_ast, e_aald, e_aast, e_copy, e_new, e_newa, e_anewa, e_min, e_abs, e_oinit, e_callI, e_callV, e_callS, e_iret, e_zret, e_lret, e_vret, e_tl1, e_tl0, e_tl2, e_tl3, z10, Bool.false_eq_true, e_argi, e_argr, e_argn, zld_c, zst_n, zst_c, zpick_n, zpick_c, List.drop_succ_cons, List.drop_zero, List.take_succ_cons, List.take_zero, List.length_cons, List.length_nil, List.reverse_cons, List.reverse_nil, List.nil_append, List.cons_append, List.append_nil, List.getElem?_cons_zero, List.getElem?_cons_succ, List.set_cons_zero, List.set_cons_succ, Nat.add_sub_cancel_left, Nat.sub_self, Nat.add_zero, Nat.zero_add, Nat.le_add_right, Nat.le_refl, true_and, and_true, va_rf, zok, Nat.add_left_cancel_iff, Nat.add_eq_left, Nat.left_eq_add, eq_self, if_true, if_false, not_false_eq_true, not_true_eq_false, false_implies, true_implies, Nat.reduceEqDiff, Nat.reduceAdd, Nat.reduceLT, Nat.reduceLeDiff, reduceIte, zM0, f0, N0, e_icmpt (c2 := fun x y => x = y) (k32.mpr c0), nI_1]
        apply hA0
        exact ih (len - (q + 1)) (by omega) (q + 1) _ st va rfl (by omega) (by rw [← zs_go c0.1 c0.2]; exact hz) u_eq (fun j hj => (u_ne hj).trans (hk j hj))
      · have hzq : zs (zokr 32 32) tx len q = q := zs_no c0
        have hqs : q = s := by rw [← hz, hzq]
        rw [hqs] at f0 hq c0 k32 ⊢
        simp -implicitDefEqProofs only [e_cut, e_iload, e_aload, e_istore, e_astore, e_iinc, e_const, e_lconst, e_bin, e_bin0, e_un, e_ladd, e_dupi, e_dupr, e_dup2, e_pop, e_sw, e_sw0, e_sw1, e_get, e_put, e_ald, e_ast, e_aald, e_aast, e_copy, e_new, e_newa, e_anewa, e_min, e_abs, e_oinit, e_callI, e_callV, e_callS, e_iret, e_zret, e_lret, e_vret, e_tl1, e_tl0, e_tl2, e_tl3, z10, Bool.false_eq_true, e_argi, e_argr, e_argn, zld_c, zst_n, zst_c, zpick_n, zpick_c, List.drop_succ_cons, List.drop_zero, List.take_succ_cons, List.take_zero, List.length_cons, List.length_nil, List.reverse_cons, List.reverse_nil, List.nil_append, List.cons_append, List.append_nil, List.getElem?_cons_zero, List.getElem?_cons_succ, List.set_cons_zero, List.set_cons_succ, Nat.add_sub_cancel_left, Nat.sub_self, Nat.add_zero, Nat.zero_add, Nat.le_add_right, Nat.le_refl, true_and, and_true, va_rf, zok, Nat.add_left_cancel_iff, Nat.add_eq_left, Nat.left_eq_add, eq_self, if_true, if_false, not_false_eq_true, not_true_eq_false, false_implies, true_implies, Nat.reduceEqDiff, Nat.reduceAdd, Nat.reduceLT, Nat.reduceLeDiff, reduceIte, zM0, f0, N0, e_icmpf (c2 := fun x y => x = y) (fun h => c0 (k32.mp h)), e_up]
        have hk2 : ∀ j, j ≠ 159 → va_up (va_up E1 159 (zM0 b tr (nI len) lt (nI s) (nI s) so va fa se)) 159 (zM0 b tr (nI len) lt (nI s) (nI s) so 0 fa se) j = E j := fun j hj => (u_ne hj).trans ((u_ne hj).trans (hk j hj))
        refine ⟨tr, len, s, tx, lt, nI s, so, 0, fa, se, rfl, u_eq, hMt.congr (hk2 _ (by omega)), hq, by omega, ?_⟩
        by_cases c1 : s < len
        · have htq := ht s c1
          have hge : (0 : Int32) ≤ zhe len tx s := by unfold zhe; rw [if_pos c1]; exact nI_pos' (by omega)
          have hhe : zhe len tx s = nI (tx s) := by unfold zhe; rw [if_pos c1]
          rw [hhe] at hge ⊢
          simp -implicitDefEqProofs only [e_cut, e_iload, e_aload, e_istore, e_astore, e_iinc, e_const, e_lconst, e_bin, e_bin0, e_un, e_ladd, e_dupi, e_dupr, e_dup2, e_pop, e_sw, e_sw0, e_sw1, e_get, e_put, e_ald, e_ast, e_aald, e_aast, e_copy, e_new, e_newa, e_anewa, e_min, e_abs, e_oinit, e_callI, e_callV, e_callS, e_iret, e_zret, e_lret, e_vret, e_tl1, e_tl0, e_tl2, e_tl3, z10, Bool.false_eq_true, e_argi, e_argr, e_argn, zld_c, zst_n, zst_c, zpick_n, zpick_c, List.drop_succ_cons, List.drop_zero, List.take_succ_cons, List.take_zero, List.length_cons, List.length_nil, List.reverse_cons, List.reverse_nil, List.nil_append, List.cons_append, List.append_nil, List.getElem?_cons_zero, List.getElem?_cons_succ, List.set_cons_zero, List.set_cons_succ, Nat.add_sub_cancel_left, Nat.sub_self, Nat.add_zero, Nat.zero_add, Nat.le_add_right, Nat.le_refl, true_and, and_true, va_rf, zok, Nat.add_left_cancel_iff, Nat.add_eq_left, Nat.left_eq_add, eq_self, if_true, if_false, not_false_eq_true, not_true_eq_false, false_implies, true_implies, Nat.reduceEqDiff, Nat.reduceAdd, Nat.reduceLT, Nat.reduceLeDiff, reduceIte, e_ift (c1 := fun x => 0 ≤ x) (x := nI (tx s)) hge]
          refine ⟨_, _, _, rfl, ?_⟩
          have i1 := zin_ok (lo := 97) (hi := 122) (c := tx s) (by omega) (by omega) htq
          rw [show (if ¬ nI (tx s) < 97 ∧ ¬ 122 < nI (tx s) then (1 : Int32) else 0) = _ from i1]
          by_cases c2 : zokr 97 122 (tx s) = true
          · rw [if_pos c2]
            simp -implicitDefEqProofs only [e_cut, e_iload, e_aload, e_istore, e_astore, e_iinc, e_const, e_lconst, e_bin, e_bin0, e_un, e_ladd, e_dupi, e_dupr, e_dup2, e_pop, e_sw, e_sw0, e_sw1, e_get, e_put, e_ald, e_ast, e_aald, e_aast, e_copy, e_new, e_newa, e_anewa, e_min, e_abs, e_oinit, e_callI, e_callV, e_callS, e_iret, e_zret, e_lret, e_vret, e_tl1, e_tl0, e_tl2, e_tl3, z10, Bool.false_eq_true, e_argi, e_argr, e_argn, zld_c, zst_n, zst_c, zpick_n, zpick_c, List.drop_succ_cons, List.drop_zero, List.take_succ_cons, List.take_zero, List.length_cons, List.length_nil, List.reverse_cons, List.reverse_nil, List.nil_append, List.cons_append, List.append_nil, List.getElem?_cons_zero, List.getElem?_cons_succ, List.set_cons_zero, List.set_cons_succ, Nat.add_sub_cancel_left, Nat.sub_self, Nat.add_zero, Nat.zero_add, Nat.le_add_right, Nat.le_refl, true_and, and_true, va_rf, zok, Nat.add_left_cancel_iff, Nat.add_eq_left, Nat.left_eq_add, eq_self, if_true, if_false, not_false_eq_true, not_true_eq_false, false_implies, true_implies, Nat.reduceEqDiff, Nat.reduceAdd, Nat.reduceLT, Nat.reduceLeDiff, reduceIte, e_iff (c1 := fun x => x = 0) (x := 1) (by decide)]
            exact loopW c1 c2 (len - s) s _ rfl (Or.inr rfl) hq rfl u_eq hk2
          · rw [if_neg c2]
            simp -implicitDefEqProofs only [e_cut, e_iload, e_aload, e_istore, e_astore, e_iinc, e_const, e_lconst, e_bin, e_bin0, e_un, e_ladd, e_dupi, e_dupr, e_dup2, e_pop, e_sw, e_sw0, e_sw1, e_get, e_put, e_ald, e_ast, e_aald, e_aast, e_copy, e_new, e_newa, e_anewa, e_min, e_abs, e_oinit, e_callI, e_callV, e_callS, e_iret, e_zret, e_lret, e_vret, e_tl1, e_tl0, e_tl2, e_tl3, z10, Bool.false_eq_true, e_argi, e_argr, e_argn, zld_c, zst_n, zst_c, zpick_n, zpick_c, List.drop_succ_cons, List.drop_zero, List.take_succ_cons, List.take_zero, List.length_cons, List.length_nil, List.reverse_cons, List.reverse_nil, List.nil_append, List.cons_append, List.append_nil, List.getElem?_cons_zero, List.getElem?_cons_succ, List.set_cons_zero, List.set_cons_succ, Nat.add_sub_cancel_left, Nat.sub_self, Nat.add_zero, Nat.zero_add, Nat.le_add_right, Nat.le_refl, true_and, and_true, va_rf, zok, Nat.add_left_cancel_iff, Nat.add_eq_left, Nat.left_eq_add, eq_self, if_true, if_false, not_false_eq_true, not_true_eq_false, false_implies, true_implies, Nat.reduceEqDiff, Nat.reduceAdd, Nat.reduceLT, Nat.reduceLeDiff, reduceIte, e_ift (c1 := fun x => x = 0) (x := 0) rfl]
            refine ⟨_, _, _, rfl, ?_⟩
            have i2 := zin_ok (lo := 48) (hi := 57) (c := tx s) (by omega) (by omega) htq
            rw [show (if ¬ nI (tx s) < 48 ∧ ¬ 57 < nI (tx s) then (1 : Int32) else 0) = _ from i2]
            by_cases c3 : zokr 48 57 (tx s) = true
            · rw [if_pos c3]
              simp -implicitDefEqProofs only [e_cut, e_iload, e_aload, e_istore, e_astore, e_iinc, e_const, e_lconst, e_bin, e_bin0, e_un, e_ladd, e_dupi, e_dupr, e_dup2, e_pop, e_sw, e_sw0, e_sw1, e_get, e_put, e_ald, e_ast, e_aald, e_aast, e_copy, e_new, e_newa, e_anewa, e_min, e_abs, e_oinit, e_callI, e_callV, e_callS, e_iret, e_zret, e_lret, e_vret, e_tl1, e_tl0, e_tl2, e_tl3, z10, Bool.false_eq_true, e_argi, e_argr, e_argn, zld_c, zst_n, zst_c, zpick_n, zpick_c, List.drop_succ_cons, List.drop_zero, List.take_succ_cons, List.take_zero, List.length_cons, List.length_nil, List.reverse_cons, List.reverse_nil, List.nil_append, List.cons_append, List.append_nil, List.getElem?_cons_zero, List.getElem?_cons_succ, List.set_cons_zero, List.set_cons_succ, Nat.add_sub_cancel_left, Nat.sub_self, Nat.add_zero, Nat.zero_add, Nat.le_add_right, Nat.le_refl, true_and, and_true, va_rf, zok, Nat.add_left_cancel_iff, Nat.add_eq_left, Nat.left_eq_add, eq_self, if_true, if_false, not_false_eq_true, not_true_eq_false, false_implies, true_implies, Nat.reduceEqDiff, Nat.reduceAdd, Nat.reduceLT, Nat.reduceLeDiff, reduceIte, e_iff (c1 := fun x => x = 0) (x := 1) (by decide)]
              refine loopN c1 c2 c3 (len - s) s 0 _ rfl (Or.inr rfl) hq rfl ?_ u_eq hk2
              rw [Nat.sub_self]; exact Or.inl ⟨by omega, rfl⟩
            · rw [if_neg c3]
              have hgo := hztk (s + 1) (if tx s = 59 then 3 else 4) s 0 (by rw [if_pos c1, if_neg c2, if_neg c3])
              have kc : (nI (tx s) = 59) = (tx s = 59) := nI_lit (n := 59) (x := 59) rfl (by omega) (by omega)
              by_cases c4 : tx s = 59
              · rw [if_pos c4] at hgo
                have := hgo 0 (va_up (va_up (va_up (va_up E1 159 (zM0 b tr (nI len) lt (nI s) (nI s) so va fa se)) 159 (zM0 b tr (nI len) lt (nI s) (nI s) so 0 fa se)) 159 (zM0 b tr (nI len) lt (nI (s + 1)) (nI s) so 0 fa se)) 159 (zM0 b tr (nI len) lt (nI (s + 1)) (nI s) 2 0 fa se)) (fun h => by omega) (by rw [u_eq]; rfl) (fun j hj => (u_ne hj).trans ((u_ne hj).trans (hk2 j hj)))
                simp -implicitDefEqProofs only [e_cut, e_iload, e_aload, e_istore, e_astore, e_iinc, e_const, e_lconst, e_bin, e_bin0, e_un, e_ladd, e_dupi, e_dupr, e_dup2, e_pop, e_sw, e_sw0, e_sw1, e_get, e_put, e_ald, e_ast, e_aald, e_aast, e_copy, e_new, e_newa, e_anewa, e_min, e_abs, e_oinit, e_callI, e_callV, e_callS, e_iret, e_zret, e_lret, e_vret, e_tl1, e_tl0, e_tl2, e_tl3, z10, Bool.false_eq_true, e_argi, e_argr, e_argn, zld_c, zst_n, zst_c, zpick_n, zpick_c, List.drop_succ_cons, List.drop_zero, List.take_succ_cons, List.take_zero, List.length_cons, List.length_nil, List.reverse_cons, List.reverse_nil, List.nil_append, List.cons_append, List.append_nil, List.getElem?_cons_zero, List.getElem?_cons_succ, List.set_cons_zero, List.set_cons_succ, Nat.add_sub_cancel_left, Nat.sub_self, Nat.add_zero, Nat.zero_add, Nat.le_add_right, Nat.le_refl, true_and, and_true, va_rf, zok, Nat.add_left_cancel_iff, Nat.add_eq_left, Nat.left_eq_add, eq_self, if_true, if_false, not_false_eq_true, not_true_eq_false, false_implies, true_implies, Nat.reduceEqDiff, Nat.reduceAdd, Nat.reduceLT, Nat.reduceLeDiff, reduceIte, e_ift (c1 := fun x => x = 0) (x := 0) rfl, zM0, N0, e_up, nI_1, e_icmpt (c2 := fun x y => x = y) (kc.mpr c4), B_X6_step_250, B_X6_step_253]
                exact this
              · rw [if_neg c4] at hgo
                have := hgo 0 (va_up (va_up (va_up (va_up E1 159 (zM0 b tr (nI len) lt (nI s) (nI s) so va fa se)) 159 (zM0 b tr (nI len) lt (nI s) (nI s) so 0 fa se)) 159 (zM0 b tr (nI len) lt (nI (s + 1)) (nI s) so 0 fa se)) 159 (zM0 b tr (nI len) lt (nI (s + 1)) (nI s) 4 0 fa se)) (fun h => by omega) (by rw [u_eq]; rfl) (fun j hj => (u_ne hj).trans ((u_ne hj).trans (hk2 j hj)))
                simp -implicitDefEqProofs only [e_cut, e_iload, e_aload, e_istore, e_astore, e_iinc, e_const, e_lconst, e_bin, e_bin0, e_un, e_ladd, e_dupi, e_dupr, e_dup2, e_pop, e_sw, e_sw0, e_sw1, e_get, e_put, e_ald, e_ast, e_aald, e_aast, e_copy, e_new, e_newa, e_anewa, e_min, e_abs, e_oinit, e_callI, e_callV, e_callS, e_iret, e_zret, e_lret, e_vret, e_tl1, e_tl0, e_tl2, e_tl3, z10, Bool.false_eq_true, e_argi, e_argr, e_argn, zld_c, zst_n, zst_c, zpick_n, zpick_c, List.drop_succ_cons, List.drop_zero, List.take_succ_cons, List.take_zero, List.length_cons, List.length_nil, List.reverse_cons, List.reverse_nil, List.nil_append, List.cons_append, List.append_nil, List.getElem?_cons_zero, List.getElem?_cons_succ, List.set_cons_zero, List.set_cons_succ, Nat.add_sub_cancel_left, Nat.sub_self, Nat.add_zero, Nat.zero_add, Nat.le_add_right, Nat.le_refl, true_and, and_true, va_rf, zok, Nat.add_left_cancel_iff, Nat.add_eq_left, Nat.left_eq_add, eq_self, if_true, if_false, not_false_eq_true, not_true_eq_false, false_implies, true_implies, Nat.reduceEqDiff, Nat.reduceAdd, Nat.reduceLT, Nat.reduceLeDiff, reduceIte, e_ift (c1 := fun x => x = 0) (x := 0) rfl, zM0, N0, e_up, nI_1, e_icmpf (c2 := fun x y => x = y) (fun h => c4 (kc.mp h)), B_X6_step_250, B_X6_step_253]
                exact this
        · have hlt : ¬ (0 : Int32) ≤ zhe len tx s := by unfold zhe; rw [if_neg c1]; decide
          have hgo := hztk s 0 s 0 (by rw [if_neg c1])
          have := hgo 0 (va_up (va_up (va_up E1 159 (zM0 b tr (nI len) lt (nI s) (nI s) so va fa se)) 159 (zM0 b tr (nI len) lt (nI s) (nI s) so 0 fa se)) 159 (zM0 b tr (nI len) lt (nI s) (nI s) 3 0 fa se)) (fun h => by omega) (by rw [u_eq]; rfl) (fun j hj => (u_ne hj).trans (hk2 j hj))
          simp -implicitDefEqProofs only [e_cut, e_iload, e_aload, e_istore, e_astore, e_iinc, e_const, e_lconst, e_bin, e_bin0, e_un, e_ladd, e_dupi, e_dupr, e_dup2, e_pop, e_sw, e_sw0, e_sw1, e_get, e_put, e_ald, e_ast, e_aald, e_aast, e_copy, e_new, e_newa, e_anewa, e_min, e_abs, e_oinit, e_callI, e_callV, e_callS, e_iret, e_zret, e_lret, e_vret, e_tl1, e_tl0, e_tl2, e_tl3, z10, Bool.false_eq_true, e_argi, e_argr, e_argn, zld_c, zst_n, zst_c, zpick_n, zpick_c, List.drop_succ_cons, List.drop_zero, List.take_succ_cons, List.take_zero, List.length_cons, List.length_nil, List.reverse_cons, List.reverse_nil, List.nil_append, List.cons_append, List.append_nil, List.getElem?_cons_zero, List.getElem?_cons_succ, List.set_cons_zero, List.set_cons_succ, Nat.add_sub_cancel_left, Nat.sub_self, Nat.add_zero, Nat.zero_add, Nat.le_add_right, Nat.le_refl, true_and, and_true, va_rf, zok, Nat.add_left_cancel_iff, Nat.add_eq_left, Nat.left_eq_add, eq_self, if_true, if_false, not_false_eq_true, not_true_eq_false, false_implies, true_implies, Nat.reduceEqDiff, Nat.reduceAdd, Nat.reduceLT, Nat.reduceLeDiff, reduceIte, e_iff (c1 := fun x => 0 ≤ x) (x := zhe len tx s) hlt, zM0, N0, e_up, B_X6_step_253]
          exact this
  exact loopB _ q0 E st0 va0 rfl hq0 hs.symm e00 (fun _ _ => rfl)
set_option maxRecDepth 20000 in
theorem f_X6_step_75 : Cond.fieldLink RX6 75 (TX6 11).1 (TX6 11).2.1 (TX6 11).2.2.1 ∈ wsX6_step := by decide +kernel
set_option maxRecDepth 20000 in
theorem k_X6_step_6 : ∀ w ∈ u_ws RX6 TX6 21, w ∈ wsX6_step := fun _ h => List.mem_cons_of_mem _ (List.mem_append_right _ h)
set_option maxRecDepth 20000 in
theorem f_X6_step_72 : Cond.fieldLink RX6 72 (TX6 12).1 (TX6 12).2.1 (TX6 12).2.2.1 ∈ wsX6_step := by decide +kernel
set_option maxRecDepth 20000 in
theorem f_X6_step_62 : Cond.fieldLink RX6 62 (TX6 9).1 (TX6 9).2.1 (TX6 9).2.2.1 ∈ wsX6_step := by decide +kernel
set_option maxRecDepth 20000 in
theorem f_X6_step_69 : Cond.fieldLink RX6 69 (TX6 10).1 (TX6 10).2.1 (TX6 10).2.2.1 ∈ wsX6_step := by decide +kernel
set_option maxRecDepth 100000 in
set_option maxHeartbeats 4000000 in
theorem S_X6_step_253 {p : Program} {e : Env} {s : State} {m : MethodId} {args : Array Value} {below : List Frame} {meth : Method} {c : Code} {D : va_G} {cy : zY} {b n0 : Nat} {P : zPo} (la : Launch) (X : zX p la e (rm_X6_step) s m args below meth c 2 D cy b n0 cX6_step wsX6_step RX6) (hr : meth.sig.returnType = none) (h_X6_here : zMet la yX6_here wsX6_here rm_X6_here 0 0 sp_X6_here) (h_X6_in : zMet la yX6_in wsX6_in rm_X6_in 0 0 sp_X6_in) : zS p la e (rm_X6_step) s m args below meth c (MQ below (zQ D b (n0 + 0) P) args s 0 0 (fun q => b ≤ q)) 2 D b n0 253 (B_X6_step_253 b n0 cy P (zAt p la e (rm_X6_step) s m args below meth c (MQ below (zQ D b (n0 + 0) P) args s 0 0 (fun q => b ≤ q)) 2 D b n0)) := by
  unfold B_X6_step_253
  exact (s_vret X dX6_step_253 hr)
set_option maxRecDepth 100000 in
set_option maxHeartbeats 4000000 in
theorem S_X6_step_250 {p : Program} {e : Env} {s : State} {m : MethodId} {args : Array Value} {below : List Frame} {meth : Method} {c : Code} {D : va_G} {cy : zY} {b n0 : Nat} {P : zPo} (la : Launch) (X : zX p la e (rm_X6_step) s m args below meth c 2 D cy b n0 cX6_step wsX6_step RX6) (hr : meth.sig.returnType = none) (h_X6_here : zMet la yX6_here wsX6_here rm_X6_here 0 0 sp_X6_here) (h_X6_in : zMet la yX6_in wsX6_in rm_X6_in 0 0 sp_X6_in) : zS p la e (rm_X6_step) s m args below meth c (MQ below (zQ D b (n0 + 0) P) args s 0 0 (fun q => b ≤ q)) 2 D b n0 250 (B_X6_step_250 b n0 cy P (zAt p la e (rm_X6_step) s m args below meth c (MQ below (zQ D b (n0 + 0) P) args s 0 0 (fun q => b ≤ q)) 2 D b n0)) := by
  unfold B_X6_step_250
  exact (s_put X dX6_step_250 rfl k_X6_step_6 tyX6_ok nmX6 (by decide) f_X6_step_75 rfl (tyX6_ok 11 (by decide)) zok_int (S_X6_step_253 la X hr h_X6_here h_X6_in))
set_option maxRecDepth 100000 in
set_option maxHeartbeats 4000000 in
theorem S_X6_step_222 {p : Program} {e : Env} {s : State} {m : MethodId} {args : Array Value} {below : List Frame} {meth : Method} {c : Code} {D : va_G} {cy : zY} {b n0 : Nat} {P : zPo} (la : Launch) (X : zX p la e (rm_X6_step) s m args below meth c 2 D cy b n0 cX6_step wsX6_step RX6) (hr : meth.sig.returnType = none) (h_X6_here : zMet la yX6_here wsX6_here rm_X6_here 0 0 sp_X6_here) (h_X6_in : zMet la yX6_in wsX6_in rm_X6_in 0 0 sp_X6_in) : zS p la e (rm_X6_step) s m args below meth c (MQ below (zQ D b (n0 + 0) P) args s 0 0 (fun q => b ≤ q)) 2 D b n0 222 (B_X6_step_222 b n0 cy P (zAt p la e (rm_X6_step) s m args below meth c (MQ below (zQ D b (n0 + 0) P) args s 0 0 (fun q => b ≤ q)) 2 D b n0)) := by
  unfold B_X6_step_222
  exact (s_put X dX6_step_222 rfl k_X6_step_6 tyX6_ok nmX6 (by decide) f_X6_step_75 rfl (tyX6_ok 11 (by decide)) zok_int (s_goto X dX6_step_225 (by decide) (S_X6_step_253 la X hr h_X6_here h_X6_in)))
set_option maxRecDepth 100000 in
set_option maxHeartbeats 4000000 in
theorem S_X6_step_221 {p : Program} {e : Env} {s : State} {m : MethodId} {args : Array Value} {below : List Frame} {meth : Method} {c : Code} {D : va_G} {cy : zY} {b n0 : Nat} {P : zPo} (la : Launch) (X : zX p la e (rm_X6_step) s m args below meth c 2 D cy b n0 cX6_step wsX6_step RX6) (hr : meth.sig.returnType = none) (h_X6_here : zMet la yX6_here wsX6_here rm_X6_here 0 0 sp_X6_here) (h_X6_in : zMet la yX6_in wsX6_in rm_X6_in 0 0 sp_X6_in) : zS p la e (rm_X6_step) s m args below meth c (MQ below (zQ D b (n0 + 0) P) args s 0 0 (fun q => b ≤ q)) 2 D b n0 221 (B_X6_step_221 b n0 cy P (zAt p la e (rm_X6_step) s m args below meth c (MQ below (zQ D b (n0 + 0) P) args s 0 0 (fun q => b ≤ q)) 2 D b n0)) := by
  unfold B_X6_step_221
  exact (s_iconst X dX6_step_221 (by decide) (S_X6_step_222 la X hr h_X6_here h_X6_in))
set_option maxRecDepth 100000 in
set_option maxHeartbeats 4000000 in
theorem S_X6_step_217 {p : Program} {e : Env} {s : State} {m : MethodId} {args : Array Value} {below : List Frame} {meth : Method} {c : Code} {D : va_G} {cy : zY} {b n0 : Nat} {P : zPo} (la : Launch) (X : zX p la e (rm_X6_step) s m args below meth c 2 D cy b n0 cX6_step wsX6_step RX6) (hr : meth.sig.returnType = none) (h_X6_here : zMet la yX6_here wsX6_here rm_X6_here 0 0 sp_X6_here) (h_X6_in : zMet la yX6_in wsX6_in rm_X6_in 0 0 sp_X6_in) : zS p la e (rm_X6_step) s m args below meth c (MQ below (zQ D b (n0 + 0) P) args s 0 0 (fun q => b ≤ q)) 2 D b n0 217 (B_X6_step_217 b n0 cy P (zAt p la e (rm_X6_step) s m args below meth c (MQ below (zQ D b (n0 + 0) P) args s 0 0 (fun q => b ≤ q)) 2 D b n0)) := by
  unfold B_X6_step_217
  exact (s_iconst X dX6_step_217 (by decide) (s_goto X dX6_step_218 (by decide) (S_X6_step_222 la X hr h_X6_here h_X6_in)))
set_option maxRecDepth 100000 in
set_option maxHeartbeats 4000000 in
theorem S_X6_step_172 {p : Program} {e : Env} {s : State} {m : MethodId} {args : Array Value} {below : List Frame} {meth : Method} {c : Code} {D : va_G} {cy : zY} {b n0 : Nat} {P : zPo} (la : Launch) (X : zX p la e (rm_X6_step) s m args below meth c 2 D cy b n0 cX6_step wsX6_step RX6) (hr : meth.sig.returnType = none) (h_X6_here : zMet la yX6_here wsX6_here rm_X6_here 0 0 sp_X6_here) (h_X6_in : zMet la yX6_in wsX6_in rm_X6_in 0 0 sp_X6_in) : zS p la e (rm_X6_step) s m args below meth c (MQ below (zQ D b (n0 + 0) P) args s 0 0 (fun q => b ≤ q)) 2 D b n0 172 (B_X6_step_172 b n0 cy P (zAt p la e (rm_X6_step) s m args below meth c (MQ below (zQ D b (n0 + 0) P) args s 0 0 (fun q => b ≤ q)) 2 D b n0)) := by
  unfold B_X6_step_172
  exact (s_put X dX6_step_172 rfl k_X6_step_6 tyX6_ok nmX6 (by decide) f_X6_step_72 rfl (tyX6_ok 12 (by decide)) zok_int (s_aload_n X dX6_step_175 rfl (s_dup X dX6_step_176 (s_get X dX6_step_177 rfl k_X6_step_6 (by decide) f_X6_step_62 (s_iconst X dX6_step_180 (by decide) (s_iadd X dX6_step_181 (s_put X dX6_step_182 rfl k_X6_step_6 tyX6_ok nmX6 (by decide) f_X6_step_62 rfl (tyX6_ok 9 (by decide)) zok_int (s_goto X dX6_step_185 (by decide) (s_cut (by decide) zS_at)))))))))
set_option maxRecDepth 100000 in
set_option maxHeartbeats 4000000 in
theorem S_X6_step_126 {p : Program} {e : Env} {s : State} {m : MethodId} {args : Array Value} {below : List Frame} {meth : Method} {c : Code} {D : va_G} {cy : zY} {b n0 : Nat} {P : zPo} (la : Launch) (X : zX p la e (rm_X6_step) s m args below meth c 2 D cy b n0 cX6_step wsX6_step RX6) (hr : meth.sig.returnType = none) (h_X6_here : zMet la yX6_here wsX6_here rm_X6_here 0 0 sp_X6_here) (h_X6_in : zMet la yX6_in wsX6_in rm_X6_in 0 0 sp_X6_in) : zS p la e (rm_X6_step) s m args below meth c (MQ below (zQ D b (n0 + 0) P) args s 0 0 (fun q => b ≤ q)) 2 D b n0 126 (B_X6_step_126 b n0 cy P (zAt p la e (rm_X6_step) s m args below meth c (MQ below (zQ D b (n0 + 0) P) args s 0 0 (fun q => b ≤ q)) 2 D b n0)) := by
  unfold B_X6_step_126
  exact (s_aload_n X dX6_step_126 rfl (s_callV X h_X6_here dX6_step_127 rfl gX6_step_X6_here rfl rfl rfl (by decide +kernel) ⟨by decide, by decide⟩ (s_bipush X dX6_step_130 (by decide) (s_bipush X dX6_step_132 (by decide) (s_callS X h_X6_in dX6_step_134 gX6_step_X6_in rfl rfl rfl (by decide +kernel) ⟨by decide, by decide⟩ (s_if_eq X dX6_step_137 (by decide) (s_aload_n X dX6_step_188 rfl (s_aload_n X dX6_step_189 rfl (s_get X dX6_step_190 rfl k_X6_step_6 (by decide) f_X6_step_72 (s_bipush X dX6_step_193 (by decide) (s_icmp_gt X dX6_step_195 (by decide) (S_X6_step_217 la X hr h_X6_here h_X6_in) (s_iload_n X dX6_step_198 rfl (s_bipush X dX6_step_199 (by decide) (s_icmp_ne X dX6_step_201 (by decide) (S_X6_step_221 la X hr h_X6_here h_X6_in) (s_aload_n X dX6_step_204 rfl (s_get X dX6_step_205 rfl k_X6_step_6 (by decide) f_X6_step_62 (s_aload_n X dX6_step_208 rfl (s_get X dX6_step_209 rfl k_X6_step_6 (by decide) f_X6_step_69 (s_isub X dX6_step_212 (s_iconst X dX6_step_213 (by decide) (s_icmp_le X dX6_step_214 (by decide) (S_X6_step_221 la X hr h_X6_here h_X6_in) (S_X6_step_217 la X hr h_X6_here h_X6_in)))))))))))))))) (s_aload_n X dX6_step_140 rfl (s_aload_n X dX6_step_141 rfl (s_get X dX6_step_142 rfl k_X6_step_6 (by decide) f_X6_step_72 (s_bipush X dX6_step_145 (by decide) (s_icmp_le X dX6_step_147 (by decide) (s_bipush X dX6_step_157 (by decide) (s_aload_n X dX6_step_159 rfl (s_get X dX6_step_160 rfl k_X6_step_6 (by decide) f_X6_step_72 (s_imul X dX6_step_163 (s_aload_n X dX6_step_164 rfl (s_callV X h_X6_here dX6_step_165 rfl gX6_step_X6_here rfl rfl rfl (by decide +kernel) ⟨by decide, by decide⟩ (s_iadd X dX6_step_168 (s_bipush X dX6_step_169 (by decide) (s_isub X dX6_step_171 (S_X6_step_172 la X hr h_X6_here h_X6_in)))))))))) (s_aload_n X dX6_step_150 rfl (s_get X dX6_step_151 rfl k_X6_step_6 (by decide) f_X6_step_72 (s_goto X dX6_step_154 (by decide) (S_X6_step_172 la X hr h_X6_here h_X6_in)))))))))))))))
set_option maxRecDepth 100000 in
set_option maxHeartbeats 4000000 in
theorem S_X6_step_109 {p : Program} {e : Env} {s : State} {m : MethodId} {args : Array Value} {below : List Frame} {meth : Method} {c : Code} {D : va_G} {cy : zY} {b n0 : Nat} {P : zPo} (la : Launch) (X : zX p la e (rm_X6_step) s m args below meth c 2 D cy b n0 cX6_step wsX6_step RX6) (hr : meth.sig.returnType = none) (h_X6_here : zMet la yX6_here wsX6_here rm_X6_here 0 0 sp_X6_here) (h_X6_in : zMet la yX6_in wsX6_in rm_X6_in 0 0 sp_X6_in) : zS p la e (rm_X6_step) s m args below meth c (MQ below (zQ D b (n0 + 0) P) args s 0 0 (fun q => b ≤ q)) 2 D b n0 109 (B_X6_step_109 b n0 cy P (zAt p la e (rm_X6_step) s m args below meth c (MQ below (zQ D b (n0 + 0) P) args s 0 0 (fun q => b ≤ q)) 2 D b n0)) := by
  unfold B_X6_step_109
  exact (s_put X dX6_step_109 rfl k_X6_step_6 tyX6_ok nmX6 (by decide) f_X6_step_75 rfl (tyX6_ok 11 (by decide)) zok_int (s_goto X dX6_step_112 (by decide) (S_X6_step_253 la X hr h_X6_here h_X6_in)))
set_option maxRecDepth 100000 in
set_option maxHeartbeats 4000000 in
theorem S_X6_step_63 {p : Program} {e : Env} {s : State} {m : MethodId} {args : Array Value} {below : List Frame} {meth : Method} {c : Code} {D : va_G} {cy : zY} {b n0 : Nat} {P : zPo} (la : Launch) (X : zX p la e (rm_X6_step) s m args below meth c 2 D cy b n0 cX6_step wsX6_step RX6) (hr : meth.sig.returnType = none) (h_X6_here : zMet la yX6_here wsX6_here rm_X6_here 0 0 sp_X6_here) (h_X6_in : zMet la yX6_in wsX6_in rm_X6_in 0 0 sp_X6_in) : zS p la e (rm_X6_step) s m args below meth c (MQ below (zQ D b (n0 + 0) P) args s 0 0 (fun q => b ≤ q)) 2 D b n0 63 (B_X6_step_63 b n0 cy P (zAt p la e (rm_X6_step) s m args below meth c (MQ below (zQ D b (n0 + 0) P) args s 0 0 (fun q => b ≤ q)) 2 D b n0)) := by
  unfold B_X6_step_63
  exact (s_aload_n X dX6_step_63 rfl (s_callV X h_X6_here dX6_step_64 rfl gX6_step_X6_here rfl rfl rfl (by decide +kernel) ⟨by decide, by decide⟩ (s_bipush X dX6_step_67 (by decide) (s_bipush X dX6_step_69 (by decide) (s_callS X h_X6_in dX6_step_71 gX6_step_X6_in rfl rfl rfl (by decide +kernel) ⟨by decide, by decide⟩ (s_if_eq X dX6_step_74 (by decide) (s_aload_n X dX6_step_90 rfl (s_aload_n X dX6_step_91 rfl (s_get X dX6_step_92 rfl k_X6_step_6 (by decide) f_X6_step_62 (s_aload_n X dX6_step_95 rfl (s_get X dX6_step_96 rfl k_X6_step_6 (by decide) f_X6_step_69 (s_isub X dX6_step_99 (s_iconst X dX6_step_100 (by decide) (s_icmp_ne X dX6_step_101 (by decide) (s_iconst X dX6_step_108 (by decide) (S_X6_step_109 la X hr h_X6_here h_X6_in)) (s_iload_n X dX6_step_104 rfl (s_goto X dX6_step_105 (by decide) (S_X6_step_109 la X hr h_X6_here h_X6_in))))))))))) (s_aload_n X dX6_step_77 rfl (s_dup X dX6_step_78 (s_get X dX6_step_79 rfl k_X6_step_6 (by decide) f_X6_step_62 (s_iconst X dX6_step_82 (by decide) (s_iadd X dX6_step_83 (s_put X dX6_step_84 rfl k_X6_step_6 tyX6_ok nmX6 (by decide) f_X6_step_62 rfl (tyX6_ok 9 (by decide)) zok_int (s_goto X dX6_step_87 (by decide) (s_cut (by decide) zS_at))))))))))))))
set_option maxRecDepth 100000 in
set_option maxHeartbeats 4000000 in
theorem S_X6_step_0 {p : Program} {e : Env} {s : State} {m : MethodId} {args : Array Value} {below : List Frame} {meth : Method} {c : Code} {D : va_G} {cy : zY} {b n0 : Nat} {P : zPo} (la : Launch) (X : zX p la e (rm_X6_step) s m args below meth c 2 D cy b n0 cX6_step wsX6_step RX6) (hr : meth.sig.returnType = none) (h_X6_here : zMet la yX6_here wsX6_here rm_X6_here 0 0 sp_X6_here) (h_X6_in : zMet la yX6_in wsX6_in rm_X6_in 0 0 sp_X6_in) : zS p la e (rm_X6_step) s m args below meth c (MQ below (zQ D b (n0 + 0) P) args s 0 0 (fun q => b ≤ q)) 2 D b n0 0 (B_X6_step_0 b n0 cy P (zAt p la e (rm_X6_step) s m args below meth c (MQ below (zQ D b (n0 + 0) P) args s 0 0 (fun q => b ≤ q)) 2 D b n0)) := by
  unfold B_X6_step_0
  exact (s_aload_n X dX6_step_0 rfl (s_callV X h_X6_here dX6_step_1 rfl gX6_step_X6_here rfl rfl rfl (by decide +kernel) ⟨by decide, by decide⟩ (s_bipush X dX6_step_4 (by decide) (s_icmp_ne X dX6_step_6 (by decide) (s_aload_n X dX6_step_22 rfl (s_aload_n X dX6_step_23 rfl (s_get X dX6_step_24 rfl k_X6_step_6 (by decide) f_X6_step_62 (s_put X dX6_step_27 rfl k_X6_step_6 tyX6_ok nmX6 (by decide) f_X6_step_69 rfl (tyX6_ok 10 (by decide)) zok_int (s_aload_n X dX6_step_30 rfl (s_iconst X dX6_step_31 (by decide) (s_put X dX6_step_32 rfl k_X6_step_6 tyX6_ok nmX6 (by decide) f_X6_step_72 rfl (tyX6_ok 12 (by decide)) zok_int (s_aload_n X dX6_step_35 rfl (s_callV X h_X6_here dX6_step_36 rfl gX6_step_X6_here rfl rfl rfl (by decide +kernel) ⟨by decide, by decide⟩ (s_istore_n X dX6_step_39 rfl (by decide) (s_iload_n X dX6_step_40 rfl (s_if_ge X dX6_step_41 (by decide) (s_iload_n X dX6_step_52 rfl (s_bipush X dX6_step_53 (by decide) (s_bipush X dX6_step_55 (by decide) (s_callS X h_X6_in dX6_step_57 gX6_step_X6_in rfl rfl rfl (by decide +kernel) ⟨by decide, by decide⟩ (s_if_eq X dX6_step_60 (by decide) (s_iload_n X dX6_step_115 rfl (s_bipush X dX6_step_116 (by decide) (s_bipush X dX6_step_118 (by decide) (s_callS X h_X6_in dX6_step_120 gX6_step_X6_in rfl rfl rfl (by decide +kernel) ⟨by decide, by decide⟩ (s_if_eq X dX6_step_123 (by decide) (s_aload_n X dX6_step_228 rfl (s_dup X dX6_step_229 (s_get X dX6_step_230 rfl k_X6_step_6 (by decide) f_X6_step_62 (s_iconst X dX6_step_233 (by decide) (s_iadd X dX6_step_234 (s_put X dX6_step_235 rfl k_X6_step_6 tyX6_ok nmX6 (by decide) f_X6_step_62 rfl (tyX6_ok 9 (by decide)) zok_int (s_aload_n X dX6_step_238 rfl (s_iload_n X dX6_step_239 rfl (s_bipush X dX6_step_240 (by decide) (s_icmp_ne X dX6_step_242 (by decide) (s_iconst X dX6_step_249 (by decide) (S_X6_step_250 la X hr h_X6_here h_X6_in)) (s_iconst X dX6_step_245 (by decide) (s_goto X dX6_step_246 (by decide) (S_X6_step_250 la X hr h_X6_here h_X6_in))))))))))))) (s_cut (by decide) zS_at)))))) (s_cut (by decide) zS_at)))))) (s_aload_n X dX6_step_44 rfl (s_iconst X dX6_step_45 (by decide) (s_put X dX6_step_46 rfl k_X6_step_6 tyX6_ok nmX6 (by decide) f_X6_step_75 rfl (tyX6_ok 11 (by decide)) zok_int (s_goto X dX6_step_49 (by decide) (S_X6_step_253 la X hr h_X6_here h_X6_in))))))))))))))))) (s_aload_n X dX6_step_9 rfl (s_dup X dX6_step_10 (s_get X dX6_step_11 rfl k_X6_step_6 (by decide) f_X6_step_62 (s_iconst X dX6_step_14 (by decide) (s_iadd X dX6_step_15 (s_put X dX6_step_16 rfl k_X6_step_6 tyX6_ok nmX6 (by decide) f_X6_step_62 rfl (tyX6_ok 9 (by decide)) zok_int (s_goto X dX6_step_19 (by decide) (s_cut (by decide) zS_at))))))))))))
theorem w_X6_step (la : Launch) (h_X6_here : zMet la yX6_here wsX6_here rm_X6_here 0 0 sp_X6_here) (h_X6_in : zMet la yX6_in wsX6_in rm_X6_in 0 0 sp_X6_in) (sp : zSp) (vc : zVC_X6_step sp) : zMet la yX6_step wsX6_step (rm_X6_step) 0 0 sp :=
  z_of (cc := cX6_step) (maxL := 2) (ret := none) (by decide +kernel) rfl (fun p e s m args below meth c D cy b n as E P hsp X hr hin => by
    obtain ⟨h1, h2⟩ := vc b cy n as E P (zAt p la e (rm_X6_step) s m args below meth c (MQ below (zQ D b (n + 0) P) args s 0 0 (fun q => b ≤ q)) 2 D b n) (fun _ _ _ _ _ q => S_X6_step_0 la X hr h_X6_here h_X6_in _ _ _ _ _ q) (fun _ _ _ _ _ q => S_X6_step_63 la X hr h_X6_here h_X6_in _ _ _ _ _ q) (fun _ _ _ _ _ q => S_X6_step_126 la X hr h_X6_here h_X6_in _ _ _ _ _ q) hsp
    exact ⟨h1, S_X6_step_0 la X hr h_X6_here h_X6_in _ _ _ _ _ h2⟩)

theorem m_X6_step (la : Launch) : zMet la yX6_step wsX6_step rm_X6_step 0 0 sp_X6_step := w_X6_step la (m_X6_here la) (m_X6_in la) _ vc_X6_step

