/-! the other one: BellCarsModel at place 159 -/
def zM0 (b : Nat) (tr : Int64) (ty lt q st so va fa se : Int32) : va_E := .inr (6, [.long tr, .ref (b + 160), .int ty, .ref (b + 161), .ref (b + 162), .ref (b + 163), .ref (b + 164), .ref (b + 165), .int lt, .int q, .int st, .int so, .int va, .int fa, .ref (b + 166), .ref (b + 167), .ref (b + 168), .ref (b + 169), .ref (b + 170), .ref (b + 171), .int se])
/-- from place o on stands the moment c -/
def zCm (f : Nat → Int32) (o n : Nat) (c : Nat → Nat) : Prop := (∀ j, j < 4 → f (o + j) = nI (c j)) ∧ (∀ j, j < n → f (o + (4 + j)) = nI (c (4 + j))) ∧ (∀ j, j < 6 → f (o + (10 + j)) = zdn (c (10 + j))) ∧ (∀ j, j < 36 → f (o + (16 + j)) = nI (c (16 + j)))
def zAr (cy : zY) (E : zE) (i n : Nat) (c : Nat → Nat) : Prop := ∃ (L : Nat) (f : Nat → Int32), 52 ≤ L ∧ L ≤ 1719 ∧ E i = .inl (cy 1, L, .inl f) ∧ zCm f 0 n c
def zMR (b : Nat) (cy : zY) (N : Nat) (E : zE) (n : Nat) (lo la : Nat → Nat) : Prop := (∃ (tr : Int64) (ty lt q st so va fa se : Int32), E 159 = zM0 b tr ty lt q st so va fa se) ∧ (∃ f : Nat → Int32, E 161 = .inl (cy 1, 2, .inl f) ∧ f 0 = nI n) ∧ (∃ f : Nat → Int32, E 163 = .inl (cy 1, 12, .inl f) ∧ ∀ j, j < n → f j = nI (lo j)) ∧ (∃ f : Nat → Int32, E 164 = .inl (cy 1, 12, .inl f) ∧ ∀ j, j < n → f j = nI (la j)) ∧ n ≤ 6 ∧ (∀ j, j < n → lo j ≤ 9 ∧ la j ≤ 2) ∧ 172 ≤ N
theorem zAr.congr {cy : zY} {E E' : zE} {i n : Nat} {c : Nat → Nat} (h : zAr cy E i n c) (hE : E' i = E i) : zAr cy E' i n c := by
  obtain ⟨L, f, h1, h2, h3, h4⟩ := h
  exact ⟨L, f, h1, h2, by rw [hE]; exact h3, h4⟩
theorem zMR.congr {b : Nat} {cy : zY} {N : Nat} {E E' : zE} {n : Nat} {lo la : Nat → Nat} (h : zMR b cy N E n lo la) (h1 : E' 159 = E 159) (h2 : E' 161 = E 161) (h3 : E' 163 = E 163) (h4 : E' 164 = E 164) : zMR b cy N E' n lo la := by
  unfold zMR at *
  rw [h1, h2, h3, h4]; exact h
def sp_X6_in : zSp := fun _ _ as _ E P => ∃ x lo hi : Int32, as = [.int x, .int lo, .int hi] ∧ P (some (.int (if ¬ x < lo ∧ ¬ hi < x then 1 else 0))) E
abbrev rm_X6_in : Room := { frames := 1, cells := 0, slots := 0, locals := 40 }
def B_X6_in_15 (b n0 : Nat) (cy : zY) (P : zPo) (A : Nat → zC) : zC :=
  z_zret 0 0 P
def B_X6_in_14 (b n0 : Nat) (cy : zY) (P : zPo) (A : Nat → zC) : zC :=
  z_const (0) (B_X6_in_15 b n0 cy P A)
def B_X6_in_0 (b n0 : Nat) (cy : zY) (P : zPo) (A : Nat → zC) : zC :=
  z_iload 0 (z_iload 1 (z_icmp (fun x y => x < y) (B_X6_in_14 b n0 cy P A) (z_iload 0 (z_iload 2 (z_icmp (fun x y => y < x) (B_X6_in_14 b n0 cy P A) (z_const (1) (B_X6_in_15 b n0 cy P A)))))))
def zVC_X6_in (sp : zSp) : Prop := ∀ (b : Nat) (cy : zY) (n : Nat) (as : List Value) (E : zE) (P : zPo) (A : Nat → zC), sp b cy as n E P → zgood as 3 ∧ B_X6_in_0 b n cy P A (lv_args 0 as) [] 0 0 E

set_option maxRecDepth 100000 in
set_option maxHeartbeats 4000000 in
theorem vc_X6_in : zVC_X6_in sp_X6_in := by
  intro b cy N as E P A hsp
  obtain ⟨x, lo, hi, rfl, hP⟩ := hsp
  refine ⟨⟨Nat.le_of_ble_eq_true rfl, zg1 rfl (zg1 rfl (zg1 rfl (zg0)))⟩, ?_⟩
  simp only [B_X6_in_0, B_X6_in_14, B_X6_in_15, e_cut, e_iload, e_aload, e_istore, e_astore, e_iinc, e_const, e_lconst, e_bin, e_bin0, e_un, e_ladd, e_dupi, e_dupr, e_dup2, e_pop, e_if, e_icmp, e_sw, e_sw0, e_sw1, e_get, e_put, e_ald, e_ast, e_aald, e_aast, e_copy, e_new, e_newa, e_anewa, e_min, e_abs, e_oinit, e_callI, e_callV, e_callS, e_iret, e_zret, e_lret, e_vret, e_tl1, e_tl0, e_tl2, e_tl3, z10, Bool.false_eq_true, e_argi, e_argr, e_argn, zld_c, zst_n, zst_c, zpick_n, zpick_c, List.drop_succ_cons, List.drop_zero, List.take_succ_cons, List.take_zero, List.length_cons, List.length_nil, List.reverse_cons, List.reverse_nil, List.nil_append, List.cons_append, List.append_nil, List.getElem?_cons_zero, List.getElem?_cons_succ, List.set_cons_zero, List.set_cons_succ, Nat.add_sub_cancel_left, Nat.sub_self, Nat.add_zero, Nat.zero_add, Nat.le_add_right, Nat.le_refl, true_and, and_true, va_rf, zok, Nat.add_left_cancel_iff, Nat.add_eq_left, Nat.left_eq_add, eq_self, if_true, if_false, not_false_eq_true, not_true_eq_false, false_implies, true_implies, Nat.reduceEqDiff, Nat.reduceAdd, Nat.reduceLT, Nat.reduceLeDiff, reduceIte]
  refine ⟨fun c1 => ?_, fun c1 => ⟨fun c2 => ?_, fun c2 => ?_⟩⟩
  · rw [if_neg (fun h => h.1 c1)] at hP; exact ⟨Or.inl trivial, hP⟩
  · rw [if_neg (fun h => h.2 c2)] at hP; exact ⟨Or.inl trivial, hP⟩
  · rw [if_pos ⟨c1, c2⟩] at hP; exact ⟨Or.inr trivial, hP⟩
set_option maxRecDepth 100000 in
set_option maxHeartbeats 4000000 in
theorem S_X6_in_15 {p : Program} {e : Env} {s : State} {m : MethodId} {args : Array Value} {below : List Frame} {meth : Method} {c : Code} {D : va_G} {cy : zY} {b n0 : Nat} {P : zPo} (la : Launch) (X : zX p la e (rm_X6_in) s m args below meth c 3 D cy b n0 cX6_in wsX6_in RX6) (hr : meth.sig.returnType = (some .boolean)) : zS p la e (rm_X6_in) s m args below meth c (MQ below (zQ D b (n0 + 0) P) args s 0 0 (fun q => b ≤ q)) 3 D b n0 15 (B_X6_in_15 b n0 cy P (zAt p la e (rm_X6_in) s m args below meth c (MQ below (zQ D b (n0 + 0) P) args s 0 0 (fun q => b ≤ q)) 3 D b n0)) := by
  unfold B_X6_in_15
  exact (s_zret X dX6_in_15 hr)
set_option maxRecDepth 100000 in
set_option maxHeartbeats 4000000 in
theorem S_X6_in_14 {p : Program} {e : Env} {s : State} {m : MethodId} {args : Array Value} {below : List Frame} {meth : Method} {c : Code} {D : va_G} {cy : zY} {b n0 : Nat} {P : zPo} (la : Launch) (X : zX p la e (rm_X6_in) s m args below meth c 3 D cy b n0 cX6_in wsX6_in RX6) (hr : meth.sig.returnType = (some .boolean)) : zS p la e (rm_X6_in) s m args below meth c (MQ below (zQ D b (n0 + 0) P) args s 0 0 (fun q => b ≤ q)) 3 D b n0 14 (B_X6_in_14 b n0 cy P (zAt p la e (rm_X6_in) s m args below meth c (MQ below (zQ D b (n0 + 0) P) args s 0 0 (fun q => b ≤ q)) 3 D b n0)) := by
  unfold B_X6_in_14
  exact (s_iconst X dX6_in_14 (by decide) (S_X6_in_15 la X hr))
set_option maxRecDepth 100000 in
set_option maxHeartbeats 4000000 in
theorem S_X6_in_0 {p : Program} {e : Env} {s : State} {m : MethodId} {args : Array Value} {below : List Frame} {meth : Method} {c : Code} {D : va_G} {cy : zY} {b n0 : Nat} {P : zPo} (la : Launch) (X : zX p la e (rm_X6_in) s m args below meth c 3 D cy b n0 cX6_in wsX6_in RX6) (hr : meth.sig.returnType = (some .boolean)) : zS p la e (rm_X6_in) s m args below meth c (MQ below (zQ D b (n0 + 0) P) args s 0 0 (fun q => b ≤ q)) 3 D b n0 0 (B_X6_in_0 b n0 cy P (zAt p la e (rm_X6_in) s m args below meth c (MQ below (zQ D b (n0 + 0) P) args s 0 0 (fun q => b ≤ q)) 3 D b n0)) := by
  unfold B_X6_in_0
  exact (s_iload_n X dX6_in_0 rfl (s_iload_n X dX6_in_1 rfl (s_icmp_lt X dX6_in_2 (by decide) (S_X6_in_14 la X hr) (s_iload_n X dX6_in_5 rfl (s_iload_n X dX6_in_6 rfl (s_icmp_gt X dX6_in_7 (by decide) (S_X6_in_14 la X hr) (s_iconst X dX6_in_10 (by decide) (s_goto X dX6_in_11 (by decide) (S_X6_in_15 la X hr)))))))))
theorem w_X6_in (la : Launch) (sp : zSp) (vc : zVC_X6_in sp) : zMet la yX6_in wsX6_in (rm_X6_in) 0 0 sp :=
  z_of (cc := cX6_in) (maxL := 3) (ret := (some .boolean)) (by decide +kernel) rfl (fun p e s m args below meth c D cy b n as E P hsp X hr hin => by
    obtain ⟨h1, h2⟩ := vc b cy n as E P (zAt p la e (rm_X6_in) s m args below meth c (MQ below (zQ D b (n + 0) P) args s 0 0 (fun q => b ≤ q)) 3 D b n) hsp
    exact ⟨h1, S_X6_in_0 la X hr _ _ _ _ _ h2⟩)

theorem m_X6_in (la : Launch) : zMet la yX6_in wsX6_in rm_X6_in 0 0 sp_X6_in := w_X6_in la _ vc_X6_in
def sp_X6_isAboard : zSp := fun b cy as N E P => ∃ (i r n : Nat) (c : Nat → Nat), as = [.ref (b + 159), .ref (b + i), .int (nI r)] ∧ zAr cy E i n c ∧ i < N ∧ r < 6 ∧ c 1 < 64 ∧ P (some (.int (if (c 1).testBit r then 1 else 0))) E
abbrev rm_X6_isAboard : Room := { frames := 1, cells := 0, slots := 0, locals := 40 }
def B_X6_isAboard_16 (b n0 : Nat) (cy : zY) (P : zPo) (A : Nat → zC) : zC :=
  z_zret 0 0 P
def B_X6_isAboard_0 (b n0 : Nat) (cy : zY) (P : zPo) (A : Nat → zC) : zC :=
  z_aload 1 (z_const (1) (z_ald b n0 (cy 1) (z_iload 2 (z_bin (fun x y => x >>> (y &&& 31)) (z_const (1) (z_bin (fun x y => x &&& y) (z_const (1) (z_icmp (fun x y => x = y) (z_const (1) (B_X6_isAboard_16 b n0 cy P A)) (z_const (0) (B_X6_isAboard_16 b n0 cy P A))))))))))
def zVC_X6_isAboard (sp : zSp) : Prop := ∀ (b : Nat) (cy : zY) (n : Nat) (as : List Value) (E : zE) (P : zPo) (A : Nat → zC), sp b cy as n E P → zgood as 3 ∧ B_X6_isAboard_0 b n cy P A (lv_args 0 as) [] 0 0 E

set_option maxRecDepth 100000 in
set_option maxHeartbeats 4000000 in
theorem vc_X6_isAboard : zVC_X6_isAboard sp_X6_isAboard := by
  intro b cy N as E P A hsp
  obtain ⟨i, r, n, c, rfl, ⟨L, f, hL, hL2, hE, hc⟩, hi, hr, h64, hP⟩ := hsp
  refine ⟨⟨Nat.le_of_ble_eq_true rfl, zg1 rfl (zg1 rfl (zg1 rfl (zg0)))⟩, ?_⟩
  have hin : vp_in 1 L := (vp_in_nI (show 1 < L by omega) (by omega) : vp_in (nI 1) L)
  have hcl : (1 : Int32).toNatClampNeg = 1 := by decide
  have hv : f 1 = nI (c 1) := by have := hc.1 1 (by omega); rwa [Nat.zero_add] at this
  simp only [B_X6_isAboard_0, B_X6_isAboard_16, e_cut, e_iload, e_aload, e_istore, e_astore, e_iinc, e_const, e_lconst, e_bin, e_bin0, e_un, e_ladd, e_dupi, e_dupr, e_dup2, e_pop, e_if, e_icmp, e_sw, e_sw0, e_sw1, e_get, e_put, e_ald, e_ast, e_aald, e_aast, e_copy, e_new, e_newa, e_anewa, e_min, e_abs, e_oinit, e_callI, e_callV, e_callS, e_iret, e_zret, e_lret, e_vret, e_tl1, e_tl0, e_tl2, e_tl3, z10, Bool.false_eq_true, e_argi, e_argr, e_argn, zld_c, zst_n, zst_c, zpick_n, zpick_c, List.drop_succ_cons, List.drop_zero, List.take_succ_cons, List.take_zero, List.length_cons, List.length_nil, List.reverse_cons, List.reverse_nil, List.nil_append, List.cons_append, List.append_nil, List.getElem?_cons_zero, List.getElem?_cons_succ, List.set_cons_zero, List.set_cons_succ, Nat.add_sub_cancel_left, Nat.sub_self, Nat.add_zero, Nat.zero_add, Nat.le_add_right, Nat.le_refl, true_and, and_true, va_rf, zok, Nat.add_left_cancel_iff, Nat.add_eq_left, Nat.left_eq_add, eq_self, if_true, if_false, not_false_eq_true, not_true_eq_false, false_implies, true_implies, Nat.reduceEqDiff, Nat.reduceAdd, Nat.reduceLT, Nat.reduceLeDiff, reduceIte, hE, hi, hin, hcl, hv, zbit h64 hr]
  cases ht : (c 1).testBit r <;> simp [ht] at hP ⊢ <;> exact hP
set_option maxRecDepth 100000 in
set_option maxHeartbeats 4000000 in
theorem S_X6_isAboard_16 {p : Program} {e : Env} {s : State} {m : MethodId} {args : Array Value} {below : List Frame} {meth : Method} {c : Code} {D : va_G} {cy : zY} {b n0 : Nat} {P : zPo} (la : Launch) (X : zX p la e (rm_X6_isAboard) s m args below meth c 3 D cy b n0 cX6_isAboard wsX6_isAboard RX6) (hr : meth.sig.returnType = (some .boolean)) : zS p la e (rm_X6_isAboard) s m args below meth c (MQ below (zQ D b (n0 + 0) P) args s 0 0 (fun q => b ≤ q)) 3 D b n0 16 (B_X6_isAboard_16 b n0 cy P (zAt p la e (rm_X6_isAboard) s m args below meth c (MQ below (zQ D b (n0 + 0) P) args s 0 0 (fun q => b ≤ q)) 3 D b n0)) := by
  unfold B_X6_isAboard_16
  exact (s_zret X dX6_isAboard_16 hr)
set_option maxRecDepth 100000 in
set_option maxHeartbeats 4000000 in
theorem S_X6_isAboard_0 {p : Program} {e : Env} {s : State} {m : MethodId} {args : Array Value} {below : List Frame} {meth : Method} {c : Code} {D : va_G} {cy : zY} {b n0 : Nat} {P : zPo} (la : Launch) (X : zX p la e (rm_X6_isAboard) s m args below meth c 3 D cy b n0 cX6_isAboard wsX6_isAboard RX6) (hr : meth.sig.returnType = (some .boolean)) : zS p la e (rm_X6_isAboard) s m args below meth c (MQ below (zQ D b (n0 + 0) P) args s 0 0 (fun q => b ≤ q)) 3 D b n0 0 (B_X6_isAboard_0 b n0 cy P (zAt p la e (rm_X6_isAboard) s m args below meth c (MQ below (zQ D b (n0 + 0) P) args s 0 0 (fun q => b ≤ q)) 3 D b n0)) := by
  unfold B_X6_isAboard_0
  exact (s_aload_n X dX6_isAboard_0 rfl (s_iconst X dX6_isAboard_1 (by decide) (s_iald X dX6_isAboard_2 (s_iload_n X dX6_isAboard_3 rfl (s_ishr X dX6_isAboard_4 (s_iconst X dX6_isAboard_5 (by decide) (s_iand X dX6_isAboard_6 (s_iconst X dX6_isAboard_7 (by decide) (s_icmp_ne X dX6_isAboard_8 (by decide) (s_iconst X dX6_isAboard_15 (by decide) (S_X6_isAboard_16 la X hr)) (s_iconst X dX6_isAboard_11 (by decide) (s_goto X dX6_isAboard_12 (by decide) (S_X6_isAboard_16 la X hr))))))))))))
theorem w_X6_isAboard (la : Launch) (sp : zSp) (vc : zVC_X6_isAboard sp) : zMet la yX6_isAboard wsX6_isAboard (rm_X6_isAboard) 0 0 sp :=
  z_of (cc := cX6_isAboard) (maxL := 3) (ret := (some .boolean)) (by decide +kernel) rfl (fun p e s m args below meth c D cy b n as E P hsp X hr hin => by
    obtain ⟨h1, h2⟩ := vc b cy n as E P (zAt p la e (rm_X6_isAboard) s m args below meth c (MQ below (zQ D b (n + 0) P) args s 0 0 (fun q => b ≤ q)) 3 D b n) hsp
    exact ⟨h1, S_X6_isAboard_0 la X hr _ _ _ _ _ h2⟩)

theorem m_X6_isAboard (la : Launch) : zMet la yX6_isAboard wsX6_isAboard rm_X6_isAboard 0 0 sp_X6_isAboard := w_X6_isAboard la _ vc_X6_isAboard
theorem nI_m1 {n : Nat} {x : Int32} (hn : n < 1000) (hx : ¬ x < 0) : (¬ nI n - 1 < x) ↔ ¬ nI n ≤ x := by
  cases n with
  | zero =>
    have h1 : nI 0 - 1 = -1 := by decide
    rw [h1, fa_lt', fa_le']
    rw [fa_lt'] at hx
    have h2 : (-1 : Int32).toInt = -1 := by decide
    have h3 : (nI 0).toInt = 0 := by decide
    have h4 : (0 : Int32).toInt = 0 := by decide
    omega
  | succ n =>
    rw [nI_pred, fa_lt', fa_le', nI_toInt (by omega), nI_toInt (by omega)]
    omega
def sp_X6_isRider : zSp := fun b cy as N E P => ∃ (n : Nat) (lo la : Nat → Nat) (x : Int32), as = [.ref (b + 159), .int x] ∧ zMR b cy N E n lo la ∧ P (some (.int (if zisB n x = true then 1 else 0))) E
abbrev rm_X6_isRider : Room := { frames := 2, cells := 0, slots := 0, locals := 62 }
def B_X6_isRider_0 (b n0 : Nat) (cy : zY) (P : zPo) (A : Nat → zC) : zC :=
  z_iload 1 (z_const (0) (z_aload 0 (z_get b n0 6 3 (z_const (0) (z_ald b n0 (cy 1) (z_const (1) (z_bin (fun x y => x - y) (z_callS b n0 0 0 cy 3 0 0 sp_X6_in (z_zret 0 0 P)))))))))
def zVC_X6_isRider (sp : zSp) : Prop := ∀ (b : Nat) (cy : zY) (n : Nat) (as : List Value) (E : zE) (P : zPo) (A : Nat → zC), sp b cy as n E P → zgood as 2 ∧ B_X6_isRider_0 b n cy P A (lv_args 0 as) [] 0 0 E

set_option maxRecDepth 100000 in
set_option maxHeartbeats 4000000 in
theorem vc_X6_isRider : zVC_X6_isRider sp_X6_isRider := by
  intro b cy N as E P A hsp
  obtain ⟨n, lo, la, x, rfl, ⟨⟨tr, ty, lt, q, st, so, va, fa, se, e0⟩, ⟨f, e1, e1'⟩, _, _, hn, _, hN⟩, hP⟩ := hsp
  refine ⟨⟨Nat.le_of_ble_eq_true rfl, zg1 rfl (zg1 rfl (zg0))⟩, ?_⟩
  have N0 : 159 < N := by omega
  have N1 : 161 < N := by omega
  have hin : vp_in 0 2 := (vp_in_nI (show 0 < 2 by omega) (by omega) : vp_in (nI 0) 2)
  have hcl : (0 : Int32).toNatClampNeg = 0 := by decide
  simp only [B_X6_isRider_0, e_cut, e_iload, e_aload, e_istore, e_astore, e_iinc, e_const, e_lconst, e_bin, e_bin0, e_un, e_ladd, e_dupi, e_dupr, e_dup2, e_pop, e_if, e_icmp, e_sw, e_sw0, e_sw1, e_get, e_put, e_ald, e_ast, e_aald, e_aast, e_copy, e_new, e_newa, e_anewa, e_min, e_abs, e_oinit, e_callI, e_callV, e_callS, e_iret, e_zret, e_lret, e_vret, e_tl1, e_tl0, e_tl2, e_tl3, z10, Bool.false_eq_true, e_argi, e_argr, e_argn, zld_c, zst_n, zst_c, zpick_n, zpick_c, List.drop_succ_cons, List.drop_zero, List.take_succ_cons, List.take_zero, List.length_cons, List.length_nil, List.reverse_cons, List.reverse_nil, List.nil_append, List.cons_append, List.append_nil, List.getElem?_cons_zero, List.getElem?_cons_succ, List.set_cons_zero, List.set_cons_succ, Nat.add_sub_cancel_left, Nat.sub_self, Nat.add_zero, Nat.zero_add, Nat.le_add_right, Nat.le_refl, true_and, and_true, va_rf, zok, Nat.add_left_cancel_iff, Nat.add_eq_left, Nat.left_eq_add, eq_self, if_true, if_false, not_false_eq_true, not_true_eq_false, false_implies, true_implies, Nat.reduceEqDiff, Nat.reduceAdd, Nat.reduceLT, Nat.reduceLeDiff, reduceIte, zM0, e0, N0, N1, e1, e1', hin, hcl]
  refine ⟨x, 0, nI n - 1, rfl, ?_⟩
  simp only [e_cut, e_iload, e_aload, e_istore, e_astore, e_iinc, e_const, e_lconst, e_bin, e_bin0, e_un, e_ladd, e_dupi, e_dupr, e_dup2, e_pop, e_if, e_icmp, e_sw, e_sw0, e_sw1, e_get, e_put, e_ald, e_ast, e_aald, e_aast, e_copy, e_new, e_newa, e_anewa, e_min, e_abs, e_oinit, e_callI, e_callV, e_callS, e_iret, e_zret, e_lret, e_vret, e_tl1, e_tl0, e_tl2, e_tl3, z10, Bool.false_eq_true, e_argi, e_argr, e_argn, zld_c, zst_n, zst_c, zpick_n, zpick_c, List.drop_succ_cons, List.drop_zero, List.take_succ_cons, List.take_zero, List.length_cons, List.length_nil, List.reverse_cons, List.reverse_nil, List.nil_append, List.cons_append, List.append_nil, List.getElem?_cons_zero, List.getElem?_cons_succ, List.set_cons_zero, List.set_cons_succ, Nat.add_sub_cancel_left, Nat.sub_self, Nat.add_zero, Nat.zero_add, Nat.le_add_right, Nat.le_refl, true_and, and_true, va_rf, zok, Nat.add_left_cancel_iff, Nat.add_eq_left, Nat.left_eq_add, eq_self, if_true, if_false, not_false_eq_true, not_true_eq_false, false_implies, true_implies, Nat.reduceEqDiff, Nat.reduceAdd, Nat.reduceLT, Nat.reduceLeDiff, reduceIte]
  by_cases c1 : x < 0
  · rw [if_neg (zisB_f1 c1)] at hP
    rw [if_neg (fun h => h.1 c1)]
    exact ⟨Or.inl rfl, hP⟩
  · have h1 := nI_m1 (n := n) (by omega) c1
    by_cases c2 : nI n ≤ x
    · rw [if_neg (by simp [zisB, c2])] at hP
      rw [if_neg (fun h => absurd c2 (h1.mp h.2))]
      exact ⟨Or.inl rfl, hP⟩
    · rw [if_pos (by simp [zisB, c1, c2])] at hP
      rw [if_pos ⟨c1, h1.mpr c2⟩]
      exact ⟨Or.inr rfl, hP⟩
set_option maxRecDepth 20000 in
theorem f_X6_isRider_13 : Cond.fieldLink RX6 13 (TX6 3).1 (TX6 3).2.1 (TX6 3).2.2.1 ∈ wsX6_isRider := by decide +kernel
set_option maxRecDepth 20000 in
theorem k_X6_isRider_6 : ∀ w ∈ u_ws RX6 TX6 21, w ∈ wsX6_isRider := fun _ h => List.mem_cons_of_mem _ (List.mem_append_right _ h)
set_option maxRecDepth 100000 in
set_option maxHeartbeats 4000000 in
theorem S_X6_isRider_0 {p : Program} {e : Env} {s : State} {m : MethodId} {args : Array Value} {below : List Frame} {meth : Method} {c : Code} {D : va_G} {cy : zY} {b n0 : Nat} {P : zPo} (la : Launch) (X : zX p la e (rm_X6_isRider) s m args below meth c 2 D cy b n0 cX6_isRider wsX6_isRider RX6) (hr : meth.sig.returnType = (some .boolean)) (h_X6_in : zMet la yX6_in wsX6_in rm_X6_in 0 0 sp_X6_in) : zS p la e (rm_X6_isRider) s m args below meth c (MQ below (zQ D b (n0 + 0) P) args s 0 0 (fun q => b ≤ q)) 2 D b n0 0 (B_X6_isRider_0 b n0 cy P (zAt p la e (rm_X6_isRider) s m args below meth c (MQ below (zQ D b (n0 + 0) P) args s 0 0 (fun q => b ≤ q)) 2 D b n0)) := by
  unfold B_X6_isRider_0
  exact (s_iload_n X dX6_isRider_0 rfl (s_iconst X dX6_isRider_1 (by decide) (s_aload_n X dX6_isRider_2 rfl (s_get X dX6_isRider_3 rfl k_X6_isRider_6 (by decide) f_X6_isRider_13 (s_iconst X dX6_isRider_6 (by decide) (s_iald X dX6_isRider_7 (s_iconst X dX6_isRider_8 (by decide) (s_isub X dX6_isRider_9 (s_callS X h_X6_in dX6_isRider_10 gX6_isRider_X6_in rfl rfl rfl (by decide +kernel) ⟨by decide, by decide⟩ (s_zret X dX6_isRider_13 hr))))))))))
theorem w_X6_isRider (la : Launch) (h_X6_in : zMet la yX6_in wsX6_in rm_X6_in 0 0 sp_X6_in) (sp : zSp) (vc : zVC_X6_isRider sp) : zMet la yX6_isRider wsX6_isRider (rm_X6_isRider) 0 0 sp :=
  z_of (cc := cX6_isRider) (maxL := 2) (ret := (some .boolean)) (by decide +kernel) rfl (fun p e s m args below meth c D cy b n as E P hsp X hr hin => by
    obtain ⟨h1, h2⟩ := vc b cy n as E P (zAt p la e (rm_X6_isRider) s m args below meth c (MQ below (zQ D b (n + 0) P) args s 0 0 (fun q => b ≤ q)) 2 D b n) hsp
    exact ⟨h1, S_X6_isRider_0 la X hr h_X6_in _ _ _ _ _ h2⟩)

theorem m_X6_isRider (la : Launch) : zMet la yX6_isRider wsX6_isRider rm_X6_isRider 0 0 sp_X6_isRider := w_X6_isRider la (m_X6_in la) _ vc_X6_isRider
def sp_X6_isHere : zSp := fun b cy as N E P => ∃ (n : Nat) (lo la c : Nat → Nat) (x : Int32), as = [.ref (b + 159), .int x] ∧ zMR b cy N E n lo la ∧ zAr cy E 166 n c ∧ c 1 < 64 ∧ P (some (.int (if zisB n x = true ∧ (c 1).testBit (zcl x) = true then 1 else 0))) E
abbrev rm_X6_isHere : Room := { frames := 3, cells := 0, slots := 0, locals := 83 }
def B_X6_isHere_25 (b n0 : Nat) (cy : zY) (P : zPo) (A : Nat → zC) : zC :=
  z_zret 0 0 P
def B_X6_isHere_24 (b n0 : Nat) (cy : zY) (P : zPo) (A : Nat → zC) : zC :=
  z_const (0) (B_X6_isHere_25 b n0 cy P A)
def B_X6_isHere_0 (b n0 : Nat) (cy : zY) (P : zPo) (A : Nat → zC) : zC :=
  z_aload 0 (z_iload 1 (z_callV b n0 0 0 cy 6 1 0 0 sp_X6_isRider (z_if (fun x => x = 0) (B_X6_isHere_24 b n0 cy P A) (z_aload 0 (z_aload 0 (z_get b n0 6 14 (z_iload 1 (z_callV b n0 0 0 cy 6 2 0 0 sp_X6_isAboard (z_if (fun x => x = 0) (B_X6_isHere_24 b n0 cy P A) (z_const (1) (B_X6_isHere_25 b n0 cy P A)))))))))))
def zVC_X6_isHere (sp : zSp) : Prop := ∀ (b : Nat) (cy : zY) (n : Nat) (as : List Value) (E : zE) (P : zPo) (A : Nat → zC), sp b cy as n E P → zgood as 2 ∧ B_X6_isHere_0 b n cy P A (lv_args 0 as) [] 0 0 E

set_option maxRecDepth 100000 in
set_option maxHeartbeats 4000000 in
theorem vc_X6_isHere : zVC_X6_isHere sp_X6_isHere := by
  intro b cy N as E P A hsp
  obtain ⟨n, lo, la, c, x, rfl, hR, hA, h64, hP⟩ := hsp
  refine ⟨⟨Nat.le_of_ble_eq_true rfl, zg1 rfl (zg1 rfl (zg0))⟩, ?_⟩
  obtain ⟨⟨tr, ty, lt, q, st, so, va, fa, se, e0⟩, _, _, _, hn, _, hN⟩ := id hR
  have N0 : 159 < N := by omega
  simp only [B_X6_isHere_0, B_X6_isHere_24, B_X6_isHere_25, e_cut, e_iload, e_aload, e_istore, e_astore, e_iinc, e_const, e_lconst, e_bin, e_bin0, e_un, e_ladd, e_dupi, e_dupr, e_dup2, e_pop, e_if, e_icmp, e_sw, e_sw0, e_sw1, e_get, e_put, e_ald, e_ast, e_aald, e_aast, e_copy, e_new, e_newa, e_anewa, e_min, e_abs, e_oinit, e_callI, e_callV, e_callS, e_iret, e_zret, e_lret, e_vret, e_tl1, e_tl0, e_tl2, e_tl3, z10, Bool.false_eq_true, e_argi, e_argr, e_argn, zld_c, zst_n, zst_c, zpick_n, zpick_c, List.drop_succ_cons, List.drop_zero, List.take_succ_cons, List.take_zero, List.length_cons, List.length_nil, List.reverse_cons, List.reverse_nil, List.nil_append, List.cons_append, List.append_nil, List.getElem?_cons_zero, List.getElem?_cons_succ, List.set_cons_zero, List.set_cons_succ, Nat.add_sub_cancel_left, Nat.sub_self, Nat.add_zero, Nat.zero_add, Nat.le_add_right, Nat.le_refl, true_and, and_true, va_rf, zok, Nat.add_left_cancel_iff, Nat.add_eq_left, Nat.left_eq_add, eq_self, if_true, if_false, not_false_eq_true, not_true_eq_false, false_implies, true_implies, Nat.reduceEqDiff, Nat.reduceAdd, Nat.reduceLT, Nat.reduceLeDiff, reduceIte, zM0, e0, N0]
  refine ⟨n, lo, la, x, rfl, hR, ?_⟩
  by_cases q1 : zisB n x = true
  · obtain ⟨r, hr, rfl⟩ := zisB_u q1 (by omega)
    simp only [q1, zcl_i (show r < 2 ^ 31 by omega), true_and] at hP
    simp only [e_cut, e_iload, e_aload, e_istore, e_astore, e_iinc, e_const, e_lconst, e_bin, e_bin0, e_un, e_ladd, e_dupi, e_dupr, e_dup2, e_pop, e_if, e_icmp, e_sw, e_sw0, e_sw1, e_get, e_put, e_ald, e_ast, e_aald, e_aast, e_copy, e_new, e_newa, e_anewa, e_min, e_abs, e_oinit, e_callI, e_callV, e_callS, e_iret, e_zret, e_lret, e_vret, e_tl1, e_tl0, e_tl2, e_tl3, z10, Bool.false_eq_true, e_argi, e_argr, e_argn, zld_c, zst_n, zst_c, zpick_n, zpick_c, List.drop_succ_cons, List.drop_zero, List.take_succ_cons, List.take_zero, List.length_cons, List.length_nil, List.reverse_cons, List.reverse_nil, List.nil_append, List.cons_append, List.append_nil, List.getElem?_cons_zero, List.getElem?_cons_succ, List.set_cons_zero, List.set_cons_succ, Nat.add_sub_cancel_left, Nat.sub_self, Nat.add_zero, Nat.zero_add, Nat.le_add_right, Nat.le_refl, true_and, and_true, va_rf, zok, Nat.add_left_cancel_iff, Nat.add_eq_left, Nat.left_eq_add, eq_self, if_true, if_false, not_false_eq_true, not_true_eq_false, false_implies, true_implies, Nat.reduceEqDiff, Nat.reduceAdd, Nat.reduceLT, Nat.reduceLeDiff, reduceIte, q1, zM0, e0, N0]
    refine ⟨166, r, n, c, rfl, hA, by omega, by omega, h64, ?_⟩
    by_cases q2 : (c 1).testBit r = true
    · simp only [e_cut, e_iload, e_aload, e_istore, e_astore, e_iinc, e_const, e_lconst, e_bin, e_bin0, e_un, e_ladd, e_dupi, e_dupr, e_dup2, e_pop, e_if, e_icmp, e_sw, e_sw0, e_sw1, e_get, e_put, e_ald, e_ast, e_aald, e_aast, e_copy, e_new, e_newa, e_anewa, e_min, e_abs, e_oinit, e_callI, e_callV, e_callS, e_iret, e_zret, e_lret, e_vret, e_tl1, e_tl0, e_tl2, e_tl3, z10, Bool.false_eq_true, e_argi, e_argr, e_argn, zld_c, zst_n, zst_c, zpick_n, zpick_c, List.drop_succ_cons, List.drop_zero, List.take_succ_cons, List.take_zero, List.length_cons, List.length_nil, List.reverse_cons, List.reverse_nil, List.nil_append, List.cons_append, List.append_nil, List.getElem?_cons_zero, List.getElem?_cons_succ, List.set_cons_zero, List.set_cons_succ, Nat.add_sub_cancel_left, Nat.sub_self, Nat.add_zero, Nat.zero_add, Nat.le_add_right, Nat.le_refl, true_and, and_true, va_rf, zok, Nat.add_left_cancel_iff, Nat.add_eq_left, Nat.left_eq_add, eq_self, if_true, if_false, not_false_eq_true, not_true_eq_false, false_implies, true_implies, Nat.reduceEqDiff, Nat.reduceAdd, Nat.reduceLT, Nat.reduceLeDiff, reduceIte, q2] at hP ⊢; exact ⟨Or.inr trivial, hP⟩
    · simp only [e_cut, e_iload, e_aload, e_istore, e_astore, e_iinc, e_const, e_lconst, e_bin, e_bin0, e_un, e_ladd, e_dupi, e_dupr, e_dup2, e_pop, e_if, e_icmp, e_sw, e_sw0, e_sw1, e_get, e_put, e_ald, e_ast, e_aald, e_aast, e_copy, e_new, e_newa, e_anewa, e_min, e_abs, e_oinit, e_callI, e_callV, e_callS, e_iret, e_zret, e_lret, e_vret, e_tl1, e_tl0, e_tl2, e_tl3, z10, Bool.false_eq_true, e_argi, e_argr, e_argn, zld_c, zst_n, zst_c, zpick_n, zpick_c, List.drop_succ_cons, List.drop_zero, List.take_succ_cons, List.take_zero, List.length_cons, List.length_nil, List.reverse_cons, List.reverse_nil, List.nil_append, List.cons_append, List.append_nil, List.getElem?_cons_zero, List.getElem?_cons_succ, List.set_cons_zero, List.set_cons_succ, Nat.add_sub_cancel_left, Nat.sub_self, Nat.add_zero, Nat.zero_add, Nat.le_add_right, Nat.le_refl, true_and, and_true, va_rf, zok, Nat.add_left_cancel_iff, Nat.add_eq_left, Nat.left_eq_add, eq_self, if_true, if_false, not_false_eq_true, not_true_eq_false, false_implies, true_implies, Nat.reduceEqDiff, Nat.reduceAdd, Nat.reduceLT, Nat.reduceLeDiff, reduceIte, q2] at hP ⊢; exact ⟨Or.inl trivial, hP⟩
  · simp only [q1, false_and] at hP
    simp only [e_cut, e_iload, e_aload, e_istore, e_astore, e_iinc, e_const, e_lconst, e_bin, e_bin0, e_un, e_ladd, e_dupi, e_dupr, e_dup2, e_pop, e_if, e_icmp, e_sw, e_sw0, e_sw1, e_get, e_put, e_ald, e_ast, e_aald, e_aast, e_copy, e_new, e_newa, e_anewa, e_min, e_abs, e_oinit, e_callI, e_callV, e_callS, e_iret, e_zret, e_lret, e_vret, e_tl1, e_tl0, e_tl2, e_tl3, z10, Bool.false_eq_true, e_argi, e_argr, e_argn, zld_c, zst_n, zst_c, zpick_n, zpick_c, List.drop_succ_cons, List.drop_zero, List.take_succ_cons, List.take_zero, List.length_cons, List.length_nil, List.reverse_cons, List.reverse_nil, List.nil_append, List.cons_append, List.append_nil, List.getElem?_cons_zero, List.getElem?_cons_succ, List.set_cons_zero, List.set_cons_succ, Nat.add_sub_cancel_left, Nat.sub_self, Nat.add_zero, Nat.zero_add, Nat.le_add_right, Nat.le_refl, true_and, and_true, va_rf, zok, Nat.add_left_cancel_iff, Nat.add_eq_left, Nat.left_eq_add, eq_self, if_true, if_false, not_false_eq_true, not_true_eq_false, false_implies, true_implies, Nat.reduceEqDiff, Nat.reduceAdd, Nat.reduceLT, Nat.reduceLeDiff, reduceIte, q1]; exact ⟨Or.inl trivial, hP⟩
set_option maxRecDepth 20000 in
theorem f_X6_isHere_29 : Cond.fieldLink RX6 29 (TX6 14).1 (TX6 14).2.1 (TX6 14).2.2.1 ∈ wsX6_isHere := by decide +kernel
set_option maxRecDepth 20000 in
theorem k_X6_isHere_6 : ∀ w ∈ u_ws RX6 TX6 21, w ∈ wsX6_isHere := fun _ h => List.mem_cons_of_mem _ (List.mem_append_right _ h)
set_option maxRecDepth 100000 in
set_option maxHeartbeats 4000000 in
theorem S_X6_isHere_25 {p : Program} {e : Env} {s : State} {m : MethodId} {args : Array Value} {below : List Frame} {meth : Method} {c : Code} {D : va_G} {cy : zY} {b n0 : Nat} {P : zPo} (la : Launch) (X : zX p la e (rm_X6_isHere) s m args below meth c 2 D cy b n0 cX6_isHere wsX6_isHere RX6) (hr : meth.sig.returnType = (some .boolean)) (h_X6_isAboard : zMet la yX6_isAboard wsX6_isAboard rm_X6_isAboard 0 0 sp_X6_isAboard) (h_X6_isRider : zMet la yX6_isRider wsX6_isRider rm_X6_isRider 0 0 sp_X6_isRider) : zS p la e (rm_X6_isHere) s m args below meth c (MQ below (zQ D b (n0 + 0) P) args s 0 0 (fun q => b ≤ q)) 2 D b n0 25 (B_X6_isHere_25 b n0 cy P (zAt p la e (rm_X6_isHere) s m args below meth c (MQ below (zQ D b (n0 + 0) P) args s 0 0 (fun q => b ≤ q)) 2 D b n0)) := by
  unfold B_X6_isHere_25
  exact (s_zret X dX6_isHere_25 hr)
set_option maxRecDepth 100000 in
set_option maxHeartbeats 4000000 in
theorem S_X6_isHere_24 {p : Program} {e : Env} {s : State} {m : MethodId} {args : Array Value} {below : List Frame} {meth : Method} {c : Code} {D : va_G} {cy : zY} {b n0 : Nat} {P : zPo} (la : Launch) (X : zX p la e (rm_X6_isHere) s m args below meth c 2 D cy b n0 cX6_isHere wsX6_isHere RX6) (hr : meth.sig.returnType = (some .boolean)) (h_X6_isAboard : zMet la yX6_isAboard wsX6_isAboard rm_X6_isAboard 0 0 sp_X6_isAboard) (h_X6_isRider : zMet la yX6_isRider wsX6_isRider rm_X6_isRider 0 0 sp_X6_isRider) : zS p la e (rm_X6_isHere) s m args below meth c (MQ below (zQ D b (n0 + 0) P) args s 0 0 (fun q => b ≤ q)) 2 D b n0 24 (B_X6_isHere_24 b n0 cy P (zAt p la e (rm_X6_isHere) s m args below meth c (MQ below (zQ D b (n0 + 0) P) args s 0 0 (fun q => b ≤ q)) 2 D b n0)) := by
  unfold B_X6_isHere_24
  exact (s_iconst X dX6_isHere_24 (by decide) (S_X6_isHere_25 la X hr h_X6_isAboard h_X6_isRider))
set_option maxRecDepth 100000 in
set_option maxHeartbeats 4000000 in
theorem S_X6_isHere_0 {p : Program} {e : Env} {s : State} {m : MethodId} {args : Array Value} {below : List Frame} {meth : Method} {c : Code} {D : va_G} {cy : zY} {b n0 : Nat} {P : zPo} (la : Launch) (X : zX p la e (rm_X6_isHere) s m args below meth c 2 D cy b n0 cX6_isHere wsX6_isHere RX6) (hr : meth.sig.returnType = (some .boolean)) (h_X6_isAboard : zMet la yX6_isAboard wsX6_isAboard rm_X6_isAboard 0 0 sp_X6_isAboard) (h_X6_isRider : zMet la yX6_isRider wsX6_isRider rm_X6_isRider 0 0 sp_X6_isRider) : zS p la e (rm_X6_isHere) s m args below meth c (MQ below (zQ D b (n0 + 0) P) args s 0 0 (fun q => b ≤ q)) 2 D b n0 0 (B_X6_isHere_0 b n0 cy P (zAt p la e (rm_X6_isHere) s m args below meth c (MQ below (zQ D b (n0 + 0) P) args s 0 0 (fun q => b ≤ q)) 2 D b n0)) := by
  unfold B_X6_isHere_0
  exact (s_aload_n X dX6_isHere_0 rfl (s_iload_n X dX6_isHere_1 rfl (s_callV X h_X6_isRider dX6_isHere_2 rfl gX6_isHere_X6_isRider rfl rfl rfl (by decide +kernel) ⟨by decide, by decide⟩ (s_if_eq X dX6_isHere_5 (by decide) (S_X6_isHere_24 la X hr h_X6_isAboard h_X6_isRider) (s_aload_n X dX6_isHere_8 rfl (s_aload_n X dX6_isHere_9 rfl (s_get X dX6_isHere_10 rfl k_X6_isHere_6 (by decide) f_X6_isHere_29 (s_iload_n X dX6_isHere_13 rfl (s_callV X h_X6_isAboard dX6_isHere_14 rfl gX6_isHere_X6_isAboard rfl rfl rfl (by decide +kernel) ⟨by decide, by decide⟩ (s_if_eq X dX6_isHere_17 (by decide) (S_X6_isHere_24 la X hr h_X6_isAboard h_X6_isRider) (s_iconst X dX6_isHere_20 (by decide) (s_goto X dX6_isHere_21 (by decide) (S_X6_isHere_25 la X hr h_X6_isAboard h_X6_isRider)))))))))))))
theorem w_X6_isHere (la : Launch) (h_X6_isAboard : zMet la yX6_isAboard wsX6_isAboard rm_X6_isAboard 0 0 sp_X6_isAboard) (h_X6_isRider : zMet la yX6_isRider wsX6_isRider rm_X6_isRider 0 0 sp_X6_isRider) (sp : zSp) (vc : zVC_X6_isHere sp) : zMet la yX6_isHere wsX6_isHere (rm_X6_isHere) 0 0 sp :=
  z_of (cc := cX6_isHere) (maxL := 2) (ret := (some .boolean)) (by decide +kernel) rfl (fun p e s m args below meth c D cy b n as E P hsp X hr hin => by
    obtain ⟨h1, h2⟩ := vc b cy n as E P (zAt p la e (rm_X6_isHere) s m args below meth c (MQ below (zQ D b (n + 0) P) args s 0 0 (fun q => b ≤ q)) 2 D b n) hsp
    exact ⟨h1, S_X6_isHere_0 la X hr h_X6_isAboard h_X6_isRider _ _ _ _ _ h2⟩)

theorem m_X6_isHere (la : Launch) : zMet la yX6_isHere wsX6_isHere rm_X6_isHere 0 0 sp_X6_isHere := w_X6_isHere la (m_X6_isAboard la) (m_X6_isRider la) _ vc_X6_isHere
def sp_X6_manyOf : zSp := fun _ _ as _ E P => ∃ M : Nat, as = [.int (nI M)] ∧ M < 64 ∧ P (some (.int (nI (zpop M)))) E
abbrev rm_X6_manyOf : Room := { frames := 1, cells := 0, slots := 0, locals := 40 }
def B_X6_manyOf_4 (b n0 : Nat) (cy : zY) (P : zPo) (A : Nat → zC) : zC :=
  z_iload 2 (z_const (6) (z_icmp (fun x y => y ≤ x) (z_iload 1 (z_iret 0 0 P)) (z_iload 1 (z_iload 0 (z_iload 2 (z_bin (fun x y => x >>> (y &&& 31)) (z_const (1) (z_bin (fun x y => x &&& y) (z_bin (fun x y => x + y) (z_istore 1 (z_iinc 2 (1) (z_cut [0, 1, 2] (A 4)))))))))))))
def B_X6_manyOf_0 (b n0 : Nat) (cy : zY) (P : zPo) (A : Nat → zC) : zC :=
  z_const (0) (z_istore 1 (z_const (0) (z_istore 2 (z_cut [0, 1, 2] (A 4)))))
def zVC_X6_manyOf (sp : zSp) : Prop := ∀ (b : Nat) (cy : zY) (n : Nat) (as : List Value) (E : zE) (P : zPo) (A : Nat → zC), (∀ l st k u E, B_X6_manyOf_4 b n cy P A l st k u E → A 4 l st k u E) → sp b cy as n E P → zgood as 3 ∧ B_X6_manyOf_0 b n cy P A (lv_args 0 as) [] 0 0 E

set_option maxRecDepth 100000 in
set_option maxHeartbeats 4000000 in
theorem vc_X6_manyOf : zVC_X6_manyOf sp_X6_manyOf := by
  intro b cy N as E P A hA hsp
  obtain ⟨M, rfl, hM, hP⟩ := hsp
  refine ⟨⟨Nat.le_of_ble_eq_true rfl, zg1 rfl (zg0)⟩, ?_⟩
  have loop : ∀ (d k : Nat), d + k = 6 → A 4 [(0, .int (nI M)), (1, .int (nI (zsum (fun q => if M.testBit q then 1 else 0) k))), (2, .int (nI k))] [] 0 0 E := by
    intro d
    induction d with
    | zero =>
      intro k hd
      obtain rfl : k = 6 := by omega
      apply hA
      have cle : (6 : Int32) ≤ nI 6 := by decide
      simp only [B_X6_manyOf_0, B_X6_manyOf_4, e_cut, e_iload, e_aload, e_istore, e_astore, e_iinc, e_const, e_lconst, e_bin, e_bin0, e_un, e_ladd, e_dupi, e_dupr, e_dup2, e_pop, e_if, e_icmp, e_sw, e_sw0, e_sw1, e_get, e_put, e_ald, e_ast, e_aald, e_aast, e_copy, e_new, e_newa, e_anewa, e_min, e_abs, e_oinit, e_callI, e_callV, e_callS, e_iret, e_zret, e_lret, e_vret, e_tl1, e_tl0, e_tl2, e_tl3, z10, Bool.false_eq_true, e_argi, e_argr, e_argn, zld_c, zst_n, zst_c, zpick_n, zpick_c, List.drop_succ_cons, List.drop_zero, List.take_succ_cons, List.take_zero, List.length_cons, List.length_nil, List.reverse_cons, List.reverse_nil, List.nil_append, List.cons_append, List.append_nil, List.getElem?_cons_zero, List.getElem?_cons_succ, List.set_cons_zero, List.set_cons_succ, Nat.add_sub_cancel_left, Nat.sub_self, Nat.add_zero, Nat.zero_add, Nat.le_add_right, Nat.le_refl, true_and, and_true, va_rf, zok, Nat.add_left_cancel_iff, Nat.add_eq_left, Nat.left_eq_add, eq_self, if_true, if_false, not_false_eq_true, not_true_eq_false, false_implies, true_implies, Nat.reduceEqDiff, Nat.reduceAdd, Nat.reduceLT, Nat.reduceLeDiff, reduceIte, cle]
      exact hP
    | succ d ih =>
      intro k hd
      apply hA
      have cle : ¬ (6 : Int32) ≤ nI k := nI_ge (b := 6) (show k < 6 by omega) (by decide)
      have hz : zsum (fun q => if M.testBit q then 1 else 0) (k + 1) = zsum (fun q => if M.testBit q then 1 else 0) k + (if M.testBit k then 1 else 0) := rfl
      have hb : (if M.testBit k = true then (1 : Int32) else 0) = nI (if M.testBit k then 1 else 0) := by cases M.testBit k <;> rfl
      have h1 := ih (k + 1) (by omega)
      rw [hz] at h1
      simp only [B_X6_manyOf_0, B_X6_manyOf_4, e_cut, e_iload, e_aload, e_istore, e_astore, e_iinc, e_const, e_lconst, e_bin, e_bin0, e_un, e_ladd, e_dupi, e_dupr, e_dup2, e_pop, e_if, e_icmp, e_sw, e_sw0, e_sw1, e_get, e_put, e_ald, e_ast, e_aald, e_aast, e_copy, e_new, e_newa, e_anewa, e_min, e_abs, e_oinit, e_callI, e_callV, e_callS, e_iret, e_zret, e_lret, e_vret, e_tl1, e_tl0, e_tl2, e_tl3, z10, Bool.false_eq_true, e_argi, e_argr, e_argn, zld_c, zst_n, zst_c, zpick_n, zpick_c, List.drop_succ_cons, List.drop_zero, List.take_succ_cons, List.take_zero, List.length_cons, List.length_nil, List.reverse_cons, List.reverse_nil, List.nil_append, List.cons_append, List.append_nil, List.getElem?_cons_zero, List.getElem?_cons_succ, List.set_cons_zero, List.set_cons_succ, Nat.add_sub_cancel_left, Nat.sub_self, Nat.add_zero, Nat.zero_add, Nat.le_add_right, Nat.le_refl, true_and, and_true, va_rf, zok, Nat.add_left_cancel_iff, Nat.add_eq_left, Nat.left_eq_add, eq_self, if_true, if_false, not_false_eq_true, not_true_eq_false, false_implies, true_implies, Nat.reduceEqDiff, Nat.reduceAdd, Nat.reduceLT, Nat.reduceLeDiff, reduceIte, cle, zbit hM (show k < 6 by omega), hb, nI_add, nI_1]
      exact h1
  simp only [B_X6_manyOf_0, B_X6_manyOf_4, e_cut, e_iload, e_aload, e_istore, e_astore, e_iinc, e_const, e_lconst, e_bin, e_bin0, e_un, e_ladd, e_dupi, e_dupr, e_dup2, e_pop, e_if, e_icmp, e_sw, e_sw0, e_sw1, e_get, e_put, e_ald, e_ast, e_aald, e_aast, e_copy, e_new, e_newa, e_anewa, e_min, e_abs, e_oinit, e_callI, e_callV, e_callS, e_iret, e_zret, e_lret, e_vret, e_tl1, e_tl0, e_tl2, e_tl3, z10, Bool.false_eq_true, e_argi, e_argr, e_argn, zld_c, zst_n, zst_c, zpick_n, zpick_c, List.drop_succ_cons, List.drop_zero, List.take_succ_cons, List.take_zero, List.length_cons, List.length_nil, List.reverse_cons, List.reverse_nil, List.nil_append, List.cons_append, List.append_nil, List.getElem?_cons_zero, List.getElem?_cons_succ, List.set_cons_zero, List.set_cons_succ, Nat.add_sub_cancel_left, Nat.sub_self, Nat.add_zero, Nat.zero_add, Nat.le_add_right, Nat.le_refl, true_and, and_true, va_rf, zok, Nat.add_left_cancel_iff, Nat.add_eq_left, Nat.left_eq_add, eq_self, if_true, if_false, not_false_eq_true, not_true_eq_false, false_implies, true_implies, Nat.reduceEqDiff, Nat.reduceAdd, Nat.reduceLT, Nat.reduceLeDiff, reduceIte]
  exact loop 6 0 rfl
set_option maxRecDepth 100000 in
set_option maxHeartbeats 4000000 in
theorem S_X6_manyOf_4 {p : Program} {e : Env} {s : State} {m : MethodId} {args : Array Value} {below : List Frame} {meth : Method} {c : Code} {D : va_G} {cy : zY} {b n0 : Nat} {P : zPo} (la : Launch) (X : zX p la e (rm_X6_manyOf) s m args below meth c 3 D cy b n0 cX6_manyOf wsX6_manyOf RX6) (hr : meth.sig.returnType = (some .int)) : zS p la e (rm_X6_manyOf) s m args below meth c (MQ below (zQ D b (n0 + 0) P) args s 0 0 (fun q => b ≤ q)) 3 D b n0 4 (B_X6_manyOf_4 b n0 cy P (zAt p la e (rm_X6_manyOf) s m args below meth c (MQ below (zQ D b (n0 + 0) P) args s 0 0 (fun q => b ≤ q)) 3 D b n0)) := by
  unfold B_X6_manyOf_4
  exact (s_iload_n X dX6_manyOf_4 rfl (s_bipush X dX6_manyOf_5 (by decide) (s_icmp_ge X dX6_manyOf_7 (by decide) (s_iload_n X dX6_manyOf_24 rfl (s_iret X dX6_manyOf_25 hr)) (s_iload_n X dX6_manyOf_10 rfl (s_iload_n X dX6_manyOf_11 rfl (s_iload_n X dX6_manyOf_12 rfl (s_ishr X dX6_manyOf_13 (s_iconst X dX6_manyOf_14 (by decide) (s_iand X dX6_manyOf_15 (s_iadd X dX6_manyOf_16 (s_istore_n X dX6_manyOf_17 rfl (by decide) (s_iinc X dX6_manyOf_18 (by decide) (by decide) (s_goto X dX6_manyOf_21 (by decide) (s_cut (by decide) zS_at))))))))))))))
set_option maxRecDepth 100000 in
set_option maxHeartbeats 4000000 in
theorem S_X6_manyOf_0 {p : Program} {e : Env} {s : State} {m : MethodId} {args : Array Value} {below : List Frame} {meth : Method} {c : Code} {D : va_G} {cy : zY} {b n0 : Nat} {P : zPo} (la : Launch) (X : zX p la e (rm_X6_manyOf) s m args below meth c 3 D cy b n0 cX6_manyOf wsX6_manyOf RX6) (hr : meth.sig.returnType = (some .int)) : zS p la e (rm_X6_manyOf) s m args below meth c (MQ below (zQ D b (n0 + 0) P) args s 0 0 (fun q => b ≤ q)) 3 D b n0 0 (B_X6_manyOf_0 b n0 cy P (zAt p la e (rm_X6_manyOf) s m args below meth c (MQ below (zQ D b (n0 + 0) P) args s 0 0 (fun q => b ≤ q)) 3 D b n0)) := by
  unfold B_X6_manyOf_0
  exact (s_iconst X dX6_manyOf_0 (by decide) (s_istore_n X dX6_manyOf_1 rfl (by decide) (s_iconst X dX6_manyOf_2 (by decide) (s_istore_n X dX6_manyOf_3 rfl (by decide) (s_cut (by decide) zS_at)))))
theorem w_X6_manyOf (la : Launch) (sp : zSp) (vc : zVC_X6_manyOf sp) : zMet la yX6_manyOf wsX6_manyOf (rm_X6_manyOf) 0 0 sp :=
  z_of (cc := cX6_manyOf) (maxL := 3) (ret := (some .int)) (by decide +kernel) rfl (fun p e s m args below meth c D cy b n as E P hsp X hr hin => by
    obtain ⟨h1, h2⟩ := vc b cy n as E P (zAt p la e (rm_X6_manyOf) s m args below meth c (MQ below (zQ D b (n + 0) P) args s 0 0 (fun q => b ≤ q)) 3 D b n) (fun _ _ _ _ _ q => S_X6_manyOf_4 la X hr _ _ _ _ _ q) hsp
    exact ⟨h1, S_X6_manyOf_0 la X hr _ _ _ _ _ h2⟩)

theorem m_X6_manyOf (la : Launch) : zMet la yX6_manyOf wsX6_manyOf rm_X6_manyOf 0 0 sp_X6_manyOf := w_X6_manyOf la _ vc_X6_manyOf
def sp_X6_apart : zSp := fun _ _ as _ E P => ∃ x y : Nat, as = [.int (nI x), .int (nI y)] ∧ x < 1000 ∧ y < 1000 ∧ P (some (.int (nI (zad x y)))) E
abbrev rm_X6_apart : Room := { frames := 1, cells := 0, slots := 0, locals := 40 }
def B_X6_apart_14 (b n0 : Nat) (cy : zY) (P : zPo) (A : Nat → zC) : zC :=
  z_iret 0 0 P
def B_X6_apart_0 (b n0 : Nat) (cy : zY) (P : zPo) (A : Nat → zC) : zC :=
  z_iload 0 (z_iload 1 (z_icmp (fun x y => y ≤ x) (z_iload 0 (z_iload 1 (z_bin (fun x y => x - y) (B_X6_apart_14 b n0 cy P A)))) (z_iload 1 (z_iload 0 (z_bin (fun x y => x - y) (B_X6_apart_14 b n0 cy P A))))))
def zVC_X6_apart (sp : zSp) : Prop := ∀ (b : Nat) (cy : zY) (n : Nat) (as : List Value) (E : zE) (P : zPo) (A : Nat → zC), sp b cy as n E P → zgood as 2 ∧ B_X6_apart_0 b n cy P A (lv_args 0 as) [] 0 0 E

set_option maxRecDepth 100000 in
set_option maxHeartbeats 4000000 in
theorem vc_X6_apart : zVC_X6_apart sp_X6_apart := by
  intro b cy N as E P A hsp
  obtain ⟨x, y, rfl, hx, hy, hP⟩ := hsp
  refine ⟨⟨Nat.le_of_ble_eq_true rfl, zg1 rfl (zg1 rfl (zg0))⟩, ?_⟩
  unfold zad at hP
  simp only [B_X6_apart_0, B_X6_apart_14, e_cut, e_iload, e_aload, e_istore, e_astore, e_iinc, e_const, e_lconst, e_bin, e_bin0, e_un, e_ladd, e_dupi, e_dupr, e_dup2, e_pop, e_if, e_icmp, e_sw, e_sw0, e_sw1, e_get, e_put, e_ald, e_ast, e_aald, e_aast, e_copy, e_new, e_newa, e_anewa, e_min, e_abs, e_oinit, e_callI, e_callV, e_callS, e_iret, e_zret, e_lret, e_vret, e_tl1, e_tl0, e_tl2, e_tl3, z10, Bool.false_eq_true, e_argi, e_argr, e_argn, zld_c, zst_n, zst_c, zpick_n, zpick_c, List.drop_succ_cons, List.drop_zero, List.take_succ_cons, List.take_zero, List.length_cons, List.length_nil, List.reverse_cons, List.reverse_nil, List.nil_append, List.cons_append, List.append_nil, List.getElem?_cons_zero, List.getElem?_cons_succ, List.set_cons_zero, List.set_cons_succ, Nat.add_sub_cancel_left, Nat.sub_self, Nat.add_zero, Nat.zero_add, Nat.le_add_right, Nat.le_refl, true_and, and_true, va_rf, zok, Nat.add_left_cancel_iff, Nat.add_eq_left, Nat.left_eq_add, eq_self, if_true, if_false, not_false_eq_true, not_true_eq_false, false_implies, true_implies, Nat.reduceEqDiff, Nat.reduceAdd, Nat.reduceLT, Nat.reduceLeDiff, reduceIte, nI_leI (show y < 2 ^ 31 by omega) (show x < 2 ^ 31 by omega)]
  refine ⟨fun c1 => ?_, fun c1 => ?_⟩
  · rw [pk_sub c1, show x - y = x - y + (y - x) by omega]; exact hP
  · rw [pk_sub (show x ≤ y by omega), show y - x = x - y + (y - x) by omega]; exact hP
set_option maxRecDepth 100000 in
set_option maxHeartbeats 4000000 in
theorem S_X6_apart_14 {p : Program} {e : Env} {s : State} {m : MethodId} {args : Array Value} {below : List Frame} {meth : Method} {c : Code} {D : va_G} {cy : zY} {b n0 : Nat} {P : zPo} (la : Launch) (X : zX p la e (rm_X6_apart) s m args below meth c 2 D cy b n0 cX6_apart wsX6_apart RX6) (hr : meth.sig.returnType = (some .int)) : zS p la e (rm_X6_apart) s m args below meth c (MQ below (zQ D b (n0 + 0) P) args s 0 0 (fun q => b ≤ q)) 2 D b n0 14 (B_X6_apart_14 b n0 cy P (zAt p la e (rm_X6_apart) s m args below meth c (MQ below (zQ D b (n0 + 0) P) args s 0 0 (fun q => b ≤ q)) 2 D b n0)) := by
  unfold B_X6_apart_14
  exact (s_iret X dX6_apart_14 hr)
set_option maxRecDepth 100000 in
set_option maxHeartbeats 4000000 in
theorem S_X6_apart_0 {p : Program} {e : Env} {s : State} {m : MethodId} {args : Array Value} {below : List Frame} {meth : Method} {c : Code} {D : va_G} {cy : zY} {b n0 : Nat} {P : zPo} (la : Launch) (X : zX p la e (rm_X6_apart) s m args below meth c 2 D cy b n0 cX6_apart wsX6_apart RX6) (hr : meth.sig.returnType = (some .int)) : zS p la e (rm_X6_apart) s m args below meth c (MQ below (zQ D b (n0 + 0) P) args s 0 0 (fun q => b ≤ q)) 2 D b n0 0 (B_X6_apart_0 b n0 cy P (zAt p la e (rm_X6_apart) s m args below meth c (MQ below (zQ D b (n0 + 0) P) args s 0 0 (fun q => b ≤ q)) 2 D b n0)) := by
  unfold B_X6_apart_0
  exact (s_iload_n X dX6_apart_0 rfl (s_iload_n X dX6_apart_1 rfl (s_icmp_ge X dX6_apart_2 (by decide) (s_iload_n X dX6_apart_11 rfl (s_iload_n X dX6_apart_12 rfl (s_isub X dX6_apart_13 (S_X6_apart_14 la X hr)))) (s_iload_n X dX6_apart_5 rfl (s_iload_n X dX6_apart_6 rfl (s_isub X dX6_apart_7 (s_goto X dX6_apart_8 (by decide) (S_X6_apart_14 la X hr))))))))
theorem w_X6_apart (la : Launch) (sp : zSp) (vc : zVC_X6_apart sp) : zMet la yX6_apart wsX6_apart (rm_X6_apart) 0 0 sp :=
  z_of (cc := cX6_apart) (maxL := 2) (ret := (some .int)) (by decide +kernel) rfl (fun p e s m args below meth c D cy b n as E P hsp X hr hin => by
    obtain ⟨h1, h2⟩ := vc b cy n as E P (zAt p la e (rm_X6_apart) s m args below meth c (MQ below (zQ D b (n + 0) P) args s 0 0 (fun q => b ≤ q)) 2 D b n) hsp
    exact ⟨h1, S_X6_apart_0 la X hr _ _ _ _ _ h2⟩)

theorem m_X6_apart (la : Launch) : zMet la yX6_apart wsX6_apart rm_X6_apart 0 0 sp_X6_apart := w_X6_apart la _ vc_X6_apart

