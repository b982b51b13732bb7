/-! BellCars: what its own methods read -/
def zB0 (b : Nat) (kept cnt : Int32) (tr : Int64) : va_E := .inr (5, [.ref (b + 1), .ref (b + 3), .ref (b + 7), .ref (b + 11), .ref (b + 58), .int kept, .ref (b + 59), .ref (b + 63), .ref (b + 64), .int cnt, .long tr])
def zRd (b : Nat) (cy : zY) (E : zE) (n : Nat) (lo la : Nat → Nat) : Prop := (∃ (kept cnt : Int32) (tr : Int64), E 0 = zB0 b kept cnt tr) ∧ (∃ (seat : Nat → Nat) (line : Nat) (items : Int32), zTo b cy E 3 n lo la seat line items) ∧ (∀ j, j < n → lo j ≤ 9 ∧ la j ≤ 2)
def zP1 (b : Nat) (cy : zY) (N : Nat) (E : zE) (n : Nat) (lo la : Nat → Nat) (i : Nat) (c : Nat → Nat) : Prop := zRd b cy E n lo la ∧ zMo b cy E i n c ∧ zMok n c ∧ i + 3 < N ∧ 159 ≤ N
theorem zfo_lt {ok : Nat → Bool} {bt : Nat → Nat → Bool} : ∀ {k f : Nat}, zfo ok bt k = some f → f < k ∧ ok f = true := by
  intro k
  induction k with
  | zero => intro f h; cases h
  | succ k ih =>
    intro f h
    rw [zfo] at h
    cases hk : zfo ok bt k with
    | none =>
      rw [hk] at h
      by_cases ho : ok k = true
      · simp [ho] at h; subst h; exact ⟨by omega, ho⟩
      · simp [ho] at h
    | some g =>
      rw [hk] at h
      have hg := ih hk
      by_cases ho : (ok k && bt k g) = true
      · simp only [ho, if_true, Option.some.injEq] at h
        subst h
        exact ⟨by omega, by simp at ho; exact ho.1⟩
      · simp only [ho] at h
        simp at h
        subst h; exact ⟨by omega, hg.2⟩
theorem zfo_no {ok : Nat → Bool} {bt : Nat → Nat → Bool} {k : Nat} (h : ok k = false) : zfo ok bt (k + 1) = zfo ok bt k := by
  rw [zfo]
  cases zfo ok bt k <;> simp [h]
theorem zfo_n {ok : Nat → Bool} {bt : Nat → Nat → Bool} {k : Nat} (h : ok k = true) (h2 : zfo ok bt k = none) : zfo ok bt (k + 1) = some k := by
  rw [zfo, h2]; simp [h]
theorem zfo_y {ok : Nat → Bool} {bt : Nat → Nat → Bool} {k f : Nat} (h : ok k = true) (h2 : zfo ok bt k = some f) (h3 : bt k f = true) : zfo ok bt (k + 1) = some k := by
  rw [zfo, h2]; simp [h, h3]
theorem zfo_w {ok : Nat → Bool} {bt : Nat → Nat → Bool} {k f : Nat} (h2 : zfo ok bt k = some f) (h3 : bt k f = false) : zfo ok bt (k + 1) = zfo ok bt k := by
  rw [zfo, h2]; simp [h3]
def zisB (n : Nat) (x : Int32) : Bool := decide (¬ x < 0) && decide (¬ nI n ≤ x)
theorem zisB_t {n : Nat} {x : Int32} (h : zisB n x = true) (hn : n ≤ 6) : ∃ j, j < n ∧ x = nI j := by
  unfold zisB at h
  rw [Bool.and_eq_true, decide_eq_true_eq, decide_eq_true_eq] at h
  obtain ⟨j, hj, rfl⟩ := nI_of h.1
  refine ⟨j, ?_, rfl⟩
  rcases Nat.lt_or_ge j n with h5 | h5
  · exact h5
  · exact absurd (nI_le h5 (by omega)) h.2
theorem zisB_i {n : Nat} {x : Int32} (h1 : ¬ x < 0) (h2 : ¬ nI n ≤ x) : zisB n x = true := by
  unfold zisB
  rw [decide_eq_true h1, decide_eq_true h2]; rfl
theorem zisB_f1 {n : Nat} {x : Int32} (h1 : x < 0) : ¬ zisB n x = true := by
  unfold zisB
  rw [Bool.and_eq_true, decide_eq_true_eq]
  exact fun h => h.1 h1
theorem zisB_f2 {n : Nat} {x : Int32} (h1 : nI n ≤ x) : ¬ zisB n x = true := by
  unfold zisB
  rw [Bool.and_eq_true, decide_eq_true_eq, decide_eq_true_eq]
  exact fun h => h.2 h1
theorem zisB_j {n j : Nat} (h : j < n) (hn : n ≤ 6) : zisB n (nI j) = true := zisB_i (nI_pos (by omega)) (nI_ge h (by omega))
def sp_X5_isRider : zSp := fun b cy as N E P => ∃ (n : Nat) (lo la : Nat → Nat) (x : Int32), as = [.ref b, .int x] ∧ zRd b cy E n lo la ∧ 159 ≤ N ∧ P (some (.int (if zisB n x = true then 1 else 0))) E
abbrev rm_X5_isRider : Room := { frames := 1, cells := 0, slots := 0, locals := 40 }
def B_X5_isRider_20 (b n0 : Nat) (cy : zY) (P : zPo) (A : Nat → zC) : zC :=
  z_zret 0 0 P
def B_X5_isRider_19 (b n0 : Nat) (cy : zY) (P : zPo) (A : Nat → zC) : zC :=
  z_const (0) (B_X5_isRider_20 b n0 cy P A)
def B_X5_isRider_0 (b n0 : Nat) (cy : zY) (P : zPo) (A : Nat → zC) : zC :=
  z_iload 1 (z_if (fun x => x < 0) (B_X5_isRider_19 b n0 cy P A) (z_iload 1 (z_aload 0 (z_get b n0 5 1 (z_get b n0 4 0 (z_icmp (fun x y => y ≤ x) (B_X5_isRider_19 b n0 cy P A) (z_const (1) (B_X5_isRider_20 b n0 cy P A))))))))
def zVC_X5_isRider (sp : zSp) : Prop := ∀ (b : Nat) (cy : zY) (n : Nat) (as : List Value) (E : zE) (P : zPo) (A : Nat → zC), sp b cy as n E P → zgood as 2 ∧ B_X5_isRider_0 b n cy P A (lv_args 0 as) [] 0 0 E

set_option maxRecDepth 100000 in
set_option maxHeartbeats 4000000 in
theorem vc_X5_isRider : zVC_X5_isRider sp_X5_isRider := by
  intro b cy N as E P A hsp
  obtain ⟨n, lo, la, x, rfl, ⟨⟨kept, cnt, tr, e0⟩, ⟨seat, line, items, ⟨hn, f, g, h, h0, h1, h2, h3, hf, hg, hh⟩⟩, hlo⟩, hN, hP⟩ := hsp
  refine ⟨⟨Nat.le_of_ble_eq_true rfl, zg1 rfl (zg1 rfl (zg0))⟩, ?_⟩
  have N0 : 0 < N := by omega
  have N3 : 3 < N := by omega
  simp only [B_X5_isRider_0, B_X5_isRider_19, B_X5_isRider_20, e_cut, e_iload, e_aload, e_istore, e_astore, e_iinc, e_const, e_lconst, e_bin, e_bin0, e_un, e_ladd, e_dupi, e_dupr, e_dup2, e_pop, e_if, e_icmp, e_sw, e_sw0, e_sw1, e_get, e_put, e_ald, e_ast, e_aald, e_aast, e_copy, e_new, e_newa, e_anewa, e_min, e_abs, e_oinit, e_callI, e_callV, e_callS, e_iret, e_zret, e_lret, e_vret, e_tl1, e_tl0, e_tl2, e_tl3, z10, Bool.false_eq_true, e_argi, e_argr, e_argn, zld_c, zst_n, zst_c, zpick_n, zpick_c, List.drop_succ_cons, List.drop_zero, List.take_succ_cons, List.take_zero, List.length_cons, List.length_nil, List.reverse_cons, List.reverse_nil, List.nil_append, List.cons_append, List.append_nil, List.getElem?_cons_zero, List.getElem?_cons_succ, List.set_cons_zero, List.set_cons_succ, Nat.add_sub_cancel_left, Nat.sub_self, Nat.add_zero, Nat.zero_add, Nat.le_add_right, Nat.le_refl, true_and, and_true, va_rf, zok, Nat.add_left_cancel_iff, Nat.add_eq_left, Nat.left_eq_add, eq_self, if_true, if_false, not_false_eq_true, not_true_eq_false, false_implies, true_implies, Nat.reduceEqDiff, Nat.reduceAdd, Nat.reduceLT, Nat.reduceLeDiff, reduceIte, zB0, e0, N0, N3, h0]
  refine ⟨fun c1 => ?_, fun c1 => ⟨fun c2 => ?_, fun c2 => ?_⟩⟩
  · have : ¬ zisB n x = true := zisB_f1 c1
    rw [if_neg this] at hP; exact ⟨Or.inl trivial, hP⟩
  · have : ¬ zisB n x = true := zisB_f2 c2
    rw [if_neg this] at hP; exact ⟨Or.inl trivial, hP⟩
  · have : zisB n x = true := zisB_i c1 c2
    rw [if_pos this] at hP; exact ⟨Or.inr trivial, hP⟩
set_option maxRecDepth 20000 in
theorem f_X5_isRider_19 : Cond.fieldLink RX5 19 (TX5 1).1 (TX5 1).2.1 (TX5 1).2.2.1 ∈ wsX5_isRider := by decide +kernel
set_option maxRecDepth 20000 in
theorem k_X5_isRider_5 : ∀ w ∈ u_ws RX5 TX5 11, w ∈ wsX5_isRider := fun _ h => List.mem_cons_of_mem _ (List.mem_append_left _ (List.mem_append_right _ h))
set_option maxRecDepth 20000 in
theorem f_X5_isRider_200 : Cond.fieldLink RX5 200 (TX4 0).1 (TX4 0).2.1 (TX4 0).2.2.1 ∈ wsX5_isRider := by decide +kernel
set_option maxRecDepth 20000 in
theorem k_X5_isRider_4 : ∀ w ∈ u_ws RX4 TX4 6, w ∈ wsX5_isRider := fun _ h => List.mem_cons_of_mem _ (List.mem_append_right _ h)
set_option maxRecDepth 100000 in
set_option maxHeartbeats 4000000 in
theorem S_X5_isRider_20 {p : Program} {e : Env} {s : State} {m : MethodId} {args : Array Value} {below : List Frame} {meth : Method} {c : Code} {D : va_G} {cy : zY} {b n0 : Nat} {P : zPo} (la : Launch) (X : zX p la e (rm_X5_isRider) s m args below meth c 2 D cy b n0 cX5_isRider wsX5_isRider RX5) (hr : meth.sig.returnType = (some .boolean)) : zS p la e (rm_X5_isRider) s m args below meth c (MQ below (zQ D b (n0 + 0) P) args s 0 0 (fun q => b ≤ q)) 2 D b n0 20 (B_X5_isRider_20 b n0 cy P (zAt p la e (rm_X5_isRider) s m args below meth c (MQ below (zQ D b (n0 + 0) P) args s 0 0 (fun q => b ≤ q)) 2 D b n0)) := by
  unfold B_X5_isRider_20
  exact (s_zret X dX5_isRider_20 hr)
set_option maxRecDepth 100000 in
set_option maxHeartbeats 4000000 in
theorem S_X5_isRider_19 {p : Program} {e : Env} {s : State} {m : MethodId} {args : Array Value} {below : List Frame} {meth : Method} {c : Code} {D : va_G} {cy : zY} {b n0 : Nat} {P : zPo} (la : Launch) (X : zX p la e (rm_X5_isRider) s m args below meth c 2 D cy b n0 cX5_isRider wsX5_isRider RX5) (hr : meth.sig.returnType = (some .boolean)) : zS p la e (rm_X5_isRider) s m args below meth c (MQ below (zQ D b (n0 + 0) P) args s 0 0 (fun q => b ≤ q)) 2 D b n0 19 (B_X5_isRider_19 b n0 cy P (zAt p la e (rm_X5_isRider) s m args below meth c (MQ below (zQ D b (n0 + 0) P) args s 0 0 (fun q => b ≤ q)) 2 D b n0)) := by
  unfold B_X5_isRider_19
  exact (s_iconst X dX5_isRider_19 (by decide) (S_X5_isRider_20 la X hr))
set_option maxRecDepth 100000 in
set_option maxHeartbeats 4000000 in
theorem S_X5_isRider_0 {p : Program} {e : Env} {s : State} {m : MethodId} {args : Array Value} {below : List Frame} {meth : Method} {c : Code} {D : va_G} {cy : zY} {b n0 : Nat} {P : zPo} (la : Launch) (X : zX p la e (rm_X5_isRider) s m args below meth c 2 D cy b n0 cX5_isRider wsX5_isRider RX5) (hr : meth.sig.returnType = (some .boolean)) : zS p la e (rm_X5_isRider) s m args below meth c (MQ below (zQ D b (n0 + 0) P) args s 0 0 (fun q => b ≤ q)) 2 D b n0 0 (B_X5_isRider_0 b n0 cy P (zAt p la e (rm_X5_isRider) s m args below meth c (MQ below (zQ D b (n0 + 0) P) args s 0 0 (fun q => b ≤ q)) 2 D b n0)) := by
  unfold B_X5_isRider_0
  exact (s_iload_n X dX5_isRider_0 rfl (s_if_lt X dX5_isRider_1 (by decide) (S_X5_isRider_19 la X hr) (s_iload_n X dX5_isRider_4 rfl (s_aload_n X dX5_isRider_5 rfl (s_get X dX5_isRider_6 rfl k_X5_isRider_5 (by decide) f_X5_isRider_19 (s_get X dX5_isRider_9 rfl k_X5_isRider_4 (by decide) f_X5_isRider_200 (s_icmp_ge X dX5_isRider_12 (by decide) (S_X5_isRider_19 la X hr) (s_iconst X dX5_isRider_15 (by decide) (s_goto X dX5_isRider_16 (by decide) (S_X5_isRider_20 la X hr))))))))))
theorem w_X5_isRider (la : Launch) (sp : zSp) (vc : zVC_X5_isRider sp) : zMet la yX5_isRider wsX5_isRider (rm_X5_isRider) 0 0 sp :=
  z_of (cc := cX5_isRider) (maxL := 2) (ret := (some .boolean)) (by decide +kernel) rfl (fun p e s m args below meth c D cy b n as E P hsp X hr hin => by
    obtain ⟨h1, h2⟩ := vc b cy n as E P (zAt p la e (rm_X5_isRider) s m args below meth c (MQ below (zQ D b (n + 0) P) args s 0 0 (fun q => b ≤ q)) 2 D b n) hsp
    exact ⟨h1, S_X5_isRider_0 la X hr _ _ _ _ _ h2⟩)

theorem m_X5_isRider (la : Launch) : zMet la yX5_isRider wsX5_isRider rm_X5_isRider 0 0 sp_X5_isRider := w_X5_isRider la _ vc_X5_isRider
/-- of a pair -/
def zisP (n : Nat) (x y : Int32) : Bool := zisB n x && zisB n y && decide (¬ x = y)
def sp_X5_isPair : zSp := fun b cy as N E P => ∃ (n : Nat) (lo la : Nat → Nat) (x y : Int32), as = [.ref b, .int x, .int y] ∧ zRd b cy E n lo la ∧ 159 ≤ N ∧ P (some (.int (if zisP n x y = true then 1 else 0))) E
abbrev rm_X5_isPair : Room := { frames := 2, cells := 0, slots := 0, locals := 61 }
def B_X5_isPair_26 (b n0 : Nat) (cy : zY) (P : zPo) (A : Nat → zC) : zC :=
  z_zret 0 0 P
def B_X5_isPair_25 (b n0 : Nat) (cy : zY) (P : zPo) (A : Nat → zC) : zC :=
  z_const (0) (B_X5_isPair_26 b n0 cy P A)
def B_X5_isPair_0 (b n0 : Nat) (cy : zY) (P : zPo) (A : Nat → zC) : zC :=
  z_aload 0 (z_iload 1 (z_callV b n0 0 0 cy 5 1 0 0 sp_X5_isRider (z_if (fun x => x = 0) (B_X5_isPair_25 b n0 cy P A) (z_aload 0 (z_iload 2 (z_callV b n0 0 0 cy 5 1 0 0 sp_X5_isRider (z_if (fun x => x = 0) (B_X5_isPair_25 b n0 cy P A) (z_iload 1 (z_iload 2 (z_icmp (fun x y => x = y) (B_X5_isPair_25 b n0 cy P A) (z_const (1) (B_X5_isPair_26 b n0 cy P A))))))))))))
def zVC_X5_isPair (sp : zSp) : Prop := ∀ (b : Nat) (cy : zY) (n : Nat) (as : List Value) (E : zE) (P : zPo) (A : Nat → zC), sp b cy as n E P → zgood as 3 ∧ B_X5_isPair_0 b n cy P A (lv_args 0 as) [] 0 0 E

set_option maxRecDepth 100000 in
set_option maxHeartbeats 4000000 in
theorem vc_X5_isPair : zVC_X5_isPair sp_X5_isPair := by
  intro b cy N as E P A hsp
  obtain ⟨n, lo, la, x, y, rfl, hR, hN, hP⟩ := hsp
  refine ⟨⟨Nat.le_of_ble_eq_true rfl, zg1 rfl (zg1 rfl (zg1 rfl (zg0)))⟩, ?_⟩
  have N0 : 0 < N := by omega
  obtain ⟨⟨kept, cnt, tr, e0⟩, hT⟩ := id hR
  simp only [B_X5_isPair_0, B_X5_isPair_25, B_X5_isPair_26, e_cut, e_iload, e_aload, e_istore, e_astore, e_iinc, e_const, e_lconst, e_bin, e_bin0, e_un, e_ladd, e_dupi, e_dupr, e_dup2, e_pop, e_if, e_icmp, e_sw, e_sw0, e_sw1, e_get, e_put, e_ald, e_ast, e_aald, e_aast, e_copy, e_new, e_newa, e_anewa, e_min, e_abs, e_oinit, e_callI, e_callV, e_callS, e_iret, e_zret, e_lret, e_vret, e_tl1, e_tl0, e_tl2, e_tl3, z10, Bool.false_eq_true, e_argi, e_argr, e_argn, zld_c, zst_n, zst_c, zpick_n, zpick_c, List.drop_succ_cons, List.drop_zero, List.take_succ_cons, List.take_zero, List.length_cons, List.length_nil, List.reverse_cons, List.reverse_nil, List.nil_append, List.cons_append, List.append_nil, List.getElem?_cons_zero, List.getElem?_cons_succ, List.set_cons_zero, List.set_cons_succ, Nat.add_sub_cancel_left, Nat.sub_self, Nat.add_zero, Nat.zero_add, Nat.le_add_right, Nat.le_refl, true_and, and_true, va_rf, zok, Nat.add_left_cancel_iff, Nat.add_eq_left, Nat.left_eq_add, eq_self, if_true, if_false, not_false_eq_true, not_true_eq_false, false_implies, true_implies, Nat.reduceEqDiff, Nat.reduceAdd, Nat.reduceLT, Nat.reduceLeDiff, reduceIte, zB0, e0, N0]
  refine ⟨n, lo, la, x, rfl, hR, hN, ?_⟩
  by_cases q1 : zisB n x = true
  · simp only [e_cut, e_iload, e_aload, e_istore, e_astore, e_iinc, e_const, e_lconst, e_bin, e_bin0, e_un, e_ladd, e_dupi, e_dupr, e_dup2, e_pop, e_if, e_icmp, e_sw, e_sw0, e_sw1, e_get, e_put, e_ald, e_ast, e_aald, e_aast, e_copy, e_new, e_newa, e_anewa, e_min, e_abs, e_oinit, e_callI, e_callV, e_callS, e_iret, e_zret, e_lret, e_vret, e_tl1, e_tl0, e_tl2, e_tl3, z10, Bool.false_eq_true, e_argi, e_argr, e_argn, zld_c, zst_n, zst_c, zpick_n, zpick_c, List.drop_succ_cons, List.drop_zero, List.take_succ_cons, List.take_zero, List.length_cons, List.length_nil, List.reverse_cons, List.reverse_nil, List.nil_append, List.cons_append, List.append_nil, List.getElem?_cons_zero, List.getElem?_cons_succ, List.set_cons_zero, List.set_cons_succ, Nat.add_sub_cancel_left, Nat.sub_self, Nat.add_zero, Nat.zero_add, Nat.le_add_right, Nat.le_refl, true_and, and_true, va_rf, zok, Nat.add_left_cancel_iff, Nat.add_eq_left, Nat.left_eq_add, eq_self, if_true, if_false, not_false_eq_true, not_true_eq_false, false_implies, true_implies, Nat.reduceEqDiff, Nat.reduceAdd, Nat.reduceLT, Nat.reduceLeDiff, reduceIte, zB0, e0, N0, q1]
    refine ⟨n, lo, la, y, rfl, hR, hN, ?_⟩
    by_cases q2 : zisB n y = true
    · simp only [e_cut, e_iload, e_aload, e_istore, e_astore, e_iinc, e_const, e_lconst, e_bin, e_bin0, e_un, e_ladd, e_dupi, e_dupr, e_dup2, e_pop, e_if, e_icmp, e_sw, e_sw0, e_sw1, e_get, e_put, e_ald, e_ast, e_aald, e_aast, e_copy, e_new, e_newa, e_anewa, e_min, e_abs, e_oinit, e_callI, e_callV, e_callS, e_iret, e_zret, e_lret, e_vret, e_tl1, e_tl0, e_tl2, e_tl3, z10, Bool.false_eq_true, e_argi, e_argr, e_argn, zld_c, zst_n, zst_c, zpick_n, zpick_c, List.drop_succ_cons, List.drop_zero, List.take_succ_cons, List.take_zero, List.length_cons, List.length_nil, List.reverse_cons, List.reverse_nil, List.nil_append, List.cons_append, List.append_nil, List.getElem?_cons_zero, List.getElem?_cons_succ, List.set_cons_zero, List.set_cons_succ, Nat.add_sub_cancel_left, Nat.sub_self, Nat.add_zero, Nat.zero_add, Nat.le_add_right, Nat.le_refl, true_and, and_true, va_rf, zok, Nat.add_left_cancel_iff, Nat.add_eq_left, Nat.left_eq_add, eq_self, if_true, if_false, not_false_eq_true, not_true_eq_false, false_implies, true_implies, Nat.reduceEqDiff, Nat.reduceAdd, Nat.reduceLT, Nat.reduceLeDiff, reduceIte, zB0, e0, N0, q2]
      refine ⟨fun c1 => ?_, fun c1 => ?_⟩
      · have : ¬ zisP n x y = true := by simp [zisP, c1]
        rw [if_neg this] at hP; exact ⟨Or.inl trivial, hP⟩
      · have : zisP n x y = true := by simp [zisP, q1, q2, c1]
        rw [if_pos this] at hP; exact ⟨Or.inr trivial, hP⟩
    · have : ¬ zisP n x y = true := by simp [zisP, q2]
      rw [if_neg this] at hP
      simp only [e_cut, e_iload, e_aload, e_istore, e_astore, e_iinc, e_const, e_lconst, e_bin, e_bin0, e_un, e_ladd, e_dupi, e_dupr, e_dup2, e_pop, e_if, e_icmp, e_sw, e_sw0, e_sw1, e_get, e_put, e_ald, e_ast, e_aald, e_aast, e_copy, e_new, e_newa, e_anewa, e_min, e_abs, e_oinit, e_callI, e_callV, e_callS, e_iret, e_zret, e_lret, e_vret, e_tl1, e_tl0, e_tl2, e_tl3, z10, Bool.false_eq_true, e_argi, e_argr, e_argn, zld_c, zst_n, zst_c, zpick_n, zpick_c, List.drop_succ_cons, List.drop_zero, List.take_succ_cons, List.take_zero, List.length_cons, List.length_nil, List.reverse_cons, List.reverse_nil, List.nil_append, List.cons_append, List.append_nil, List.getElem?_cons_zero, List.getElem?_cons_succ, List.set_cons_zero, List.set_cons_succ, Nat.add_sub_cancel_left, Nat.sub_self, Nat.add_zero, Nat.zero_add, Nat.le_add_right, Nat.le_refl, true_and, and_true, va_rf, zok, Nat.add_left_cancel_iff, Nat.add_eq_left, Nat.left_eq_add, eq_self, if_true, if_false, not_false_eq_true, not_true_eq_false, false_implies, true_implies, Nat.reduceEqDiff, Nat.reduceAdd, Nat.reduceLT, Nat.reduceLeDiff, reduceIte, q2, B_X5_isPair_0, B_X5_isPair_25, B_X5_isPair_26]
      exact ⟨Or.inl trivial, hP⟩
  · have : ¬ zisP n x y = true := by simp [zisP, q1]
    rw [if_neg this] at hP
    simp only [e_cut, e_iload, e_aload, e_istore, e_astore, e_iinc, e_const, e_lconst, e_bin, e_bin0, e_un, e_ladd, e_dupi, e_dupr, e_dup2, e_pop, e_if, e_icmp, e_sw, e_sw0, e_sw1, e_get, e_put, e_ald, e_ast, e_aald, e_aast, e_copy, e_new, e_newa, e_anewa, e_min, e_abs, e_oinit, e_callI, e_callV, e_callS, e_iret, e_zret, e_lret, e_vret, e_tl1, e_tl0, e_tl2, e_tl3, z10, Bool.false_eq_true, e_argi, e_argr, e_argn, zld_c, zst_n, zst_c, zpick_n, zpick_c, List.drop_succ_cons, List.drop_zero, List.take_succ_cons, List.take_zero, List.length_cons, List.length_nil, List.reverse_cons, List.reverse_nil, List.nil_append, List.cons_append, List.append_nil, List.getElem?_cons_zero, List.getElem?_cons_succ, List.set_cons_zero, List.set_cons_succ, Nat.add_sub_cancel_left, Nat.sub_self, Nat.add_zero, Nat.zero_add, Nat.le_add_right, Nat.le_refl, true_and, and_true, va_rf, zok, Nat.add_left_cancel_iff, Nat.add_eq_left, Nat.left_eq_add, eq_self, if_true, if_false, not_false_eq_true, not_true_eq_false, false_implies, true_implies, Nat.reduceEqDiff, Nat.reduceAdd, Nat.reduceLT, Nat.reduceLeDiff, reduceIte, q1, B_X5_isPair_0, B_X5_isPair_25, B_X5_isPair_26]
    exact ⟨Or.inl trivial, hP⟩
set_option maxRecDepth 100000 in
set_option maxHeartbeats 4000000 in
theorem S_X5_isPair_26 {p : Program} {e : Env} {s : State} {m : MethodId} {args : Array Value} {below : List Frame} {meth : Method} {c : Code} {D : va_G} {cy : zY} {b n0 : Nat} {P : zPo} (la : Launch) (X : zX p la e (rm_X5_isPair) s m args below meth c 3 D cy b n0 cX5_isPair wsX5_isPair RX5) (hr : meth.sig.returnType = (some .boolean)) (h_X5_isRider : zMet la yX5_isRider wsX5_isRider rm_X5_isRider 0 0 sp_X5_isRider) : zS p la e (rm_X5_isPair) s m args below meth c (MQ below (zQ D b (n0 + 0) P) args s 0 0 (fun q => b ≤ q)) 3 D b n0 26 (B_X5_isPair_26 b n0 cy P (zAt p la e (rm_X5_isPair) s m args below meth c (MQ below (zQ D b (n0 + 0) P) args s 0 0 (fun q => b ≤ q)) 3 D b n0)) := by
  unfold B_X5_isPair_26
  exact (s_zret X dX5_isPair_26 hr)
set_option maxRecDepth 100000 in
set_option maxHeartbeats 4000000 in
theorem S_X5_isPair_25 {p : Program} {e : Env} {s : State} {m : MethodId} {args : Array Value} {below : List Frame} {meth : Method} {c : Code} {D : va_G} {cy : zY} {b n0 : Nat} {P : zPo} (la : Launch) (X : zX p la e (rm_X5_isPair) s m args below meth c 3 D cy b n0 cX5_isPair wsX5_isPair RX5) (hr : meth.sig.returnType = (some .boolean)) (h_X5_isRider : zMet la yX5_isRider wsX5_isRider rm_X5_isRider 0 0 sp_X5_isRider) : zS p la e (rm_X5_isPair) s m args below meth c (MQ below (zQ D b (n0 + 0) P) args s 0 0 (fun q => b ≤ q)) 3 D b n0 25 (B_X5_isPair_25 b n0 cy P (zAt p la e (rm_X5_isPair) s m args below meth c (MQ below (zQ D b (n0 + 0) P) args s 0 0 (fun q => b ≤ q)) 3 D b n0)) := by
  unfold B_X5_isPair_25
  exact (s_iconst X dX5_isPair_25 (by decide) (S_X5_isPair_26 la X hr h_X5_isRider))
set_option maxRecDepth 100000 in
set_option maxHeartbeats 4000000 in
theorem S_X5_isPair_0 {p : Program} {e : Env} {s : State} {m : MethodId} {args : Array Value} {below : List Frame} {meth : Method} {c : Code} {D : va_G} {cy : zY} {b n0 : Nat} {P : zPo} (la : Launch) (X : zX p la e (rm_X5_isPair) s m args below meth c 3 D cy b n0 cX5_isPair wsX5_isPair RX5) (hr : meth.sig.returnType = (some .boolean)) (h_X5_isRider : zMet la yX5_isRider wsX5_isRider rm_X5_isRider 0 0 sp_X5_isRider) : zS p la e (rm_X5_isPair) s m args below meth c (MQ below (zQ D b (n0 + 0) P) args s 0 0 (fun q => b ≤ q)) 3 D b n0 0 (B_X5_isPair_0 b n0 cy P (zAt p la e (rm_X5_isPair) s m args below meth c (MQ below (zQ D b (n0 + 0) P) args s 0 0 (fun q => b ≤ q)) 3 D b n0)) := by
  unfold B_X5_isPair_0
  exact (s_aload_n X dX5_isPair_0 rfl (s_iload_n X dX5_isPair_1 rfl (s_callV X h_X5_isRider dX5_isPair_2 rfl gX5_isPair_X5_isRider rfl rfl rfl (by decide +kernel) ⟨by decide, by decide⟩ (s_if_eq X dX5_isPair_5 (by decide) (S_X5_isPair_25 la X hr h_X5_isRider) (s_aload_n X dX5_isPair_8 rfl (s_iload_n X dX5_isPair_9 rfl (s_callV X h_X5_isRider dX5_isPair_10 rfl gX5_isPair_X5_isRider rfl rfl rfl (by decide +kernel) ⟨by decide, by decide⟩ (s_if_eq X dX5_isPair_13 (by decide) (S_X5_isPair_25 la X hr h_X5_isRider) (s_iload_n X dX5_isPair_16 rfl (s_iload_n X dX5_isPair_17 rfl (s_icmp_eq X dX5_isPair_18 (by decide) (S_X5_isPair_25 la X hr h_X5_isRider) (s_iconst X dX5_isPair_21 (by decide) (s_goto X dX5_isPair_22 (by decide) (S_X5_isPair_26 la X hr h_X5_isRider))))))))))))))
theorem w_X5_isPair (la : Launch) (h_X5_isRider : zMet la yX5_isRider wsX5_isRider rm_X5_isRider 0 0 sp_X5_isRider) (sp : zSp) (vc : zVC_X5_isPair sp) : zMet la yX5_isPair wsX5_isPair (rm_X5_isPair) 0 0 sp :=
  z_of (cc := cX5_isPair) (maxL := 3) (ret := (some .boolean)) (by decide +kernel) rfl (fun p e s m args below meth c D cy b n as E P hsp X hr hin => by
    obtain ⟨h1, h2⟩ := vc b cy n as E P (zAt p la e (rm_X5_isPair) s m args below meth c (MQ below (zQ D b (n + 0) P) args s 0 0 (fun q => b ≤ q)) 3 D b n) hsp
    exact ⟨h1, S_X5_isPair_0 la X hr h_X5_isRider _ _ _ _ _ h2⟩)

theorem m_X5_isPair (la : Launch) : zMet la yX5_isPair wsX5_isPair rm_X5_isPair 0 0 sp_X5_isPair := w_X5_isPair la (m_X5_isRider la) _ vc_X5_isPair
theorem zad_all : ∀ a : Fin 10, ∀ s : Fin 10, (if 0 ≤ nI a.val - nI s.val then nI a.val - nI s.val else 0 - (nI a.val - nI s.val)) = nI (zad a.val s.val) := by decide +kernel
theorem zad_i {a s : Nat} (ha : a ≤ 9) (hs : s ≤ 9) : (if 0 ≤ nI a - nI s then nI a - nI s else 0 - (nI a - nI s)) = nI (zad a s) := zad_all ⟨a, by omega⟩ ⟨s, by omega⟩
theorem zad_lt {a s : Nat} (ha : a ≤ 9) (hs : s ≤ 9) : zad a s ≤ 9 := by unfold zad; omega
def sp_X5_nearest : zSp := fun b cy as N E P => ∃ (n : Nat) (lo la : Nat → Nat) (i : Nat) (c : Nat → Nat) (r s : Nat), as = [.ref b, .ref (b + i), .int (nI r), .int (nI s)] ∧ zP1 b cy N E n lo la i c ∧ r < 6 ∧ s ≤ 9 ∧ P (some (.int (zrv (zwho n lo c r s 0)))) E
abbrev rm_X5_nearest : Room := { frames := 2, cells := 0, slots := 0, locals := 61 }
def B_X5_nearest_73 (b n0 : Nat) (cy : zY) (P : zPo) (A : Nat → zC) : zC :=
  z_iinc 6 (1) (z_cut [0, 1, 2, 3, 4, 5, 6] (A 10))
def B_X5_nearest_65 (b n0 : Nat) (cy : zY) (P : zPo) (A : Nat → zC) : zC :=
  z_iload 6 (z_istore 4 (z_iload 7 (z_istore 5 (B_X5_nearest_73 b n0 cy P A))))
def B_X5_nearest_10 (b n0 : Nat) (cy : zY) (P : zPo) (A : Nat → zC) : zC :=
  z_iload 6 (z_aload 0 (z_get b n0 5 1 (z_get b n0 4 0 (z_icmp (fun x y => y ≤ x) (z_iload 4 (z_iret 0 0 P)) (z_aload 1 (z_get b n0 1 4 (z_iload 6 (z_ald b n0 (cy 1) (z_iload 3 (z_bin (fun x y => x - y) (z_abs 0 0 (z_istore 7 (z_iload 6 (z_iload 2 (z_icmp (fun x y => x = y) (B_X5_nearest_73 b n0 cy P A) (z_aload 1 (z_iload 6 (z_callV b n0 0 0 cy 1 1 0 0 sp_X1_isAboard (z_if (fun x => x = 0) (B_X5_nearest_73 b n0 cy P A) (z_iload 4 (z_const (-9) (z_icmp (fun x y => x = y) (B_X5_nearest_65 b n0 cy P A) (z_iload 7 (z_iload 5 (z_icmp (fun x y => y ≤ x) (B_X5_nearest_73 b n0 cy P A) (B_X5_nearest_65 b n0 cy P A))))))))))))))))))))))))))
def B_X5_nearest_0 (b n0 : Nat) (cy : zY) (P : zPo) (A : Nat → zC) : zC :=
  z_const (-9) (z_istore 4 (z_const (0) (z_istore 5 (z_const (0) (z_istore 6 (z_cut [0, 1, 2, 3, 4, 5, 6] (A 10)))))))
def zVC_X5_nearest (sp : zSp) : Prop := ∀ (b : Nat) (cy : zY) (n : Nat) (as : List Value) (E : zE) (P : zPo) (A : Nat → zC), (∀ l st k u E, B_X5_nearest_10 b n cy P A l st k u E → A 10 l st k u E) → sp b cy as n E P → zgood as 8 ∧ B_X5_nearest_0 b n cy P A (lv_args 0 as) [] 0 0 E

set_option maxRecDepth 100000 in
set_option maxHeartbeats 4000000 in
theorem vc_X5_nearest : zVC_X5_nearest sp_X5_nearest := by
  intro b cy N as E P A hA hsp
  obtain ⟨n, lo, la, i, c, r, s, rfl, ⟨⟨⟨kept, cnt, tr, e0⟩, ⟨seat, line, items, ⟨hn, f, g, h, h0, h1, h2, h3, hf, hg, hh⟩⟩, hlo⟩, hmo, hok, hi, hN⟩, hr, hs, hP⟩ := hsp
  refine ⟨⟨Nat.le_of_ble_eq_true rfl, zg1 rfl (zg1 rfl (zg1 rfl (zg1 rfl (zg0))))⟩, ?_⟩
  have N0 : 0 < N := by omega
  have N3 : 3 < N := by omega
  obtain ⟨hn', mf, mg, mh, m0, m1, m2, m3, hmf, hmg, hmh⟩ := id hmo
  have hi0 : i < N := by omega
  have hi1 : i + 1 < N := by omega
  unfold zwho at hP
  generalize hok1 : (fun q => decide (q ≠ r) && (c 1).testBit q) = ok at hP
  generalize hbt1 : (fun q f => if 0 = 0 then decide (zad (c (4 + q)) s < zad (c (4 + f)) s) else if 0 = 1 then decide (lo f < lo q) else decide ((q + 6 - r) % 6 < (f + 6 - r) % 6)) = bt at hP
  have loop : ∀ (d k : Nat) (w : Int32) (hd : d + k = n), (∀ f, zfo ok bt k = some f → w = nI (zad (c (4 + f)) s)) → A 10 [(0, .ref b), (1, .ref (b + i)), (2, .int (nI r)), (3, .int (nI s)), (4, .int (zrv (zfo ok bt k))), (5, .int w), (6, .int (nI k))] [] 0 0 E := by
    intro d
    induction d with
    | zero =>
      intro k w hd hw
      obtain rfl : k = n := by omega
      apply hA
      have cle : nI k ≤ nI k := nI_le (Nat.le_refl _) (by omega)
      simp only [B_X5_nearest_0, B_X5_nearest_10, B_X5_nearest_65, B_X5_nearest_73, e_cut, e_iload, e_aload, e_istore, e_astore, e_iinc, e_const, e_lconst, e_bin, e_bin0, e_un, e_ladd, e_dupi, e_dupr, e_dup2, e_pop, e_if, e_icmp, e_sw, e_sw0, e_sw1, e_get, e_put, e_ald, e_ast, e_aald, e_aast, e_copy, e_new, e_newa, e_anewa, e_min, e_abs, e_oinit, e_callI, e_callV, e_callS, e_iret, e_zret, e_lret, e_vret, e_tl1, e_tl0, e_tl2, e_tl3, z10, Bool.false_eq_true, e_argi, e_argr, e_argn, zld_c, zst_n, zst_c, zpick_n, zpick_c, List.drop_succ_cons, List.drop_zero, List.take_succ_cons, List.take_zero, List.length_cons, List.length_nil, List.reverse_cons, List.reverse_nil, List.nil_append, List.cons_append, List.append_nil, List.getElem?_cons_zero, List.getElem?_cons_succ, List.set_cons_zero, List.set_cons_succ, Nat.add_sub_cancel_left, Nat.sub_self, Nat.add_zero, Nat.zero_add, Nat.le_add_right, Nat.le_refl, true_and, and_true, va_rf, zok, Nat.add_left_cancel_iff, Nat.add_eq_left, Nat.left_eq_add, eq_self, if_true, if_false, not_false_eq_true, not_true_eq_false, false_implies, true_implies, Nat.reduceEqDiff, Nat.reduceAdd, Nat.reduceLT, Nat.reduceLeDiff, reduceIte, zB0, e0, N0, N3, h0, cle]
      exact hP
    | succ d ih =>
      intro k w hd hw
      have hk : k < n := by omega
      have hk6 : k < 6 := by omega
      apply hA
      have cle : ¬ nI n ≤ nI k := nI_ge hk (by omega)
      have hin : vp_in (nI k) 6 := vp_in_nI hk6 (by omega)
      have hcl : (nI k).toNatClampNeg = k := nI_clamp (by omega)
      have hs9 := hok.2.2.2.2.1 k hk
      simp only [B_X5_nearest_0, B_X5_nearest_10, B_X5_nearest_65, B_X5_nearest_73, e_cut, e_iload, e_aload, e_istore, e_astore, e_iinc, e_const, e_lconst, e_bin, e_bin0, e_un, e_ladd, e_dupi, e_dupr, e_dup2, e_pop, e_if, e_icmp, e_sw, e_sw0, e_sw1, e_get, e_put, e_ald, e_ast, e_aald, e_aast, e_copy, e_new, e_newa, e_anewa, e_min, e_abs, e_oinit, e_callI, e_callV, e_callS, e_iret, e_zret, e_lret, e_vret, e_tl1, e_tl0, e_tl2, e_tl3, z10, Bool.false_eq_true, e_argi, e_argr, e_argn, zld_c, zst_n, zst_c, zpick_n, zpick_c, List.drop_succ_cons, List.drop_zero, List.take_succ_cons, List.take_zero, List.length_cons, List.length_nil, List.reverse_cons, List.reverse_nil, List.nil_append, List.cons_append, List.append_nil, List.getElem?_cons_zero, List.getElem?_cons_succ, List.set_cons_zero, List.set_cons_succ, Nat.add_sub_cancel_left, Nat.sub_self, Nat.add_zero, Nat.zero_add, Nat.le_add_right, Nat.le_refl, true_and, and_true, va_rf, zok, Nat.add_left_cancel_iff, Nat.add_eq_left, Nat.left_eq_add, eq_self, if_true, if_false, not_false_eq_true, not_true_eq_false, false_implies, true_implies, Nat.reduceEqDiff, Nat.reduceAdd, Nat.reduceLT, Nat.reduceLeDiff, reduceIte, zB0, e0, N0, N3, h0, cle, m0, m1, hi0, hi1, hin, hcl, hmf k hk, zad_i hs9 hs, nI_eq (show k < 2 ^ 31 by omega) (show r < 2 ^ 31 by omega), nI_1]
      refine ⟨fun c1 => ?_, fun c1 => ?_⟩
      · have e : zfo ok bt (k + 1) = zfo ok bt k := zfo_no (by rw [← hok1]; simp [c1])
        have h9 := ih (k + 1) w (by omega) (by rw [e]; exact hw)
        rw [e] at h9; exact h9
      · refine ⟨i, k, n, c, rfl, hmo, hi, hk6, hok.l64, ?_⟩
        by_cases q1 : (c 1).testBit k = true
        · have hokk : ok k = true := by rw [← hok1]; simp [c1, q1]
          cases hz : zfo ok bt k with
          | none =>
            simp only [e_cut, e_iload, e_aload, e_istore, e_astore, e_iinc, e_const, e_lconst, e_bin, e_bin0, e_un, e_ladd, e_dupi, e_dupr, e_dup2, e_pop, e_if, e_icmp, e_sw, e_sw0, e_sw1, e_get, e_put, e_ald, e_ast, e_aald, e_aast, e_copy, e_new, e_newa, e_anewa, e_min, e_abs, e_oinit, e_callI, e_callV, e_callS, e_iret, e_zret, e_lret, e_vret, e_tl1, e_tl0, e_tl2, e_tl3, z10, Bool.false_eq_true, e_argi, e_argr, e_argn, zld_c, zst_n, zst_c, zpick_n, zpick_c, List.drop_succ_cons, List.drop_zero, List.take_succ_cons, List.take_zero, List.length_cons, List.length_nil, List.reverse_cons, List.reverse_nil, List.nil_append, List.cons_append, List.append_nil, List.getElem?_cons_zero, List.getElem?_cons_succ, List.set_cons_zero, List.set_cons_succ, Nat.add_sub_cancel_left, Nat.sub_self, Nat.add_zero, Nat.zero_add, Nat.le_add_right, Nat.le_refl, true_and, and_true, va_rf, zok, Nat.add_left_cancel_iff, Nat.add_eq_left, Nat.left_eq_add, eq_self, if_true, if_false, not_false_eq_true, not_true_eq_false, false_implies, true_implies, Nat.reduceEqDiff, Nat.reduceAdd, Nat.reduceLT, Nat.reduceLeDiff, reduceIte, q1, zrv, nI_1]
            have e : zfo ok bt (k + 1) = some k := zfo_n hokk hz
            have h9 := ih (k + 1) (nI (zad (c (4 + k)) s)) (by omega) (by rw [e]; intro f hf; cases hf; rfl)
            rw [e] at h9; exact h9
          | some f0 =>
            have hf0 := (zfo_lt hz).1
            have w0 := hw f0 hz
            subst w0
            have hf9 := hok.2.2.2.2.1 f0 (by omega)
            have l1 := zad_lt hs9 hs
            have l2 := zad_lt hf9 hs
            simp only [e_cut, e_iload, e_aload, e_istore, e_astore, e_iinc, e_const, e_lconst, e_bin, e_bin0, e_un, e_ladd, e_dupi, e_dupr, e_dup2, e_pop, e_if, e_icmp, e_sw, e_sw0, e_sw1, e_get, e_put, e_ald, e_ast, e_aald, e_aast, e_copy, e_new, e_newa, e_anewa, e_min, e_abs, e_oinit, e_callI, e_callV, e_callS, e_iret, e_zret, e_lret, e_vret, e_tl1, e_tl0, e_tl2, e_tl3, z10, Bool.false_eq_true, e_argi, e_argr, e_argn, zld_c, zst_n, zst_c, zpick_n, zpick_c, List.drop_succ_cons, List.drop_zero, List.take_succ_cons, List.take_zero, List.length_cons, List.length_nil, List.reverse_cons, List.reverse_nil, List.nil_append, List.cons_append, List.append_nil, List.getElem?_cons_zero, List.getElem?_cons_succ, List.set_cons_zero, List.set_cons_succ, Nat.add_sub_cancel_left, Nat.sub_self, Nat.add_zero, Nat.zero_add, Nat.le_add_right, Nat.le_refl, true_and, and_true, va_rf, zok, Nat.add_left_cancel_iff, Nat.add_eq_left, Nat.left_eq_add, eq_self, if_true, if_false, not_false_eq_true, not_true_eq_false, false_implies, true_implies, Nat.reduceEqDiff, Nat.reduceAdd, Nat.reduceLT, Nat.reduceLeDiff, reduceIte, q1, zrv, zrv_nn (show f0 < 6 by omega), nI_1, nI_leI (show zad (c (4 + f0)) s < 2 ^ 31 by omega) (show zad (c (4 + k)) s < 2 ^ 31 by omega)]
            refine ⟨fun c2 => ?_, fun c2 => ?_⟩
            · have e : zfo ok bt (k + 1) = zfo ok bt k := zfo_w hz (by rw [← hbt1]; simp; omega)
              have h9 := ih (k + 1) (nI (zad (c (4 + f0)) s)) (by omega) (by rw [e]; exact hw)
              rw [e, hz] at h9; exact h9
            · have e : zfo ok bt (k + 1) = some k := zfo_y hokk hz (by rw [← hbt1]; simp; omega)
              have h9 := ih (k + 1) (nI (zad (c (4 + k)) s)) (by omega) (by rw [e]; intro f hf; cases hf; rfl)
              rw [e] at h9; exact h9
        · simp only [e_cut, e_iload, e_aload, e_istore, e_astore, e_iinc, e_const, e_lconst, e_bin, e_bin0, e_un, e_ladd, e_dupi, e_dupr, e_dup2, e_pop, e_if, e_icmp, e_sw, e_sw0, e_sw1, e_get, e_put, e_ald, e_ast, e_aald, e_aast, e_copy, e_new, e_newa, e_anewa, e_min, e_abs, e_oinit, e_callI, e_callV, e_callS, e_iret, e_zret, e_lret, e_vret, e_tl1, e_tl0, e_tl2, e_tl3, z10, Bool.false_eq_true, e_argi, e_argr, e_argn, zld_c, zst_n, zst_c, zpick_n, zpick_c, List.drop_succ_cons, List.drop_zero, List.take_succ_cons, List.take_zero, List.length_cons, List.length_nil, List.reverse_cons, List.reverse_nil, List.nil_append, List.cons_append, List.append_nil, List.getElem?_cons_zero, List.getElem?_cons_succ, List.set_cons_zero, List.set_cons_succ, Nat.add_sub_cancel_left, Nat.sub_self, Nat.add_zero, Nat.zero_add, Nat.le_add_right, Nat.le_refl, true_and, and_true, va_rf, zok, Nat.add_left_cancel_iff, Nat.add_eq_left, Nat.left_eq_add, eq_self, if_true, if_false, not_false_eq_true, not_true_eq_false, false_implies, true_implies, Nat.reduceEqDiff, Nat.reduceAdd, Nat.reduceLT, Nat.reduceLeDiff, reduceIte, q1, B_X5_nearest_0, B_X5_nearest_10, B_X5_nearest_65, B_X5_nearest_73, nI_1]
          have e : zfo ok bt (k + 1) = zfo ok bt k := zfo_no (by rw [← hok1]; simp [q1])
          have h9 := ih (k + 1) w (by omega) (by rw [e]; exact hw)
          rw [e] at h9; exact h9
  simp only [B_X5_nearest_0, B_X5_nearest_10, B_X5_nearest_65, B_X5_nearest_73, e_cut, e_iload, e_aload, e_istore, e_astore, e_iinc, e_const, e_lconst, e_bin, e_bin0, e_un, e_ladd, e_dupi, e_dupr, e_dup2, e_pop, e_if, e_icmp, e_sw, e_sw0, e_sw1, e_get, e_put, e_ald, e_ast, e_aald, e_aast, e_copy, e_new, e_newa, e_anewa, e_min, e_abs, e_oinit, e_callI, e_callV, e_callS, e_iret, e_zret, e_lret, e_vret, e_tl1, e_tl0, e_tl2, e_tl3, z10, Bool.false_eq_true, e_argi, e_argr, e_argn, zld_c, zst_n, zst_c, zpick_n, zpick_c, List.drop_succ_cons, List.drop_zero, List.take_succ_cons, List.take_zero, List.length_cons, List.length_nil, List.reverse_cons, List.reverse_nil, List.nil_append, List.cons_append, List.append_nil, List.getElem?_cons_zero, List.getElem?_cons_succ, List.set_cons_zero, List.set_cons_succ, Nat.add_sub_cancel_left, Nat.sub_self, Nat.add_zero, Nat.zero_add, Nat.le_add_right, Nat.le_refl, true_and, and_true, va_rf, zok, Nat.add_left_cancel_iff, Nat.add_eq_left, Nat.left_eq_add, eq_self, if_true, if_false, not_false_eq_true, not_true_eq_false, false_implies, true_implies, Nat.reduceEqDiff, Nat.reduceAdd, Nat.reduceLT, Nat.reduceLeDiff, reduceIte]
  exact loop n 0 0 rfl (fun f hf => by cases hf)
set_option maxRecDepth 20000 in
theorem f_X5_nearest_19 : Cond.fieldLink RX5 19 (TX5 1).1 (TX5 1).2.1 (TX5 1).2.2.1 ∈ wsX5_nearest := by decide +kernel
set_option maxRecDepth 20000 in
theorem k_X5_nearest_5 : ∀ w ∈ u_ws RX5 TX5 11, w ∈ wsX5_nearest := fun _ h => List.mem_cons_of_mem _ (List.mem_append_left _ (List.mem_append_left _ (List.mem_append_right _ h)))
set_option maxRecDepth 20000 in
theorem f_X5_nearest_200 : Cond.fieldLink RX5 200 (TX4 0).1 (TX4 0).2.1 (TX4 0).2.2.1 ∈ wsX5_nearest := by decide +kernel
set_option maxRecDepth 20000 in
theorem k_X5_nearest_4 : ∀ w ∈ u_ws RX4 TX4 6, w ∈ wsX5_nearest := fun _ h => List.mem_cons_of_mem _ (List.mem_append_left _ (List.mem_append_right _ h))
set_option maxRecDepth 20000 in
theorem f_X5_nearest_79 : Cond.fieldLink RX5 79 (TX1 4).1 (TX1 4).2.1 (TX1 4).2.2.1 ∈ wsX5_nearest := by decide +kernel
set_option maxRecDepth 20000 in
theorem k_X5_nearest_1 : ∀ w ∈ u_ws RX1 TX1 7, w ∈ wsX5_nearest := fun _ h => List.mem_cons_of_mem _ (List.mem_append_right _ h)
set_option maxRecDepth 20000 in
theorem f_X5_nearest_m244 : Cond.methodLink RX5 244 Lib.Math.abs.name ∈ wsX5_nearest := by decide +kernel
set_option maxRecDepth 20000 in
theorem f_X5_nearest_abss : Cond.static Lib.Math.abs.name ∈ wsX5_nearest := by decide +kernel
set_option maxRecDepth 20000 in
theorem f_X5_nearest_mi : Cond.initialized "java/lang/Math" ∈ wsX5_nearest := by decide +kernel
set_option maxRecDepth 20000 in
theorem f_X5_nearest_absc : Cond.code Lib.Math.abs.name Lib.Math.abs.code 1 (some .int) ∈ wsX5_nearest := by decide +kernel
set_option maxRecDepth 100000 in
set_option maxHeartbeats 4000000 in
theorem S_X5_nearest_73 {p : Program} {e : Env} {s : State} {m : MethodId} {args : Array Value} {below : List Frame} {meth : Method} {c : Code} {D : va_G} {cy : zY} {b n0 : Nat} {P : zPo} (la : Launch) (X : zX p la e (rm_X5_nearest) s m args below meth c 8 D cy b n0 cX5_nearest wsX5_nearest RX5) (hr : meth.sig.returnType = (some .int)) (h_X1_isAboard : zMet la yX1_isAboard wsX1_isAboard rm_X1_isAboard 0 0 sp_X1_isAboard) : zS p la e (rm_X5_nearest) s m args below meth c (MQ below (zQ D b (n0 + 0) P) args s 0 0 (fun q => b ≤ q)) 8 D b n0 73 (B_X5_nearest_73 b n0 cy P (zAt p la e (rm_X5_nearest) s m args below meth c (MQ below (zQ D b (n0 + 0) P) args s 0 0 (fun q => b ≤ q)) 8 D b n0)) := by
  unfold B_X5_nearest_73
  exact (s_iinc X dX5_nearest_73 (by decide) (by decide) (s_goto X dX5_nearest_76 (by decide) (s_cut (by decide) zS_at)))
set_option maxRecDepth 100000 in
set_option maxHeartbeats 4000000 in
theorem S_X5_nearest_65 {p : Program} {e : Env} {s : State} {m : MethodId} {args : Array Value} {below : List Frame} {meth : Method} {c : Code} {D : va_G} {cy : zY} {b n0 : Nat} {P : zPo} (la : Launch) (X : zX p la e (rm_X5_nearest) s m args below meth c 8 D cy b n0 cX5_nearest wsX5_nearest RX5) (hr : meth.sig.returnType = (some .int)) (h_X1_isAboard : zMet la yX1_isAboard wsX1_isAboard rm_X1_isAboard 0 0 sp_X1_isAboard) : zS p la e (rm_X5_nearest) s m args below meth c (MQ below (zQ D b (n0 + 0) P) args s 0 0 (fun q => b ≤ q)) 8 D b n0 65 (B_X5_nearest_65 b n0 cy P (zAt p la e (rm_X5_nearest) s m args below meth c (MQ below (zQ D b (n0 + 0) P) args s 0 0 (fun q => b ≤ q)) 8 D b n0)) := by
  unfold B_X5_nearest_65
  exact (s_iload X dX5_nearest_65 (s_istore X dX5_nearest_67 (by decide) (s_iload X dX5_nearest_69 (s_istore X dX5_nearest_71 (by decide) (S_X5_nearest_73 la X hr h_X1_isAboard)))))
set_option maxRecDepth 100000 in
set_option maxHeartbeats 4000000 in
theorem S_X5_nearest_10 {p : Program} {e : Env} {s : State} {m : MethodId} {args : Array Value} {below : List Frame} {meth : Method} {c : Code} {D : va_G} {cy : zY} {b n0 : Nat} {P : zPo} (la : Launch) (X : zX p la e (rm_X5_nearest) s m args below meth c 8 D cy b n0 cX5_nearest wsX5_nearest RX5) (hr : meth.sig.returnType = (some .int)) (h_X1_isAboard : zMet la yX1_isAboard wsX1_isAboard rm_X1_isAboard 0 0 sp_X1_isAboard) : zS p la e (rm_X5_nearest) s m args below meth c (MQ below (zQ D b (n0 + 0) P) args s 0 0 (fun q => b ≤ q)) 8 D b n0 10 (B_X5_nearest_10 b n0 cy P (zAt p la e (rm_X5_nearest) s m args below meth c (MQ below (zQ D b (n0 + 0) P) args s 0 0 (fun q => b ≤ q)) 8 D b n0)) := by
  unfold B_X5_nearest_10
  exact (s_iload X dX5_nearest_10 (s_aload_n X dX5_nearest_12 rfl (s_get X dX5_nearest_13 rfl k_X5_nearest_5 (by decide) f_X5_nearest_19 (s_get X dX5_nearest_16 rfl k_X5_nearest_4 (by decide) f_X5_nearest_200 (s_icmp_ge X dX5_nearest_19 (by decide) (s_iload X dX5_nearest_79 (s_iret X dX5_nearest_81 hr)) (s_aload_n X dX5_nearest_22 rfl (s_get X dX5_nearest_23 rfl k_X5_nearest_1 (by decide) f_X5_nearest_79 (s_iload X dX5_nearest_26 (s_iald X dX5_nearest_28 (s_iload_n X dX5_nearest_29 rfl (s_isub X dX5_nearest_30 (s_abs X dX5_nearest_31 f_X5_nearest_m244 f_X5_nearest_abss f_X5_nearest_mi f_X5_nearest_absc (by decide) (by decide) (s_istore X dX5_nearest_34 (by decide) (s_iload X dX5_nearest_36 (s_iload_n X dX5_nearest_38 rfl (s_icmp_eq X dX5_nearest_39 (by decide) (S_X5_nearest_73 la X hr h_X1_isAboard) (s_aload_n X dX5_nearest_42 rfl (s_iload X dX5_nearest_43 (s_callV X h_X1_isAboard dX5_nearest_45 rfl gX5_nearest_X1_isAboard rfl rfl rfl (by decide +kernel) ⟨by decide, by decide⟩ (s_if_eq X dX5_nearest_48 (by decide) (S_X5_nearest_73 la X hr h_X1_isAboard) (s_iload X dX5_nearest_51 (s_bipush X dX5_nearest_53 (by decide) (s_icmp_eq X dX5_nearest_55 (by decide) (S_X5_nearest_65 la X hr h_X1_isAboard) (s_iload X dX5_nearest_58 (s_iload X dX5_nearest_60 (s_icmp_ge X dX5_nearest_62 (by decide) (S_X5_nearest_73 la X hr h_X1_isAboard) (S_X5_nearest_65 la X hr h_X1_isAboard)))))))))))))))))))))))))))
set_option maxRecDepth 100000 in
set_option maxHeartbeats 4000000 in
theorem S_X5_nearest_0 {p : Program} {e : Env} {s : State} {m : MethodId} {args : Array Value} {below : List Frame} {meth : Method} {c : Code} {D : va_G} {cy : zY} {b n0 : Nat} {P : zPo} (la : Launch) (X : zX p la e (rm_X5_nearest) s m args below meth c 8 D cy b n0 cX5_nearest wsX5_nearest RX5) (hr : meth.sig.returnType = (some .int)) (h_X1_isAboard : zMet la yX1_isAboard wsX1_isAboard rm_X1_isAboard 0 0 sp_X1_isAboard) : zS p la e (rm_X5_nearest) s m args below meth c (MQ below (zQ D b (n0 + 0) P) args s 0 0 (fun q => b ≤ q)) 8 D b n0 0 (B_X5_nearest_0 b n0 cy P (zAt p la e (rm_X5_nearest) s m args below meth c (MQ below (zQ D b (n0 + 0) P) args s 0 0 (fun q => b ≤ q)) 8 D b n0)) := by
  unfold B_X5_nearest_0
  exact (s_bipush X dX5_nearest_0 (by decide) (s_istore X dX5_nearest_2 (by decide) (s_iconst X dX5_nearest_4 (by decide) (s_istore X dX5_nearest_5 (by decide) (s_iconst X dX5_nearest_7 (by decide) (s_istore X dX5_nearest_8 (by decide) (s_cut (by decide) zS_at)))))))
theorem w_X5_nearest (la : Launch) (h_X1_isAboard : zMet la yX1_isAboard wsX1_isAboard rm_X1_isAboard 0 0 sp_X1_isAboard) (sp : zSp) (vc : zVC_X5_nearest sp) : zMet la yX5_nearest wsX5_nearest (rm_X5_nearest) 0 0 sp :=
  z_of (cc := cX5_nearest) (maxL := 8) (ret := (some .int)) (by decide +kernel) rfl (fun p e s m args below meth c D cy b n as E P hsp X hr hin => by
    obtain ⟨h1, h2⟩ := vc b cy n as E P (zAt p la e (rm_X5_nearest) s m args below meth c (MQ below (zQ D b (n + 0) P) args s 0 0 (fun q => b ≤ q)) 8 D b n) (fun _ _ _ _ _ q => S_X5_nearest_10 la X hr h_X1_isAboard _ _ _ _ _ q) hsp
    exact ⟨h1, S_X5_nearest_0 la X hr h_X1_isAboard _ _ _ _ _ h2⟩)

theorem m_X5_nearest (la : Launch) : zMet la yX5_nearest wsX5_nearest rm_X5_nearest 0 0 sp_X5_nearest := w_X5_nearest la (m_X1_isAboard la) _ vc_X5_nearest

