def zSh (b : Nat) (cy : zY) (E : zE) (i : Nat) : Prop := ∃ (s0 s1 s2 s3 : Int32) (f g h : Nat → Int32), E i = .inr (1, [.int s0, .int s1, .int s2, .int s3, .ref (b + (i + 1)), .ref (b + (i + 2)), .ref (b + (i + 3))]) ∧ E (i + 1) = .inl (cy 1, 6, .inl f) ∧ E (i + 2) = .inl (cy 1, 6, .inl g) ∧ E (i + 3) = .inl (cy 1, 36, .inl h)
theorem zMo.sh {b : Nat} {cy : zY} {E : zE} {i n : Nat} {c : Nat → Nat} (h : zMo b cy E i n c) : zSh b cy E i := by
  obtain ⟨_, f, g, w, h0, h1, h2, h3, _⟩ := h
  exact ⟨_, _, _, _, f, g, w, h0, h1, h2, h3⟩
theorem zSh.congr {b : Nat} {cy : zY} {E E' : zE} {i : Nat} (h : zSh b cy E i) (hE : ∀ j, i ≤ j → j ≤ i + 3 → E' j = E j) : zSh b cy E' i := by
  obtain ⟨s0, s1, s2, s3, f, g, w, h0, h1, h2, h3⟩ := h
  exact ⟨s0, s1, s2, s3, f, g, w, by rw [hE _ (by omega) (by omega)]; exact h0, by rw [hE _ (by omega) (by omega)]; exact h1, by rw [hE _ (by omega) (by omega)]; exact h2, by rw [hE _ (by omega) (by omega)]; exact h3⟩
/-- what a Told at place j tells: n riders -/
def zTo (b : Nat) (cy : zY) (E : zE) (j n : Nat) (lo la seat : Nat → Nat) (line : Nat) (items : Int32) : Prop := n ≤ 6 ∧ ∃ f g h : Nat → Int32, E j = .inr (4, [.int (nI n), .int items, .int (nI line), .ref (b + (j + 1)), .ref (b + (j + 2)), .ref (b + (j + 3))]) ∧ E (j + 1) = .inl (cy 1, 6, .inl f) ∧ E (j + 2) = .inl (cy 1, 6, .inl g) ∧ E (j + 3) = .inl (cy 1, 6, .inl h) ∧ (∀ q, q < n → f q = nI (seat q)) ∧ (∀ q, q < n → g q = nI (lo q)) ∧ (∀ q, q < n → h q = nI (la q))
def zToS (b : Nat) (cy : zY) (E : zE) (j : Nat) : Prop := ∃ (s0 s1 s2 : Int32) (f g h : Nat → Int32), E j = .inr (4, [.int s0, .int s1, .int s2, .ref (b + (j + 1)), .ref (b + (j + 2)), .ref (b + (j + 3))]) ∧ E (j + 1) = .inl (cy 1, 6, .inl f) ∧ E (j + 2) = .inl (cy 1, 6, .inl g) ∧ E (j + 3) = .inl (cy 1, 6, .inl h)
theorem zTo.congr {b : Nat} {cy : zY} {E E' : zE} {j n : Nat} {lo la seat : Nat → Nat} {line : Nat} {items : Int32} (h : zTo b cy E j n lo la seat line items) (hE : ∀ k, j ≤ k → k ≤ j + 3 → E' k = E k) : zTo b cy E' j n lo la seat line items := by
  obtain ⟨hn, f, g, w, h0, h1, h2, h3, r⟩ := h
  exact ⟨hn, f, g, w, by rw [hE _ (by omega) (by omega)]; exact h0, by rw [hE _ (by omega) (by omega)]; exact h1, by rw [hE _ (by omega) (by omega)]; exact h2, by rw [hE _ (by omega) (by omega)]; exact h3, r⟩
theorem zTo.sh {b : Nat} {cy : zY} {E : zE} {j n : Nat} {lo la seat : Nat → Nat} {line : Nat} {items : Int32} (h : zTo b cy E j n lo la seat line items) : zToS b cy E j := by
  obtain ⟨hn, f, g, w, h0, h1, h2, h3, r⟩ := h
  exact ⟨_, _, _, f, g, w, h0, h1, h2, h3⟩
theorem zToS.congr {b : Nat} {cy : zY} {E E' : zE} {j : Nat} (h : zToS b cy E j) (hE : ∀ k, j ≤ k → k ≤ j + 3 → E' k = E k) : zToS b cy E' j := by
  obtain ⟨s0, s1, s2, f, g, w, h0, h1, h2, h3⟩ := h
  exact ⟨s0, s1, s2, f, g, w, by rw [hE _ (by omega) (by omega)]; exact h0, by rw [hE _ (by omega) (by omega)]; exact h1, by rw [hE _ (by omega) (by omega)]; exact h2, by rw [hE _ (by omega) (by omega)]; exact h3⟩
def sp_X1_areAboard : zSp := fun b cy as N E P => ∃ (i n : Nat) (x : Int32) (c : Nat → Nat), as = [.ref (b + i), .int x] ∧ zMo b cy E i n c ∧ i + 3 < N ∧ P (some (.int (if x &&& (nI (c 1) ^^^ (-1)) = 0 then 1 else 0))) E
abbrev rm_X1_areAboard : Room := { frames := 1, cells := 0, slots := 0, locals := 40 }
def B_X1_areAboard_16 (b n0 : Nat) (cy : zY) (P : zPo) (A : Nat → zC) : zC :=
  z_zret 0 0 P
def B_X1_areAboard_0 (b n0 : Nat) (cy : zY) (P : zPo) (A : Nat → zC) : zC :=
  z_iload 1 (z_aload 0 (z_get b n0 1 1 (z_const (-1) (z_bin (fun x y => x ^^^ y) (z_bin (fun x y => x &&& y) (z_if (fun x => x = 0) (z_const (1) (B_X1_areAboard_16 b n0 cy P A)) (z_const (0) (B_X1_areAboard_16 b n0 cy P A))))))))
def zVC_X1_areAboard (sp : zSp) : Prop := ∀ (b : Nat) (cy : zY) (n : Nat) (as : List Value) (E : zE) (P : zPo) (A : Nat → zC), sp b cy as n E P → zgood as 2 ∧ B_X1_areAboard_0 b n cy P A (lv_args 0 as) [] 0 0 E

set_option maxRecDepth 100000 in
set_option maxHeartbeats 4000000 in
theorem vc_X1_areAboard : zVC_X1_areAboard sp_X1_areAboard := by
  intro b cy N as E P A hsp
  obtain ⟨i, n, x, c, rfl, ⟨hn, f, g, h, h0, h1, h2, h3, hf, hg, hh⟩, hi, hP⟩ := hsp
  refine ⟨⟨Nat.le_of_ble_eq_true rfl, zg1 rfl (zg1 rfl (zg0))⟩, ?_⟩
  have hi0 : i < N := by omega
  simp only [B_X1_areAboard_0, B_X1_areAboard_16, e_cut, e_iload, e_aload, e_istore, e_astore, e_iinc, e_const, e_lconst, e_bin, e_bin0, e_un, e_ladd, e_dupi, e_dupr, e_dup2, e_pop, e_if, e_icmp, e_sw, e_sw0, e_sw1, e_get, e_put, e_ald, e_ast, e_aald, e_aast, e_copy, e_new, e_newa, e_anewa, e_min, e_abs, e_oinit, e_callI, e_callV, e_callS, e_iret, e_zret, e_lret, e_vret, e_tl1, e_tl0, e_tl2, e_tl3, z10, Bool.false_eq_true, e_argi, e_argr, e_argn, zld_c, zst_n, zst_c, zpick_n, zpick_c, List.drop_succ_cons, List.drop_zero, List.take_succ_cons, List.take_zero, List.length_cons, List.length_nil, List.reverse_cons, List.reverse_nil, List.nil_append, List.cons_append, List.append_nil, List.getElem?_cons_zero, List.getElem?_cons_succ, List.set_cons_zero, List.set_cons_succ, Nat.add_sub_cancel_left, Nat.sub_self, Nat.add_zero, Nat.zero_add, Nat.le_add_right, Nat.le_refl, true_and, and_true, va_rf, zok, Nat.add_left_cancel_iff, Nat.add_eq_left, Nat.left_eq_add, eq_self, if_true, if_false, not_false_eq_true, not_true_eq_false, false_implies, true_implies, Nat.reduceEqDiff, Nat.reduceAdd, Nat.reduceLT, Nat.reduceLeDiff, reduceIte, h0, hi0]
  exact ⟨fun c1 => by rw [if_pos c1] at hP; exact ⟨Or.inr trivial, hP⟩, fun c1 => by rw [if_neg c1] at hP; exact ⟨Or.inl trivial, hP⟩⟩
set_option maxRecDepth 20000 in
theorem f_X1_areAboard_30 : Cond.fieldLink RX1 30 (TX1 1).1 (TX1 1).2.1 (TX1 1).2.2.1 ∈ wsX1_areAboard := by decide +kernel
set_option maxRecDepth 20000 in
theorem k_X1_areAboard_1 : ∀ w ∈ u_ws RX1 TX1 7, w ∈ wsX1_areAboard := fun _ h => List.mem_cons_of_mem _ (List.mem_append_right _ h)
set_option maxRecDepth 100000 in
set_option maxHeartbeats 4000000 in
theorem S_X1_areAboard_16 {p : Program} {e : Env} {s : State} {m : MethodId} {args : Array Value} {below : List Frame} {meth : Method} {c : Code} {D : va_G} {cy : zY} {b n0 : Nat} {P : zPo} (la : Launch) (X : zX p la e (rm_X1_areAboard) s m args below meth c 2 D cy b n0 cX1_areAboard wsX1_areAboard RX1) (hr : meth.sig.returnType = (some .boolean)) : zS p la e (rm_X1_areAboard) s m args below meth c (MQ below (zQ D b (n0 + 0) P) args s 0 0 (fun q => b ≤ q)) 2 D b n0 16 (B_X1_areAboard_16 b n0 cy P (zAt p la e (rm_X1_areAboard) s m args below meth c (MQ below (zQ D b (n0 + 0) P) args s 0 0 (fun q => b ≤ q)) 2 D b n0)) := by
  unfold B_X1_areAboard_16
  exact (s_zret X dX1_areAboard_16 hr)
set_option maxRecDepth 100000 in
set_option maxHeartbeats 4000000 in
theorem S_X1_areAboard_0 {p : Program} {e : Env} {s : State} {m : MethodId} {args : Array Value} {below : List Frame} {meth : Method} {c : Code} {D : va_G} {cy : zY} {b n0 : Nat} {P : zPo} (la : Launch) (X : zX p la e (rm_X1_areAboard) s m args below meth c 2 D cy b n0 cX1_areAboard wsX1_areAboard RX1) (hr : meth.sig.returnType = (some .boolean)) : zS p la e (rm_X1_areAboard) s m args below meth c (MQ below (zQ D b (n0 + 0) P) args s 0 0 (fun q => b ≤ q)) 2 D b n0 0 (B_X1_areAboard_0 b n0 cy P (zAt p la e (rm_X1_areAboard) s m args below meth c (MQ below (zQ D b (n0 + 0) P) args s 0 0 (fun q => b ≤ q)) 2 D b n0)) := by
  unfold B_X1_areAboard_0
  exact (s_iload_n X dX1_areAboard_0 rfl (s_aload_n X dX1_areAboard_1 rfl (s_get X dX1_areAboard_2 rfl k_X1_areAboard_1 (by decide) f_X1_areAboard_30 (s_iconst X dX1_areAboard_5 (by decide) (s_ixor X dX1_areAboard_6 (s_iand X dX1_areAboard_7 (s_if_ne X dX1_areAboard_8 (by decide) (s_iconst X dX1_areAboard_15 (by decide) (S_X1_areAboard_16 la X hr)) (s_iconst X dX1_areAboard_11 (by decide) (s_goto X dX1_areAboard_12 (by decide) (S_X1_areAboard_16 la X hr))))))))))
theorem w_X1_areAboard (la : Launch) (sp : zSp) (vc : zVC_X1_areAboard sp) : zMet la yX1_areAboard wsX1_areAboard (rm_X1_areAboard) 0 0 sp :=
  z_of (cc := cX1_areAboard) (maxL := 2) (ret := (some .boolean)) (by decide +kernel) rfl (fun p e s m args below meth c D cy b n as E P hsp X hr hin => by
    obtain ⟨h1, h2⟩ := vc b cy n as E P (zAt p la e (rm_X1_areAboard) s m args below meth c (MQ below (zQ D b (n + 0) P) args s 0 0 (fun q => b ≤ q)) 2 D b n) hsp
    exact ⟨h1, S_X1_areAboard_0 la X hr _ _ _ _ _ h2⟩)

theorem m_X1_areAboard (la : Launch) : zMet la yX1_areAboard wsX1_areAboard rm_X1_areAboard 0 0 sp_X1_areAboard := w_X1_areAboard la _ vc_X1_areAboard
def sp_X1_getDown : zSp := fun b cy as N E P => ∃ (i n : Nat) (o : Option Nat) (c : Nat → Nat), as = [.ref (b + i), .int (zrv o)] ∧ zMo b cy E i n c ∧ i + 3 < N ∧ c 1 < 64 ∧ (∀ q, o = some q → q < 6) ∧ (∀ E', zMo b cy E' i n (zdown c o) → (∀ j, j < i ∨ i + 3 < j → E' j = E j) → P (some (.int (zrv o))) E')
abbrev rm_X1_getDown : Room := { frames := 1, cells := 0, slots := 0, locals := 40 }
def B_X1_getDown_43 (b n0 : Nat) (cy : zY) (P : zPo) (A : Nat → zC) : zC :=
  z_iload 1 (z_iret 0 0 P)
def B_X1_getDown_0 (b n0 : Nat) (cy : zY) (P : zPo) (A : Nat → zC) : zC :=
  z_iload 1 (z_const (-9) (z_icmp (fun x y => x = y) (z_aload 0 (z_dup (z_get b n0 1 3 (z_const (1) (z_bin (fun x y => x + y) (z_put b n0 1 3 0 (B_X1_getDown_43 b n0 cy P A))))))) (z_aload 0 (z_dup (z_get b n0 1 1 (z_const (1) (z_iload 1 (z_bin (fun x y => x <<< (y &&& 31)) (z_const (-1) (z_bin (fun x y => x ^^^ y) (z_bin (fun x y => x &&& y) (z_put b n0 1 1 0 (z_aload 0 (z_get b n0 1 5 (z_iload 1 (z_aload 0 (z_get b n0 1 0 (z_ast b n0 (cy 1) (fun x => x) (B_X1_getDown_43 b n0 cy P A)))))))))))))))))))
def zVC_X1_getDown (sp : zSp) : Prop := ∀ (b : Nat) (cy : zY) (n : Nat) (as : List Value) (E : zE) (P : zPo) (A : Nat → zC), sp b cy as n E P → zgood as 2 ∧ B_X1_getDown_0 b n cy P A (lv_args 0 as) [] 0 0 E

theorem zrv_ne : ∀ q : Fin 6, ¬ nI q.val = -9 := by decide +kernel
theorem zrv_nn {q : Nat} (h : q < 6) : ¬ nI q = -9 := zrv_ne ⟨q, h⟩
set_option maxRecDepth 100000 in
set_option maxHeartbeats 4000000 in
theorem vc_X1_getDown : zVC_X1_getDown sp_X1_getDown := by
  intro b cy N as E P A hsp
  obtain ⟨i, n, o, c, rfl, ⟨hn, f, g, h, h0, h1, h2, h3, hf, hg, hh⟩, hi, hc, ho, hP⟩ := hsp
  refine ⟨⟨Nat.le_of_ble_eq_true rfl, zg1 rfl (zg1 rfl (zg0))⟩, ?_⟩
  have hi0 : i < N := by omega
  have hi2 : i + 2 < N := by omega
  cases o with
  | none =>
    simp only [B_X1_getDown_0, B_X1_getDown_43, e_cut, e_iload, e_aload, e_istore, e_astore, e_iinc, e_const, e_lconst, e_bin, e_bin0, e_un, e_ladd, e_dupi, e_dupr, e_dup2, e_pop, e_if, e_icmp, e_sw, e_sw0, e_sw1, e_get, e_put, e_ald, e_ast, e_aald, e_aast, e_copy, e_new, e_newa, e_anewa, e_min, e_abs, e_oinit, e_callI, e_callV, e_callS, e_iret, e_zret, e_lret, e_vret, e_tl1, e_tl0, e_tl2, e_tl3, z10, Bool.false_eq_true, e_argi, e_argr, e_argn, zld_c, zst_n, zst_c, zpick_n, zpick_c, List.drop_succ_cons, List.drop_zero, List.take_succ_cons, List.take_zero, List.length_cons, List.length_nil, List.reverse_cons, List.reverse_nil, List.nil_append, List.cons_append, List.append_nil, List.getElem?_cons_zero, List.getElem?_cons_succ, List.set_cons_zero, List.set_cons_succ, Nat.add_sub_cancel_left, Nat.sub_self, Nat.add_zero, Nat.zero_add, Nat.le_add_right, Nat.le_refl, true_and, and_true, va_rf, zok, Nat.add_left_cancel_iff, Nat.add_eq_left, Nat.left_eq_add, eq_self, if_true, if_false, not_false_eq_true, not_true_eq_false, false_implies, true_implies, Nat.reduceEqDiff, Nat.reduceAdd, Nat.reduceLT, Nat.reduceLeDiff, reduceIte, h0, hi0, zrv, e_up, if_true]
    refine hP _ ⟨hn, f, g, h, ?_, ?_, ?_, ?_, ?_, ?_, ?_⟩ ?_
    · simp [e_up, zdown, zup, nI_1]
    · simp [e_up, h1]
    · simp [e_up, h2]
    · simp [e_up, h3]
    · intro j hj; simp only [zdown, zup]; rw [if_neg (by omega)]; exact hf j hj
    · intro j hj; simp only [zdown, zup]; rw [if_neg (by omega)]; exact hg j hj
    · intro j hj; simp only [zdown, zup]; rw [if_neg (by omega)]; exact hh j hj
    · intro j hj
      have a1 : ¬ j = i := by omega
      simp [e_up, a1]
  | some q =>
    have hq := ho q rfl
    have hin : vp_in (nI q) 6 := vp_in_nI (by omega) (by omega)
    have hcl : (nI q).toNatClampNeg = q := nI_clamp (by omega)
    simp only [B_X1_getDown_0, B_X1_getDown_43, e_cut, e_iload, e_aload, e_istore, e_astore, e_iinc, e_const, e_lconst, e_bin, e_bin0, e_un, e_ladd, e_dupi, e_dupr, e_dup2, e_pop, e_if, e_icmp, e_sw, e_sw0, e_sw1, e_get, e_put, e_ald, e_ast, e_aald, e_aast, e_copy, e_new, e_newa, e_anewa, e_min, e_abs, e_oinit, e_callI, e_callV, e_callS, e_iret, e_zret, e_lret, e_vret, e_tl1, e_tl0, e_tl2, e_tl3, z10, Bool.false_eq_true, e_argi, e_argr, e_argn, zld_c, zst_n, zst_c, zpick_n, zpick_c, List.drop_succ_cons, List.drop_zero, List.take_succ_cons, List.take_zero, List.length_cons, List.length_nil, List.reverse_cons, List.reverse_nil, List.nil_append, List.cons_append, List.append_nil, List.getElem?_cons_zero, List.getElem?_cons_succ, List.set_cons_zero, List.set_cons_succ, Nat.add_sub_cancel_left, Nat.sub_self, Nat.add_zero, Nat.zero_add, Nat.le_add_right, Nat.le_refl, true_and, and_true, va_rf, zok, Nat.add_left_cancel_iff, Nat.add_eq_left, Nat.left_eq_add, eq_self, if_true, if_false, not_false_eq_true, not_true_eq_false, false_implies, true_implies, Nat.reduceEqDiff, Nat.reduceAdd, Nat.reduceLT, Nat.reduceLeDiff, reduceIte, h0, h2, hi0, hi2, zrv, e_up, if_true, if_false, zclr_i hc hq, hin, hcl, zrv_nn hq]
    refine hP _ ⟨hn, f, upd g q (nI (c 0)), h, ?_, ?_, ?_, ?_, ?_, ?_, ?_⟩ ?_
    · simp [e_up, zdown, zup]
      refine ⟨?_, ?_, ?_, ?_⟩ <;> rw [if_neg (by omega)]
    · simp [e_up, h1]
    · simp [e_up]
    · simp [e_up, h3]
    · intro j hj; simp only [zdown, zup]; rw [if_neg (by omega), if_neg (by omega)]; exact hf j hj
    · intro j hj
      simp only [zdown, zup, upd]
      by_cases h9 : j = q
      · rw [if_pos h9, if_pos (by omega)]; simp [zdn]
      · rw [if_neg h9, if_neg (by omega), if_neg (by omega)]; exact hg j hj
    · intro j hj; simp only [zdown, zup]; rw [if_neg (by omega), if_neg (by omega)]; exact hh j hj
    · intro j hj
      have a1 : ¬ j = i := by omega
      have a2 : ¬ j = i + 2 := by omega
      simp [e_up, a1, a2]
set_option maxRecDepth 20000 in
theorem f_X1_getDown_30 : Cond.fieldLink RX1 30 (TX1 1).1 (TX1 1).2.1 (TX1 1).2.2.1 ∈ wsX1_getDown := by decide +kernel
set_option maxRecDepth 20000 in
theorem k_X1_getDown_1 : ∀ w ∈ u_ws RX1 TX1 7, w ∈ wsX1_getDown := fun _ h => List.mem_cons_of_mem _ (List.mem_append_right _ h)
set_option maxRecDepth 20000 in
theorem f_X1_getDown_15 : Cond.fieldLink RX1 15 (TX1 5).1 (TX1 5).2.1 (TX1 5).2.2.1 ∈ wsX1_getDown := by decide +kernel
set_option maxRecDepth 20000 in
theorem f_X1_getDown_21 : Cond.fieldLink RX1 21 (TX1 0).1 (TX1 0).2.1 (TX1 0).2.2.1 ∈ wsX1_getDown := by decide +kernel
set_option maxRecDepth 20000 in
theorem f_X1_getDown_36 : Cond.fieldLink RX1 36 (TX1 3).1 (TX1 3).2.1 (TX1 3).2.2.1 ∈ wsX1_getDown := by decide +kernel
set_option maxRecDepth 100000 in
set_option maxHeartbeats 4000000 in
theorem S_X1_getDown_43 {p : Program} {e : Env} {s : State} {m : MethodId} {args : Array Value} {below : List Frame} {meth : Method} {c : Code} {D : va_G} {cy : zY} {b n0 : Nat} {P : zPo} (la : Launch) (X : zX p la e (rm_X1_getDown) s m args below meth c 2 D cy b n0 cX1_getDown wsX1_getDown RX1) (hr : meth.sig.returnType = (some .int)) : zS p la e (rm_X1_getDown) s m args below meth c (MQ below (zQ D b (n0 + 0) P) args s 0 0 (fun q => b ≤ q)) 2 D b n0 43 (B_X1_getDown_43 b n0 cy P (zAt p la e (rm_X1_getDown) s m args below meth c (MQ below (zQ D b (n0 + 0) P) args s 0 0 (fun q => b ≤ q)) 2 D b n0)) := by
  unfold B_X1_getDown_43
  exact (s_iload_n X dX1_getDown_43 rfl (s_iret X dX1_getDown_44 hr))
set_option maxRecDepth 100000 in
set_option maxHeartbeats 4000000 in
theorem S_X1_getDown_0 {p : Program} {e : Env} {s : State} {m : MethodId} {args : Array Value} {below : List Frame} {meth : Method} {c : Code} {D : va_G} {cy : zY} {b n0 : Nat} {P : zPo} (la : Launch) (X : zX p la e (rm_X1_getDown) s m args below meth c 2 D cy b n0 cX1_getDown wsX1_getDown RX1) (hr : meth.sig.returnType = (some .int)) : zS p la e (rm_X1_getDown) s m args below meth c (MQ below (zQ D b (n0 + 0) P) args s 0 0 (fun q => b ≤ q)) 2 D b n0 0 (B_X1_getDown_0 b n0 cy P (zAt p la e (rm_X1_getDown) s m args below meth c (MQ below (zQ D b (n0 + 0) P) args s 0 0 (fun q => b ≤ q)) 2 D b n0)) := by
  unfold B_X1_getDown_0
  exact (s_iload_n X dX1_getDown_0 rfl (s_bipush X dX1_getDown_1 (by decide) (s_icmp_ne X dX1_getDown_3 (by decide) (s_aload_n X dX1_getDown_19 rfl (s_dup X dX1_getDown_20 (s_get X dX1_getDown_21 rfl k_X1_getDown_1 (by decide) f_X1_getDown_30 (s_iconst X dX1_getDown_24 (by decide) (s_iload_n X dX1_getDown_25 rfl (s_ishl X dX1_getDown_26 (s_iconst X dX1_getDown_27 (by decide) (s_ixor X dX1_getDown_28 (s_iand X dX1_getDown_29 (s_put X dX1_getDown_30 rfl k_X1_getDown_1 tyX1_ok nmX1 (by decide) f_X1_getDown_30 rfl (tyX1_ok 1 (by decide)) zok_int (s_aload_n X dX1_getDown_33 rfl (s_get X dX1_getDown_34 rfl k_X1_getDown_1 (by decide) f_X1_getDown_15 (s_iload_n X dX1_getDown_37 rfl (s_aload_n X dX1_getDown_38 rfl (s_get X dX1_getDown_39 rfl k_X1_getDown_1 (by decide) f_X1_getDown_21 (s_iast X dX1_getDown_42 (S_X1_getDown_43 la X hr))))))))))))))))) (s_aload_n X dX1_getDown_6 rfl (s_dup X dX1_getDown_7 (s_get X dX1_getDown_8 rfl k_X1_getDown_1 (by decide) f_X1_getDown_36 (s_iconst X dX1_getDown_11 (by decide) (s_iadd X dX1_getDown_12 (s_put X dX1_getDown_13 rfl k_X1_getDown_1 tyX1_ok nmX1 (by decide) f_X1_getDown_36 rfl (tyX1_ok 3 (by decide)) zok_int (s_goto X dX1_getDown_16 (by decide) (S_X1_getDown_43 la X hr)))))))))))
theorem w_X1_getDown (la : Launch) (sp : zSp) (vc : zVC_X1_getDown sp) : zMet la yX1_getDown wsX1_getDown (rm_X1_getDown) 0 0 sp :=
  z_of (cc := cX1_getDown) (maxL := 2) (ret := (some .int)) (by decide +kernel) rfl (fun p e s m args below meth c D cy b n as E P hsp X hr hin => by
    obtain ⟨h1, h2⟩ := vc b cy n as E P (zAt p la e (rm_X1_getDown) s m args below meth c (MQ below (zQ D b (n + 0) P) args s 0 0 (fun q => b ≤ q)) 2 D b n) hsp
    exact ⟨h1, S_X1_getDown_0 la X hr _ _ _ _ _ h2⟩)

theorem m_X1_getDown (la : Launch) : zMet la yX1_getDown wsX1_getDown rm_X1_getDown 0 0 sp_X1_getDown := w_X1_getDown la _ vc_X1_getDown
def sp_X1_copyFrom : zSp := fun b cy as N E P => ∃ (i j n : Nat) (c : Nat → Nat), as = [.ref (b + i), .ref (b + j)] ∧ zSh b cy E i ∧ zMo b cy E j n c ∧ i + 3 < N ∧ j + 3 < N ∧ (i + 3 < j ∨ j + 3 < i) ∧ (∀ E', zMo b cy E' i n c → (∀ k, k < i ∨ i + 3 < k → E' k = E k) → P none E')
abbrev rm_X1_copyFrom : Room := { frames := 1, cells := 0, slots := 0, locals := 40 }
def B_X1_copyFrom_0 (b n0 : Nat) (cy : zY) (P : zPo) (A : Nat → zC) : zC :=
  z_aload 0 (z_aload 1 (z_get b n0 1 0 (z_put b n0 1 0 0 (z_aload 0 (z_aload 1 (z_get b n0 1 1 (z_put b n0 1 1 0 (z_aload 0 (z_aload 1 (z_get b n0 1 2 (z_put b n0 1 2 0 (z_aload 0 (z_aload 1 (z_get b n0 1 3 (z_put b n0 1 3 0 (z_aload 1 (z_get b n0 1 4 (z_const (0) (z_aload 0 (z_get b n0 1 4 (z_const (0) (z_const (6) (z_copy b n0 (cy 1) (z_aload 1 (z_get b n0 1 5 (z_const (0) (z_aload 0 (z_get b n0 1 5 (z_const (0) (z_const (6) (z_copy b n0 (cy 1) (z_aload 1 (z_get b n0 1 6 (z_const (0) (z_aload 0 (z_get b n0 1 6 (z_const (0) (z_const (36) (z_copy b n0 (cy 1) (z_vret 0 0 P))))))))))))))))))))))))))))))))))))))))
def zVC_X1_copyFrom (sp : zSp) : Prop := ∀ (b : Nat) (cy : zY) (n : Nat) (as : List Value) (E : zE) (P : zPo) (A : Nat → zC), sp b cy as n E P → zgood as 2 ∧ B_X1_copyFrom_0 b n cy P A (lv_args 0 as) [] 0 0 E

theorem zcpy_in {f g : Nat → Int32} {n j : Nat} (h : j < n) : va_cpy f g 0 0 n j = f j := by
  have := pk_cpy_in (f := f) (g := g) (sp := 0) (dp := 0) (n := n) (j := j) (Nat.zero_le _) (by omega)
  simpa using this
set_option maxRecDepth 100000 in
set_option maxHeartbeats 4000000 in
theorem vc_X1_copyFrom : zVC_X1_copyFrom sp_X1_copyFrom := by
  intro b cy N as E P A hsp
  obtain ⟨i, j, n, c, rfl, ⟨s0, s1, s2, s3, f1, g1, k1, i0, i1, i2, i3⟩, ⟨hn, f, g, h, h0, h1, h2, h3, hf, hg, hh⟩, hi, hj, hij, hP⟩ := hsp
  refine ⟨⟨Nat.le_of_ble_eq_true rfl, zg1 rfl (zg1 rfl (zg0))⟩, ?_⟩
  have hi0 : i < N := by omega
  have hi1 : i + 1 < N := by omega
  have hi2 : i + 2 < N := by omega
  have hj0 : j < N := by omega
  have hj1 : j + 1 < N := by omega
  have hj2 : j + 2 < N := by omega
  have nn_0_0 : (j = i) = False := eq_false (by omega)
  have nn_0_1 : (j = i + 1) = False := eq_false (by omega)
  have nn_0_2 : (j = i + 2) = False := eq_false (by omega)
  have nn_0_3 : (j = i + 3) = False := eq_false (by omega)
  have nn_1_0 : (j + 1 = i) = False := eq_false (by omega)
  have nn_1_1 : (j + 1 = i + 1) = False := eq_false (by omega)
  have nn_1_2 : (j + 1 = i + 2) = False := eq_false (by omega)
  have nn_1_3 : (j + 1 = i + 3) = False := eq_false (by omega)
  have nn_2_0 : (j + 2 = i) = False := eq_false (by omega)
  have nn_2_1 : (j + 2 = i + 1) = False := eq_false (by omega)
  have nn_2_2 : (j + 2 = i + 2) = False := eq_false (by omega)
  have nn_2_3 : (j + 2 = i + 3) = False := eq_false (by omega)
  have nn_3_0 : (j + 3 = i) = False := eq_false (by omega)
  have nn_3_1 : (j + 3 = i + 1) = False := eq_false (by omega)
  have nn_3_2 : (j + 3 = i + 2) = False := eq_false (by omega)
  have nn_3_3 : (j + 3 = i + 3) = False := eq_false (by omega)
  have d6 : (6 : Int32).toNatClampNeg = 6 := rfl
  have d36 : (36 : Int32).toNatClampNeg = 36 := rfl
  have d60 : ¬ (6 : Int32) < 0 := by decide
  have d61 : ¬ (36 : Int32) < 0 := by decide
  simp only [B_X1_copyFrom_0, e_cut, e_iload, e_aload, e_istore, e_astore, e_iinc, e_const, e_lconst, e_bin, e_bin0, e_un, e_ladd, e_dupi, e_dupr, e_dup2, e_pop, e_if, e_icmp, e_sw, e_sw0, e_sw1, e_get, e_put, e_ald, e_ast, e_aald, e_aast, e_copy, e_new, e_newa, e_anewa, e_min, e_abs, e_oinit, e_callI, e_callV, e_callS, e_iret, e_zret, e_lret, e_vret, e_tl1, e_tl0, e_tl2, e_tl3, z10, Bool.false_eq_true, e_argi, e_argr, e_argn, zld_c, zst_n, zst_c, zpick_n, zpick_c, List.drop_succ_cons, List.drop_zero, List.take_succ_cons, List.take_zero, List.length_cons, List.length_nil, List.reverse_cons, List.reverse_nil, List.nil_append, List.cons_append, List.append_nil, List.getElem?_cons_zero, List.getElem?_cons_succ, List.set_cons_zero, List.set_cons_succ, Nat.add_sub_cancel_left, Nat.sub_self, Nat.add_zero, Nat.zero_add, Nat.le_add_right, Nat.le_refl, true_and, and_true, va_rf, zok, Nat.add_left_cancel_iff, Nat.add_eq_left, Nat.left_eq_add, eq_self, if_true, if_false, not_false_eq_true, not_true_eq_false, false_implies, true_implies, Nat.reduceEqDiff, Nat.reduceAdd, Nat.reduceLT, Nat.reduceLeDiff, reduceIte, h0, h1, h2, h3, i0, i1, i2, i3, hi0, hi1, hi2, hi, hj0, hj1, hj2, hj, e_up, nn_0_0, nn_0_1, nn_0_2, nn_0_3, nn_1_0, nn_1_1, nn_1_2, nn_1_3, nn_2_0, nn_2_1, nn_2_2, nn_2_3, nn_3_0, nn_3_1, nn_3_2, nn_3_3, if_true, if_false, d6, d36, d60, d61, not_false_eq_true]
  refine hP _ ⟨hn, va_cpy f f1 0 0 6, va_cpy g g1 0 0 6, va_cpy h k1 0 0 36, ?_, ?_, ?_, ?_, ?_, ?_, ?_⟩ ?_
  · simp [e_up]
  · simp [e_up]
  · simp [e_up]
  · simp [e_up]
  · intro t ht; rw [zcpy_in (by omega)]; exact hf t ht
  · intro t ht; rw [zcpy_in (by omega)]; exact hg t ht
  · intro t ht; rw [zcpy_in (by omega)]; exact hh t ht
  · intro t ht
    have a0 : ¬ t = i := by omega
    have a1 : ¬ t = i + 1 := by omega
    have a2 : ¬ t = i + 2 := by omega
    have a3 : ¬ t = i + 3 := by omega
    simp [e_up, a0, a1, a2, a3]
set_option maxRecDepth 20000 in
theorem f_X1_copyFrom_21 : Cond.fieldLink RX1 21 (TX1 0).1 (TX1 0).2.1 (TX1 0).2.2.1 ∈ wsX1_copyFrom := by decide +kernel
set_option maxRecDepth 20000 in
theorem k_X1_copyFrom_1 : ∀ w ∈ u_ws RX1 TX1 7, w ∈ wsX1_copyFrom := fun _ h => List.mem_cons_of_mem _ (List.mem_append_right _ h)
set_option maxRecDepth 20000 in
theorem f_X1_copyFrom_30 : Cond.fieldLink RX1 30 (TX1 1).1 (TX1 1).2.1 (TX1 1).2.2.1 ∈ wsX1_copyFrom := by decide +kernel
set_option maxRecDepth 20000 in
theorem f_X1_copyFrom_33 : Cond.fieldLink RX1 33 (TX1 2).1 (TX1 2).2.1 (TX1 2).2.2.1 ∈ wsX1_copyFrom := by decide +kernel
set_option maxRecDepth 20000 in
theorem f_X1_copyFrom_36 : Cond.fieldLink RX1 36 (TX1 3).1 (TX1 3).2.1 (TX1 3).2.2.1 ∈ wsX1_copyFrom := by decide +kernel
set_option maxRecDepth 20000 in
theorem f_X1_copyFrom_9 : Cond.fieldLink RX1 9 (TX1 4).1 (TX1 4).2.1 (TX1 4).2.2.1 ∈ wsX1_copyFrom := by decide +kernel
set_option maxRecDepth 20000 in
theorem f_X1_copyFrom_m40 : Cond.methodLink RX1 40 arraycopyName ∈ wsX1_copyFrom := by decide +kernel
set_option maxRecDepth 20000 in
theorem f_X1_copyFrom_cn : Cond.native arraycopyName ∈ wsX1_copyFrom := by decide +kernel
set_option maxRecDepth 20000 in
theorem f_X1_copyFrom_cs : Cond.static arraycopyName ∈ wsX1_copyFrom := by decide +kernel
set_option maxRecDepth 20000 in
theorem f_X1_copyFrom_ci : Cond.initialized "java/lang/System" ∈ wsX1_copyFrom := by decide +kernel
set_option maxRecDepth 20000 in
theorem f_X1_copyFrom_15 : Cond.fieldLink RX1 15 (TX1 5).1 (TX1 5).2.1 (TX1 5).2.2.1 ∈ wsX1_copyFrom := by decide +kernel
set_option maxRecDepth 20000 in
theorem f_X1_copyFrom_18 : Cond.fieldLink RX1 18 (TX1 6).1 (TX1 6).2.1 (TX1 6).2.2.1 ∈ wsX1_copyFrom := by decide +kernel
set_option maxRecDepth 100000 in
set_option maxHeartbeats 4000000 in
theorem S_X1_copyFrom_0 {p : Program} {e : Env} {s : State} {m : MethodId} {args : Array Value} {below : List Frame} {meth : Method} {c : Code} {D : va_G} {cy : zY} {b n0 : Nat} {P : zPo} (la : Launch) (X : zX p la e (rm_X1_copyFrom) s m args below meth c 2 D cy b n0 cX1_copyFrom wsX1_copyFrom RX1) (hr : meth.sig.returnType = none) : zS p la e (rm_X1_copyFrom) s m args below meth c (MQ below (zQ D b (n0 + 0) P) args s 0 0 (fun q => b ≤ q)) 2 D b n0 0 (B_X1_copyFrom_0 b n0 cy P (zAt p la e (rm_X1_copyFrom) s m args below meth c (MQ below (zQ D b (n0 + 0) P) args s 0 0 (fun q => b ≤ q)) 2 D b n0)) := by
  unfold B_X1_copyFrom_0
  exact (s_aload_n X dX1_copyFrom_0 rfl (s_aload_n X dX1_copyFrom_1 rfl (s_get X dX1_copyFrom_2 rfl k_X1_copyFrom_1 (by decide) f_X1_copyFrom_21 (s_put X dX1_copyFrom_5 rfl k_X1_copyFrom_1 tyX1_ok nmX1 (by decide) f_X1_copyFrom_21 rfl (tyX1_ok 0 (by decide)) zok_int (s_aload_n X dX1_copyFrom_8 rfl (s_aload_n X dX1_copyFrom_9 rfl (s_get X dX1_copyFrom_10 rfl k_X1_copyFrom_1 (by decide) f_X1_copyFrom_30 (s_put X dX1_copyFrom_13 rfl k_X1_copyFrom_1 tyX1_ok nmX1 (by decide) f_X1_copyFrom_30 rfl (tyX1_ok 1 (by decide)) zok_int (s_aload_n X dX1_copyFrom_16 rfl (s_aload_n X dX1_copyFrom_17 rfl (s_get X dX1_copyFrom_18 rfl k_X1_copyFrom_1 (by decide) f_X1_copyFrom_33 (s_put X dX1_copyFrom_21 rfl k_X1_copyFrom_1 tyX1_ok nmX1 (by decide) f_X1_copyFrom_33 rfl (tyX1_ok 2 (by decide)) zok_int (s_aload_n X dX1_copyFrom_24 rfl (s_aload_n X dX1_copyFrom_25 rfl (s_get X dX1_copyFrom_26 rfl k_X1_copyFrom_1 (by decide) f_X1_copyFrom_36 (s_put X dX1_copyFrom_29 rfl k_X1_copyFrom_1 tyX1_ok nmX1 (by decide) f_X1_copyFrom_36 rfl (tyX1_ok 3 (by decide)) zok_int (s_aload_n X dX1_copyFrom_32 rfl (s_get X dX1_copyFrom_33 rfl k_X1_copyFrom_1 (by decide) f_X1_copyFrom_9 (s_iconst X dX1_copyFrom_36 (by decide) (s_aload_n X dX1_copyFrom_37 rfl (s_get X dX1_copyFrom_38 rfl k_X1_copyFrom_1 (by decide) f_X1_copyFrom_9 (s_iconst X dX1_copyFrom_41 (by decide) (s_bipush X dX1_copyFrom_42 (by decide) (s_copy X dX1_copyFrom_44 f_X1_copyFrom_m40 f_X1_copyFrom_cn f_X1_copyFrom_cs f_X1_copyFrom_ci (by decide) (by decide) (s_aload_n X dX1_copyFrom_47 rfl (s_get X dX1_copyFrom_48 rfl k_X1_copyFrom_1 (by decide) f_X1_copyFrom_15 (s_iconst X dX1_copyFrom_51 (by decide) (s_aload_n X dX1_copyFrom_52 rfl (s_get X dX1_copyFrom_53 rfl k_X1_copyFrom_1 (by decide) f_X1_copyFrom_15 (s_iconst X dX1_copyFrom_56 (by decide) (s_bipush X dX1_copyFrom_57 (by decide) (s_copy X dX1_copyFrom_59 f_X1_copyFrom_m40 f_X1_copyFrom_cn f_X1_copyFrom_cs f_X1_copyFrom_ci (by decide) (by decide) (s_aload_n X dX1_copyFrom_62 rfl (s_get X dX1_copyFrom_63 rfl k_X1_copyFrom_1 (by decide) f_X1_copyFrom_18 (s_iconst X dX1_copyFrom_66 (by decide) (s_aload_n X dX1_copyFrom_67 rfl (s_get X dX1_copyFrom_68 rfl k_X1_copyFrom_1 (by decide) f_X1_copyFrom_18 (s_iconst X dX1_copyFrom_71 (by decide) (s_bipush X dX1_copyFrom_72 (by decide) (s_copy X dX1_copyFrom_74 f_X1_copyFrom_m40 f_X1_copyFrom_cn f_X1_copyFrom_cs f_X1_copyFrom_ci (by decide) (by decide) (s_vret X dX1_copyFrom_77 hr)))))))))))))))))))))))))))))))))))))))))
theorem w_X1_copyFrom (la : Launch) (sp : zSp) (vc : zVC_X1_copyFrom sp) : zMet la yX1_copyFrom wsX1_copyFrom (rm_X1_copyFrom) 0 0 sp :=
  z_of (cc := cX1_copyFrom) (maxL := 2) (ret := none) (by decide +kernel) rfl (fun p e s m args below meth c D cy b n as E P hsp X hr hin => by
    obtain ⟨h1, h2⟩ := vc b cy n as E P (zAt p la e (rm_X1_copyFrom) s m args below meth c (MQ below (zQ D b (n + 0) P) args s 0 0 (fun q => b ≤ q)) 2 D b n) hsp
    exact ⟨h1, S_X1_copyFrom_0 la X hr _ _ _ _ _ h2⟩)

theorem m_X1_copyFrom (la : Launch) : zMet la yX1_copyFrom wsX1_copyFrom rm_X1_copyFrom 0 0 sp_X1_copyFrom := w_X1_copyFrom la _ vc_X1_copyFrom
/-- a moment with which a car begins -/
def zfresh (n : Nat) (seat : Nat → Nat) : Nat → Nat := fun k => if k = 1 then 2 ^ n - 1 else if 4 ≤ k ∧ k < 10 then seat (k - 4) else 0
def sp_X1_begin : zSp := fun b cy as N E P => ∃ (i j n : Nat) (lo la seat : Nat → Nat) (line : Nat) (items : Int32), as = [.ref (b + i), .ref (b + j)] ∧ zSh b cy E i ∧ zTo b cy E j n lo la seat line items ∧ i + 3 < N ∧ j + 3 < N ∧ (i + 3 < j ∨ j + 3 < i) ∧ (∀ E', zMo b cy E' i n (zfresh n seat) → (∀ k, k < i ∨ i + 3 < k → E' k = E k) → P none E')
abbrev rm_X1_begin : Room := { frames := 1, cells := 0, slots := 0, locals := 40 }
def B_X1_begin_66 (b n0 : Nat) (cy : zY) (P : zPo) (A : Nat → zC) : zC :=
  z_iload 2 (z_const (36) (z_icmp (fun x y => y ≤ x) (z_vret 0 0 P) (z_aload 0 (z_get b n0 1 6 (z_iload 2 (z_const (0) (z_ast b n0 (cy 1) (fun x => x) (z_iinc 2 (1) (z_cut [0, 2] (A 66))))))))))
def B_X1_begin_44 (b n0 : Nat) (cy : zY) (P : zPo) (A : Nat → zC) : zC :=
  z_iload 2 (z_const (6) (z_icmp (fun x y => y ≤ x) (z_const (0) (z_istore 2 (z_cut [0, 2] (A 66)))) (z_aload 0 (z_get b n0 1 5 (z_iload 2 (z_const (-9) (z_ast b n0 (cy 1) (fun x => x) (z_iinc 2 (1) (z_cut [0, 2] (A 44))))))))))
def B_X1_begin_0 (b n0 : Nat) (cy : zY) (P : zPo) (A : Nat → zC) : zC :=
  z_aload 0 (z_const (0) (z_put b n0 1 0 0 (z_aload 0 (z_const (1) (z_aload 1 (z_get b n0 4 0 (z_bin (fun x y => x <<< (y &&& 31)) (z_const (1) (z_bin (fun x y => x - y) (z_put b n0 1 1 0 (z_aload 0 (z_const (0) (z_put b n0 1 2 0 (z_aload 0 (z_const (0) (z_put b n0 1 3 0 (z_aload 1 (z_get b n0 4 3 (z_const (0) (z_aload 0 (z_get b n0 1 4 (z_const (0) (z_const (6) (z_copy b n0 (cy 1) (z_const (0) (z_istore 2 (z_cut [0, 2] (A 44))))))))))))))))))))))))))))
def zVC_X1_begin (sp : zSp) : Prop := ∀ (b : Nat) (cy : zY) (n : Nat) (as : List Value) (E : zE) (P : zPo) (A : Nat → zC), (∀ l st k u E, B_X1_begin_44 b n cy P A l st k u E → A 44 l st k u E) → (∀ l st k u E, B_X1_begin_66 b n cy P A l st k u E → A 66 l st k u E) → sp b cy as n E P → zgood as 3 ∧ B_X1_begin_0 b n cy P A (lv_args 0 as) [] 0 0 E

theorem zmask_all : ∀ n : Fin 7, ((1 : Int32) <<< (nI n.val &&& 31)) - 1 = nI (2 ^ n.val - 1) := by decide +kernel
theorem zmask {n : Nat} (h : n ≤ 6) : ((1 : Int32) <<< (nI n &&& 31)) - 1 = nI (2 ^ n - 1) := zmask_all ⟨n, by omega⟩
set_option maxRecDepth 100000 in
set_option maxHeartbeats 4000000 in
theorem vc_X1_begin : zVC_X1_begin sp_X1_begin := by
  intro b cy N as E P A hA44 hA66 hsp
  obtain ⟨i, j, n, lo, la, seat, line, items, rfl, ⟨s0, s1, s2, s3, f1, g1, k1, i0, i1, i2, i3⟩, ⟨hn, f, g, h, h0, h1, h2, h3, hf, hg, hh⟩, hi, hj, hij, hP⟩ := hsp
  refine ⟨⟨Nat.le_of_ble_eq_true rfl, zg1 rfl (zg1 rfl (zg0))⟩, ?_⟩
  have hi0 : i < N := by omega
  have hi1 : i + 1 < N := by omega
  have hi2 : i + 2 < N := by omega
  have hj0 : j < N := by omega
  have hj1 : j + 1 < N := by omega
  have hj2 : j + 2 < N := by omega
  have nn_0_0 : (j = i) = False := eq_false (by omega)
  have nn_0_1 : (j = i + 1) = False := eq_false (by omega)
  have nn_0_2 : (j = i + 2) = False := eq_false (by omega)
  have nn_0_3 : (j = i + 3) = False := eq_false (by omega)
  have nn_1_0 : (j + 1 = i) = False := eq_false (by omega)
  have nn_1_1 : (j + 1 = i + 1) = False := eq_false (by omega)
  have nn_1_2 : (j + 1 = i + 2) = False := eq_false (by omega)
  have nn_1_3 : (j + 1 = i + 3) = False := eq_false (by omega)
  have nn_2_0 : (j + 2 = i) = False := eq_false (by omega)
  have nn_2_1 : (j + 2 = i + 1) = False := eq_false (by omega)
  have nn_2_2 : (j + 2 = i + 2) = False := eq_false (by omega)
  have nn_2_3 : (j + 2 = i + 3) = False := eq_false (by omega)
  have nn_3_0 : (j + 3 = i) = False := eq_false (by omega)
  have nn_3_1 : (j + 3 = i + 1) = False := eq_false (by omega)
  have nn_3_2 : (j + 3 = i + 2) = False := eq_false (by omega)
  have nn_3_3 : (j + 3 = i + 3) = False := eq_false (by omega)
  have d6 : (6 : Int32).toNatClampNeg = 6 := rfl
  have d60 : ¬ (6 : Int32) < 0 := by decide
  have q6 : (6 : Int32) = nI 6 := rfl
  have q36 : (36 : Int32) = nI 36 := rfl
  generalize hE1 : va_up (va_up E i (.inr (1, [.int 0, .int (nI (2 ^ n - 1)), .int 0, .int 0, .ref (b + (i + 1)), .ref (b + (i + 2)), .ref (b + (i + 3))]))) (i + 1) (.inl (cy 1, 6, .inl (va_cpy f f1 0 0 6))) = E1
  have e0 : E1 i = .inr (1, [.int 0, .int (nI (2 ^ n - 1)), .int 0, .int 0, .ref (b + (i + 1)), .ref (b + (i + 2)), .ref (b + (i + 3))]) := by rw [← hE1]; simp [e_up]
  have e1 : E1 (i + 1) = .inl (cy 1, 6, .inl (va_cpy f f1 0 0 6)) := by rw [← hE1]; simp [e_up]
  have e2 : E1 (i + 2) = .inl (cy 1, 6, .inl g1) := by rw [← hE1]; simp [e_up, i2]
  have e3 : E1 (i + 3) = .inl (cy 1, 36, .inl k1) := by rw [← hE1]; simp [e_up, i3]
  have loop2 : ∀ (d t : Nat) (g2 k2 : Nat → Int32) (ho : d + t = 36), (∀ u, u < 6 → g2 u = -9) → (∀ u, u < t → k2 u = 0) → A 66 [(0, .ref (b + i)), (2, .int (nI t))] [] 0 0 (va_up (va_up E1 (i + 2) (.inl (cy 1, 6, .inl g2))) (i + 3) (.inl (cy 1, 36, .inl k2))) := by
    intro d
    induction d with
    | zero =>
      intro t g2 k2 ho hg2 hk2
      obtain rfl : t = 36 := by omega
      apply hA66
      have cle : nI 36 ≤ nI 36 := nI_le (Nat.le_refl _) (by omega)
      simp only [B_X1_begin_0, B_X1_begin_44, B_X1_begin_66, e_cut, e_iload, e_aload, e_istore, e_astore, e_iinc, e_const, e_lconst, e_bin, e_bin0, e_un, e_ladd, e_dupi, e_dupr, e_dup2, e_pop, e_if, e_icmp, e_sw, e_sw0, e_sw1, e_get, e_put, e_ald, e_ast, e_aald, e_aast, e_copy, e_new, e_newa, e_anewa, e_min, e_abs, e_oinit, e_callI, e_callV, e_callS, e_iret, e_zret, e_lret, e_vret, e_tl1, e_tl0, e_tl2, e_tl3, z10, Bool.false_eq_true, e_argi, e_argr, e_argn, zld_c, zst_n, zst_c, zpick_n, zpick_c, List.drop_succ_cons, List.drop_zero, List.take_succ_cons, List.take_zero, List.length_cons, List.length_nil, List.reverse_cons, List.reverse_nil, List.nil_append, List.cons_append, List.append_nil, List.getElem?_cons_zero, List.getElem?_cons_succ, List.set_cons_zero, List.set_cons_succ, Nat.add_sub_cancel_left, Nat.sub_self, Nat.add_zero, Nat.zero_add, Nat.le_add_right, Nat.le_refl, true_and, and_true, va_rf, zok, Nat.add_left_cancel_iff, Nat.add_eq_left, Nat.left_eq_add, eq_self, if_true, if_false, not_false_eq_true, not_true_eq_false, false_implies, true_implies, Nat.reduceEqDiff, Nat.reduceAdd, Nat.reduceLT, Nat.reduceLeDiff, reduceIte, q36, cle]
      refine hP _ ⟨hn, va_cpy f f1 0 0 6, g2, k2, ?_, ?_, ?_, ?_, ?_, ?_, ?_⟩ ?_
      · simp [e_up, e0, zfresh, nI_0]
      · simp [e_up, e1]
      · simp [e_up]
      · simp [e_up]
      · intro t ht; rw [zcpy_in (by omega), hf t ht]
        simp only [zfresh]; rw [if_neg (by omega), if_pos (by omega), Nat.add_sub_cancel_left]
      · intro t ht; rw [hg2 t ht]; simp only [zfresh]; rw [if_neg (by omega), if_neg (by omega)]; rfl
      · intro t ht; rw [hk2 t ht]; simp only [zfresh]; rw [if_neg (by omega), if_neg (by omega)]; rfl
      · intro t ht
        have a0 : ¬ t = i := by omega
        have a1 : ¬ t = i + 1 := by omega
        have a2 : ¬ t = i + 2 := by omega
        have a3 : ¬ t = i + 3 := by omega
        simp [e_up, a2, a3, ← hE1, a0, a1]
    | succ d ih =>
      intro t g2 k2 ho hg2 hk2
      have ht : t < 36 := by omega
      have c1 : ¬ nI 36 ≤ nI t := nI_ge ht (by omega)
      have hin : vp_in (nI t) 36 := vp_in_nI ht (by omega)
      have hcl : (nI t).toNatClampNeg = t := nI_clamp (by omega)
      apply hA66
      simp only [B_X1_begin_0, B_X1_begin_44, B_X1_begin_66, e_cut, e_iload, e_aload, e_istore, e_astore, e_iinc, e_const, e_lconst, e_bin, e_bin0, e_un, e_ladd, e_dupi, e_dupr, e_dup2, e_pop, e_if, e_icmp, e_sw, e_sw0, e_sw1, e_get, e_put, e_ald, e_ast, e_aald, e_aast, e_copy, e_new, e_newa, e_anewa, e_min, e_abs, e_oinit, e_callI, e_callV, e_callS, e_iret, e_zret, e_lret, e_vret, e_tl1, e_tl0, e_tl2, e_tl3, z10, Bool.false_eq_true, e_argi, e_argr, e_argn, zld_c, zst_n, zst_c, zpick_n, zpick_c, List.drop_succ_cons, List.drop_zero, List.take_succ_cons, List.take_zero, List.length_cons, List.length_nil, List.reverse_cons, List.reverse_nil, List.nil_append, List.cons_append, List.append_nil, List.getElem?_cons_zero, List.getElem?_cons_succ, List.set_cons_zero, List.set_cons_succ, Nat.add_sub_cancel_left, Nat.sub_self, Nat.add_zero, Nat.zero_add, Nat.le_add_right, Nat.le_refl, true_and, and_true, va_rf, zok, Nat.add_left_cancel_iff, Nat.add_eq_left, Nat.left_eq_add, eq_self, if_true, if_false, not_false_eq_true, not_true_eq_false, false_implies, true_implies, Nat.reduceEqDiff, Nat.reduceAdd, Nat.reduceLT, Nat.reduceLeDiff, reduceIte, q36, c1, e_up, e0, hi0, hi, hin, hcl, nI_1]
      have h9 := ih (t + 1) g2 (upd k2 t 0) (by omega) hg2 (fun u hu => by
        by_cases h : u = t
        · rw [h]; exact pk_us
        · rw [pk_un h]; exact hk2 u (by omega))
      exact cast (by rw [bx_uu]) h9
  have loop1 : ∀ (d t : Nat) (g2 : Nat → Int32) (ho : d + t = 6), (∀ u, u < t → g2 u = -9) → A 44 [(0, .ref (b + i)), (2, .int (nI t))] [] 0 0 (va_up E1 (i + 2) (.inl (cy 1, 6, .inl g2))) := by
    intro d
    induction d with
    | zero =>
      intro t g2 ho hg2
      obtain rfl : t = 6 := by omega
      apply hA44
      have cle : nI 6 ≤ nI 6 := nI_le (Nat.le_refl _) (by omega)
      simp only [B_X1_begin_0, B_X1_begin_44, B_X1_begin_66, e_cut, e_iload, e_aload, e_istore, e_astore, e_iinc, e_const, e_lconst, e_bin, e_bin0, e_un, e_ladd, e_dupi, e_dupr, e_dup2, e_pop, e_if, e_icmp, e_sw, e_sw0, e_sw1, e_get, e_put, e_ald, e_ast, e_aald, e_aast, e_copy, e_new, e_newa, e_anewa, e_min, e_abs, e_oinit, e_callI, e_callV, e_callS, e_iret, e_zret, e_lret, e_vret, e_tl1, e_tl0, e_tl2, e_tl3, z10, Bool.false_eq_true, e_argi, e_argr, e_argn, zld_c, zst_n, zst_c, zpick_n, zpick_c, List.drop_succ_cons, List.drop_zero, List.take_succ_cons, List.take_zero, List.length_cons, List.length_nil, List.reverse_cons, List.reverse_nil, List.nil_append, List.cons_append, List.append_nil, List.getElem?_cons_zero, List.getElem?_cons_succ, List.set_cons_zero, List.set_cons_succ, Nat.add_sub_cancel_left, Nat.sub_self, Nat.add_zero, Nat.zero_add, Nat.le_add_right, Nat.le_refl, true_and, and_true, va_rf, zok, Nat.add_left_cancel_iff, Nat.add_eq_left, Nat.left_eq_add, eq_self, if_true, if_false, not_false_eq_true, not_true_eq_false, false_implies, true_implies, Nat.reduceEqDiff, Nat.reduceAdd, Nat.reduceLT, Nat.reduceLeDiff, reduceIte, q6, cle]
      have h9 := loop2 36 0 g2 k1 rfl hg2 (fun u hu => absurd hu (Nat.not_lt_zero _))
      have h8 : va_up (va_up E1 (i + 2) (.inl (cy 1, 6, .inl g2))) (i + 3) (.inl (cy 1, 36, .inl k1)) = va_up E1 (i + 2) (.inl (cy 1, 6, .inl g2)) := by
        funext z
        simp only [e_up]
        by_cases h : z = i + 3
        · subst h; simp [e3]
        · simp [h]
      rw [h8] at h9
      exact h9
    | succ d ih =>
      intro t g2 ho hg2
      have ht : t < 6 := by omega
      have c1 : ¬ nI 6 ≤ nI t := nI_ge ht (by omega)
      have hin : vp_in (nI t) 6 := vp_in_nI ht (by omega)
      have hcl : (nI t).toNatClampNeg = t := nI_clamp (by omega)
      apply hA44
      simp only [B_X1_begin_0, B_X1_begin_44, B_X1_begin_66, e_cut, e_iload, e_aload, e_istore, e_astore, e_iinc, e_const, e_lconst, e_bin, e_bin0, e_un, e_ladd, e_dupi, e_dupr, e_dup2, e_pop, e_if, e_icmp, e_sw, e_sw0, e_sw1, e_get, e_put, e_ald, e_ast, e_aald, e_aast, e_copy, e_new, e_newa, e_anewa, e_min, e_abs, e_oinit, e_callI, e_callV, e_callS, e_iret, e_zret, e_lret, e_vret, e_tl1, e_tl0, e_tl2, e_tl3, z10, Bool.false_eq_true, e_argi, e_argr, e_argn, zld_c, zst_n, zst_c, zpick_n, zpick_c, List.drop_succ_cons, List.drop_zero, List.take_succ_cons, List.take_zero, List.length_cons, List.length_nil, List.reverse_cons, List.reverse_nil, List.nil_append, List.cons_append, List.append_nil, List.getElem?_cons_zero, List.getElem?_cons_succ, List.set_cons_zero, List.set_cons_succ, Nat.add_sub_cancel_left, Nat.sub_self, Nat.add_zero, Nat.zero_add, Nat.le_add_right, Nat.le_refl, true_and, and_true, va_rf, zok, Nat.add_left_cancel_iff, Nat.add_eq_left, Nat.left_eq_add, eq_self, if_true, if_false, not_false_eq_true, not_true_eq_false, false_implies, true_implies, Nat.reduceEqDiff, Nat.reduceAdd, Nat.reduceLT, Nat.reduceLeDiff, reduceIte, q6, c1, e_up, e0, hi0, hi2, hin, hcl, nI_1]
      have h9 := ih (t + 1) (upd g2 t (-9)) (by omega) (fun u hu => by
        by_cases h : u = t
        · rw [h]; exact pk_us
        · rw [pk_un h]; exact hg2 u (by omega))
      exact cast (by rw [bx_uu]) h9
  have h9 := loop1 6 0 g1 rfl (fun u hu => absurd hu (Nat.not_lt_zero _))
  have h8 : va_up E1 (i + 2) (.inl (cy 1, 6, .inl g1)) = E1 := by
    funext z
    simp only [e_up]
    by_cases h : z = i + 2
    · subst h; simp [e2]
    · simp [h]
  rw [h8, ← hE1] at h9
  simp only [B_X1_begin_0, B_X1_begin_44, B_X1_begin_66, e_cut, e_iload, e_aload, e_istore, e_astore, e_iinc, e_const, e_lconst, e_bin, e_bin0, e_un, e_ladd, e_dupi, e_dupr, e_dup2, e_pop, e_if, e_icmp, e_sw, e_sw0, e_sw1, e_get, e_put, e_ald, e_ast, e_aald, e_aast, e_copy, e_new, e_newa, e_anewa, e_min, e_abs, e_oinit, e_callI, e_callV, e_callS, e_iret, e_zret, e_lret, e_vret, e_tl1, e_tl0, e_tl2, e_tl3, z10, Bool.false_eq_true, e_argi, e_argr, e_argn, zld_c, zst_n, zst_c, zpick_n, zpick_c, List.drop_succ_cons, List.drop_zero, List.take_succ_cons, List.take_zero, List.length_cons, List.length_nil, List.reverse_cons, List.reverse_nil, List.nil_append, List.cons_append, List.append_nil, List.getElem?_cons_zero, List.getElem?_cons_succ, List.set_cons_zero, List.set_cons_succ, Nat.add_sub_cancel_left, Nat.sub_self, Nat.add_zero, Nat.zero_add, Nat.le_add_right, Nat.le_refl, true_and, and_true, va_rf, zok, Nat.add_left_cancel_iff, Nat.add_eq_left, Nat.left_eq_add, eq_self, if_true, if_false, not_false_eq_true, not_true_eq_false, false_implies, true_implies, Nat.reduceEqDiff, Nat.reduceAdd, Nat.reduceLT, Nat.reduceLeDiff, reduceIte, h0, h1, i0, i1, i2, i3, hi0, hi1, hi2, hi, hj0, hj1, hj2, hj, e_up, nn_0_0, nn_0_1, nn_0_2, nn_0_3, nn_1_0, nn_1_1, nn_1_2, nn_1_3, nn_2_0, nn_2_1, nn_2_2, nn_2_3, nn_3_0, nn_3_1, nn_3_2, nn_3_3, d6, d60, zmask hn]
  simp only [bx_uu]
  exact h9
set_option maxRecDepth 20000 in
theorem f_X1_begin_18 : Cond.fieldLink RX1 18 (TX1 6).1 (TX1 6).2.1 (TX1 6).2.2.1 ∈ wsX1_begin := by decide +kernel
set_option maxRecDepth 20000 in
theorem k_X1_begin_1 : ∀ w ∈ u_ws RX1 TX1 7, w ∈ wsX1_begin := fun _ h => List.mem_cons_of_mem _ (List.mem_append_left _ (List.mem_append_right _ h))
set_option maxRecDepth 20000 in
theorem f_X1_begin_15 : Cond.fieldLink RX1 15 (TX1 5).1 (TX1 5).2.1 (TX1 5).2.2.1 ∈ wsX1_begin := by decide +kernel
set_option maxRecDepth 20000 in
theorem f_X1_begin_21 : Cond.fieldLink RX1 21 (TX1 0).1 (TX1 0).2.1 (TX1 0).2.2.1 ∈ wsX1_begin := by decide +kernel
set_option maxRecDepth 20000 in
theorem f_X1_begin_25 : Cond.fieldLink RX1 25 (TX4 0).1 (TX4 0).2.1 (TX4 0).2.2.1 ∈ wsX1_begin := by decide +kernel
set_option maxRecDepth 20000 in
theorem k_X1_begin_4 : ∀ w ∈ u_ws RX4 TX4 6, w ∈ wsX1_begin := fun _ h => List.mem_cons_of_mem _ (List.mem_append_right _ h)
set_option maxRecDepth 20000 in
theorem f_X1_begin_30 : Cond.fieldLink RX1 30 (TX1 1).1 (TX1 1).2.1 (TX1 1).2.2.1 ∈ wsX1_begin := by decide +kernel
set_option maxRecDepth 20000 in
theorem f_X1_begin_33 : Cond.fieldLink RX1 33 (TX1 2).1 (TX1 2).2.1 (TX1 2).2.2.1 ∈ wsX1_begin := by decide +kernel
set_option maxRecDepth 20000 in
theorem f_X1_begin_36 : Cond.fieldLink RX1 36 (TX1 3).1 (TX1 3).2.1 (TX1 3).2.2.1 ∈ wsX1_begin := by decide +kernel
set_option maxRecDepth 20000 in
theorem f_X1_begin_39 : Cond.fieldLink RX1 39 (TX4 3).1 (TX4 3).2.1 (TX4 3).2.2.1 ∈ wsX1_begin := by decide +kernel
set_option maxRecDepth 20000 in
theorem f_X1_begin_9 : Cond.fieldLink RX1 9 (TX1 4).1 (TX1 4).2.1 (TX1 4).2.2.1 ∈ wsX1_begin := by decide +kernel
set_option maxRecDepth 20000 in
theorem f_X1_begin_m40 : Cond.methodLink RX1 40 arraycopyName ∈ wsX1_begin := by decide +kernel
set_option maxRecDepth 20000 in
theorem f_X1_begin_cn : Cond.native arraycopyName ∈ wsX1_begin := by decide +kernel
set_option maxRecDepth 20000 in
theorem f_X1_begin_cs : Cond.static arraycopyName ∈ wsX1_begin := by decide +kernel
set_option maxRecDepth 20000 in
theorem f_X1_begin_ci : Cond.initialized "java/lang/System" ∈ wsX1_begin := by decide +kernel
set_option maxRecDepth 100000 in
set_option maxHeartbeats 4000000 in
theorem S_X1_begin_66 {p : Program} {e : Env} {s : State} {m : MethodId} {args : Array Value} {below : List Frame} {meth : Method} {c : Code} {D : va_G} {cy : zY} {b n0 : Nat} {P : zPo} (la : Launch) (X : zX p la e (rm_X1_begin) s m args below meth c 3 D cy b n0 cX1_begin wsX1_begin RX1) (hr : meth.sig.returnType = none) : zS p la e (rm_X1_begin) s m args below meth c (MQ below (zQ D b (n0 + 0) P) args s 0 0 (fun q => b ≤ q)) 3 D b n0 66 (B_X1_begin_66 b n0 cy P (zAt p la e (rm_X1_begin) s m args below meth c (MQ below (zQ D b (n0 + 0) P) args s 0 0 (fun q => b ≤ q)) 3 D b n0)) := by
  unfold B_X1_begin_66
  exact (s_iload_n X dX1_begin_66 rfl (s_bipush X dX1_begin_67 (by decide) (s_icmp_ge X dX1_begin_69 (by decide) (s_vret X dX1_begin_85 hr) (s_aload_n X dX1_begin_72 rfl (s_get X dX1_begin_73 rfl k_X1_begin_1 (by decide) f_X1_begin_18 (s_iload_n X dX1_begin_76 rfl (s_iconst X dX1_begin_77 (by decide) (s_iast X dX1_begin_78 (s_iinc X dX1_begin_79 (by decide) (by decide) (s_goto X dX1_begin_82 (by decide) (s_cut (by decide) zS_at)))))))))))
set_option maxRecDepth 100000 in
set_option maxHeartbeats 4000000 in
theorem S_X1_begin_44 {p : Program} {e : Env} {s : State} {m : MethodId} {args : Array Value} {below : List Frame} {meth : Method} {c : Code} {D : va_G} {cy : zY} {b n0 : Nat} {P : zPo} (la : Launch) (X : zX p la e (rm_X1_begin) s m args below meth c 3 D cy b n0 cX1_begin wsX1_begin RX1) (hr : meth.sig.returnType = none) : zS p la e (rm_X1_begin) s m args below meth c (MQ below (zQ D b (n0 + 0) P) args s 0 0 (fun q => b ≤ q)) 3 D b n0 44 (B_X1_begin_44 b n0 cy P (zAt p la e (rm_X1_begin) s m args below meth c (MQ below (zQ D b (n0 + 0) P) args s 0 0 (fun q => b ≤ q)) 3 D b n0)) := by
  unfold B_X1_begin_44
  exact (s_iload_n X dX1_begin_44 rfl (s_bipush X dX1_begin_45 (by decide) (s_icmp_ge X dX1_begin_47 (by decide) (s_iconst X dX1_begin_64 (by decide) (s_istore_n X dX1_begin_65 rfl (by decide) (s_cut (by decide) zS_at))) (s_aload_n X dX1_begin_50 rfl (s_get X dX1_begin_51 rfl k_X1_begin_1 (by decide) f_X1_begin_15 (s_iload_n X dX1_begin_54 rfl (s_bipush X dX1_begin_55 (by decide) (s_iast X dX1_begin_57 (s_iinc X dX1_begin_58 (by decide) (by decide) (s_goto X dX1_begin_61 (by decide) (s_cut (by decide) zS_at)))))))))))
set_option maxRecDepth 100000 in
set_option maxHeartbeats 4000000 in
theorem S_X1_begin_0 {p : Program} {e : Env} {s : State} {m : MethodId} {args : Array Value} {below : List Frame} {meth : Method} {c : Code} {D : va_G} {cy : zY} {b n0 : Nat} {P : zPo} (la : Launch) (X : zX p la e (rm_X1_begin) s m args below meth c 3 D cy b n0 cX1_begin wsX1_begin RX1) (hr : meth.sig.returnType = none) : zS p la e (rm_X1_begin) s m args below meth c (MQ below (zQ D b (n0 + 0) P) args s 0 0 (fun q => b ≤ q)) 3 D b n0 0 (B_X1_begin_0 b n0 cy P (zAt p la e (rm_X1_begin) s m args below meth c (MQ below (zQ D b (n0 + 0) P) args s 0 0 (fun q => b ≤ q)) 3 D b n0)) := by
  unfold B_X1_begin_0
  exact (s_aload_n X dX1_begin_0 rfl (s_iconst X dX1_begin_1 (by decide) (s_put X dX1_begin_2 rfl k_X1_begin_1 tyX1_ok nmX1 (by decide) f_X1_begin_21 rfl (tyX1_ok 0 (by decide)) zok_int (s_aload_n X dX1_begin_5 rfl (s_iconst X dX1_begin_6 (by decide) (s_aload_n X dX1_begin_7 rfl (s_get X dX1_begin_8 rfl k_X1_begin_4 (by decide) f_X1_begin_25 (s_ishl X dX1_begin_11 (s_iconst X dX1_begin_12 (by decide) (s_isub X dX1_begin_13 (s_put X dX1_begin_14 rfl k_X1_begin_1 tyX1_ok nmX1 (by decide) f_X1_begin_30 rfl (tyX1_ok 1 (by decide)) zok_int (s_aload_n X dX1_begin_17 rfl (s_iconst X dX1_begin_18 (by decide) (s_put X dX1_begin_19 rfl k_X1_begin_1 tyX1_ok nmX1 (by decide) f_X1_begin_33 rfl (tyX1_ok 2 (by decide)) zok_int (s_aload_n X dX1_begin_22 rfl (s_iconst X dX1_begin_23 (by decide) (s_put X dX1_begin_24 rfl k_X1_begin_1 tyX1_ok nmX1 (by decide) f_X1_begin_36 rfl (tyX1_ok 3 (by decide)) zok_int (s_aload_n X dX1_begin_27 rfl (s_get X dX1_begin_28 rfl k_X1_begin_4 (by decide) f_X1_begin_39 (s_iconst X dX1_begin_31 (by decide) (s_aload_n X dX1_begin_32 rfl (s_get X dX1_begin_33 rfl k_X1_begin_1 (by decide) f_X1_begin_9 (s_iconst X dX1_begin_36 (by decide) (s_bipush X dX1_begin_37 (by decide) (s_copy X dX1_begin_39 f_X1_begin_m40 f_X1_begin_cn f_X1_begin_cs f_X1_begin_ci (by decide) (by decide) (s_iconst X dX1_begin_42 (by decide) (s_istore_n X dX1_begin_43 rfl (by decide) (s_cut (by decide) zS_at))))))))))))))))))))))))))))
theorem w_X1_begin (la : Launch) (sp : zSp) (vc : zVC_X1_begin sp) : zMet la yX1_begin wsX1_begin (rm_X1_begin) 0 0 sp :=
  z_of (cc := cX1_begin) (maxL := 3) (ret := none) (by decide +kernel) rfl (fun p e s m args below meth c D cy b n as E P hsp X hr hin => by
    obtain ⟨h1, h2⟩ := vc b cy n as E P (zAt p la e (rm_X1_begin) s m args below meth c (MQ below (zQ D b (n + 0) P) args s 0 0 (fun q => b ≤ q)) 3 D b n) (fun _ _ _ _ _ q => S_X1_begin_44 la X hr _ _ _ _ _ q) (fun _ _ _ _ _ q => S_X1_begin_66 la X hr _ _ _ _ _ q) hsp
    exact ⟨h1, S_X1_begin_0 la X hr _ _ _ _ _ h2⟩)

theorem m_X1_begin (la : Launch) : zMet la yX1_begin wsX1_begin rm_X1_begin 0 0 sp_X1_begin := w_X1_begin la _ vc_X1_begin
/-- a new moment -/
def sp_X1_init : zSp := fun b cy as N E P => ∃ i : Nat, as = [.ref (b + i)] ∧ N = i + 1 ∧ E i = .inr (1, [.int 0, .int 0, .int 0, .int 0, .null, .null, .null]) ∧ (∀ E', zSh b cy E' i → (∀ j, j < i → E' j = E j) → P none E')
abbrev rm_X1_init : Room := { frames := 1, cells := 3, slots := 48, locals := 40 }
def B_X1_init_0 (b n0 : Nat) (cy : zY) (P : zPo) (A : Nat → zC) : zC :=
  z_aload 0 (z_oinit (z_aload 0 (z_const (6) (z_newa b n0 3 48 (cy 1) (z_put b n0 1 4 1 (z_aload 0 (z_const (6) (z_newa b n0 3 48 (cy 1) (z_put b n0 1 5 1 (z_aload 0 (z_const (36) (z_newa b n0 3 48 (cy 1) (z_put b n0 1 6 1 (z_vret 3 48 P))))))))))))))
def zVC_X1_init (sp : zSp) : Prop := ∀ (b : Nat) (cy : zY) (n : Nat) (as : List Value) (E : zE) (P : zPo) (A : Nat → zC), sp b cy as n E P → zgood as 1 ∧ B_X1_init_0 b n cy P A (lv_args 0 as) [] 0 0 E

set_option maxRecDepth 100000 in
set_option maxHeartbeats 4000000 in
theorem vc_X1_init : zVC_X1_init sp_X1_init := by
  intro b cy N as E P A hsp
  obtain ⟨i, rfl, rfl, h0, hP⟩ := hsp
  refine ⟨⟨Nat.le_of_ble_eq_true rfl, zg1 rfl (zg0)⟩, ?_⟩
  have d6 : (6 : Int32).toNatClampNeg = 6 := rfl
  have d60 : ¬ (6 : Int32) < 0 := by decide
  have d36 : (36 : Int32).toNatClampNeg = 36 := rfl
  have d360 : ¬ (36 : Int32) < 0 := by decide
  have l1 : i < i + 1 + 1 := by omega
  have l2 : i < i + 1 + 2 := by omega
  have l3 : i < i + 1 + 3 := by omega
  simp only [B_X1_init_0, e_cut, e_iload, e_aload, e_istore, e_astore, e_iinc, e_const, e_lconst, e_bin, e_bin0, e_un, e_ladd, e_dupi, e_dupr, e_dup2, e_pop, e_if, e_icmp, e_sw, e_sw0, e_sw1, e_get, e_put, e_ald, e_ast, e_aald, e_aast, e_copy, e_new, e_newa, e_anewa, e_min, e_abs, e_oinit, e_callI, e_callV, e_callS, e_iret, e_zret, e_lret, e_vret, e_tl1, e_tl0, e_tl2, e_tl3, z10, Bool.false_eq_true, e_argi, e_argr, e_argn, zld_c, zst_n, zst_c, zpick_n, zpick_c, List.drop_succ_cons, List.drop_zero, List.take_succ_cons, List.take_zero, List.length_cons, List.length_nil, List.reverse_cons, List.reverse_nil, List.nil_append, List.cons_append, List.append_nil, List.getElem?_cons_zero, List.getElem?_cons_succ, List.set_cons_zero, List.set_cons_succ, Nat.add_sub_cancel_left, Nat.sub_self, Nat.add_zero, Nat.zero_add, Nat.le_add_right, Nat.le_refl, true_and, and_true, va_rf, zok, Nat.add_left_cancel_iff, Nat.add_eq_left, Nat.left_eq_add, eq_self, if_true, if_false, not_false_eq_true, not_true_eq_false, false_implies, true_implies, Nat.reduceEqDiff, Nat.reduceAdd, Nat.reduceLT, Nat.reduceLeDiff, reduceIte, h0, d6, d60, d36, d360, l1, l2, l3, e_up, Nat.add_assoc]
  refine hP _ ⟨0, 0, 0, 0, fun _ => 0, fun _ => 0, fun _ => 0, ?_, ?_, ?_, ?_⟩ ?_
  · simp [e_up]
  · simp [e_up]
  · simp [e_up]
  · simp [e_up]
  · intro t ht
    have a0 : ¬ t = i := by omega
    have a1 : ¬ t = i + 1 := by omega
    have a2 : ¬ t = i + 2 := by omega
    have a3 : ¬ t = i + 3 := by omega
    simp [e_up, a0, a1, a2, a3]
set_option maxRecDepth 20000 in
theorem f_X1_init_m3 : Cond.methodLink RX1 3 Lib.objectInit ∈ wsX1_init := by decide +kernel
set_option maxRecDepth 20000 in
theorem f_X1_init_oi : Cond.instanceMethod Lib.objectInit ∈ wsX1_init := by decide +kernel
set_option maxRecDepth 20000 in
theorem f_X1_init_oc : Cond.code Lib.objectInit ⟨#[0xb1]⟩ 1 none ∈ wsX1_init := by decide +kernel
set_option maxRecDepth 20000 in
theorem f_X1_init_aint : Cond.arrayClass .int ∈ wsX1_init := by decide +kernel
set_option maxRecDepth 20000 in
theorem f_X1_init_9 : Cond.fieldLink RX1 9 (TX1 4).1 (TX1 4).2.1 (TX1 4).2.2.1 ∈ wsX1_init := by decide +kernel
set_option maxRecDepth 20000 in
theorem k_X1_init_1 : ∀ w ∈ u_ws RX1 TX1 7, w ∈ wsX1_init := fun _ h => List.mem_cons_of_mem _ (List.mem_append_right _ h)
set_option maxRecDepth 20000 in
theorem f_X1_init_15 : Cond.fieldLink RX1 15 (TX1 5).1 (TX1 5).2.1 (TX1 5).2.2.1 ∈ wsX1_init := by decide +kernel
set_option maxRecDepth 20000 in
theorem f_X1_init_18 : Cond.fieldLink RX1 18 (TX1 6).1 (TX1 6).2.1 (TX1 6).2.2.1 ∈ wsX1_init := by decide +kernel
set_option maxRecDepth 100000 in
set_option maxHeartbeats 4000000 in
theorem S_X1_init_0 {p : Program} {e : Env} {s : State} {m : MethodId} {args : Array Value} {below : List Frame} {meth : Method} {c : Code} {D : va_G} {cy : zY} {b n0 : Nat} {P : zPo} (la : Launch) (X : zX p la e (rm_X1_init) s m args below meth c 1 D cy b n0 cX1_init wsX1_init RX1) (hr : meth.sig.returnType = none) (hin : yX1_init.name = "<init>" → meth.name = "<init>") : zS p la e (rm_X1_init) s m args below meth c (MQ below (zQ D b (n0 + 3) P) args s 3 48 (fun q => b ≤ q)) 1 D b n0 0 (B_X1_init_0 b n0 cy P (zAt p la e (rm_X1_init) s m args below meth c (MQ below (zQ D b (n0 + 3) P) args s 3 48 (fun q => b ≤ q)) 1 D b n0)) := by
  unfold B_X1_init_0
  exact (s_aload_n X dX1_init_0 rfl (s_objInit X dX1_init_1 f_X1_init_m3 f_X1_init_oi f_X1_init_oc (by decide) (by decide) (s_aload_n X dX1_init_4 rfl (s_bipush X dX1_init_5 (by decide) (s_newa X dX1_init_7 rfl (t0 := 1) rfl f_X1_init_aint (by decide) (fun _ _ h1 h2 => Option.some.inj (h1.symm.trans h2)) (fun _ _ => rfl) (s_putF X dX1_init_9 (hin rfl) rfl k_X1_init_1 tyX1_ok nmX1 (by decide) f_X1_init_9 rfl rfl (tyX1_ok 4 (by decide)) zok_arr (s_aload_n X dX1_init_12 rfl (s_bipush X dX1_init_13 (by decide) (s_newa X dX1_init_15 rfl (t0 := 1) rfl f_X1_init_aint (by decide) (fun _ _ h1 h2 => Option.some.inj (h1.symm.trans h2)) (fun _ _ => rfl) (s_putF X dX1_init_17 (hin rfl) rfl k_X1_init_1 tyX1_ok nmX1 (by decide) f_X1_init_15 rfl rfl (tyX1_ok 5 (by decide)) zok_arr (s_aload_n X dX1_init_20 rfl (s_bipush X dX1_init_21 (by decide) (s_newa X dX1_init_23 rfl (t0 := 1) rfl f_X1_init_aint (by decide) (fun _ _ h1 h2 => Option.some.inj (h1.symm.trans h2)) (fun _ _ => rfl) (s_putF X dX1_init_25 (hin rfl) rfl k_X1_init_1 tyX1_ok nmX1 (by decide) f_X1_init_18 rfl rfl (tyX1_ok 6 (by decide)) zok_arr (s_vret X dX1_init_28 hr)))))))))))))))
theorem w_X1_init (la : Launch) (sp : zSp) (vc : zVC_X1_init sp) : zMet la yX1_init wsX1_init (rm_X1_init) 3 48 sp :=
  z_of (cc := cX1_init) (maxL := 1) (ret := none) (by decide +kernel) rfl (fun p e s m args below meth c D cy b n as E P hsp X hr hin => by
    obtain ⟨h1, h2⟩ := vc b cy n as E P (zAt p la e (rm_X1_init) s m args below meth c (MQ below (zQ D b (n + 3) P) args s 3 48 (fun q => b ≤ q)) 1 D b n) hsp
    exact ⟨h1, S_X1_init_0 la X hr hin _ _ _ _ _ h2⟩)

theorem m_X1_init (la : Launch) : zMet la yX1_init wsX1_init rm_X1_init 3 48 sp_X1_init := w_X1_init la _ vc_X1_init

