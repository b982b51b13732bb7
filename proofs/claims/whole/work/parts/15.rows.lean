def zdir (n : Nat) (c : Nat → Nat) (S M G r : Nat) : Option Nat := if M.testBit r && !(G.testBit r) then (match zring n c M r with | none => none | some q => if S.testBit q then some q else none) else none
def zsum (g : Nat → Nat) : Nat → Nat
  | 0 => 0
  | k + 1 => zsum g k + g k
/-- in how many ways a row goes on: of those of M, when those of G have rung, f rings at most -/
def zrows (n : Nat) (c : Nat → Nat) (S : Nat) : Nat → Nat → Nat → Nat
  | 0, M, _ => if S &&& M = 0 then 1 else 0
  | f + 1, M, G => if S &&& M = 0 then 1 else zsum (fun r => match zdir n c S M G r with | none => 0 | some q => zrows n c S f (zclr M q) (zset G r)) n
def zfind (p : Nat → Bool) : Nat → Nat → Option Nat
  | _, 0 => none
  | k, d + 1 => if p k then some k else zfind p (k + 1) d
theorem zdir_lt {n : Nat} {c : Nat → Nat} {S M G r q : Nat} (h : zdir n c S M G r = some q) : q < n ∧ M.testBit q = true ∧ S.testBit q = true ∧ q ≠ r ∧ M.testBit r = true ∧ G.testBit r = false := by
  unfold zdir at h
  by_cases e : (M.testBit r && !(G.testBit r)) = true
  · rw [if_pos e] at h
    cases hz : zring n c M r with
    | none => rw [hz] at h; cases h
    | some q0 =>
      rw [hz] at h
      by_cases e2 : S.testBit q0 = true
      · simp only [e2, if_true, Option.some.injEq] at h
        subst h
        have := zfo_lt hz
        simp at this e
        exact ⟨this.1, this.2.1.2, e2, this.2.1.1, e.1, e.2⟩
      · simp [e2] at h
  · rw [if_neg e] at h; cases h
theorem zand_all : ∀ a : Fin 64, ∀ b : Fin 64, nI a.val &&& nI b.val = nI (a.val &&& b.val) := by decide +kernel
theorem zand_i {a b : Nat} (ha : a < 64) (hb : b < 64) : nI a &&& nI b = nI (a &&& b) := zand_all ⟨a, ha⟩ ⟨b, hb⟩
theorem zclr_lt {M q : Nat} (h : M < 64) : zclr M q < 64 := by
  unfold zclr
  split
  · exact Nat.lt_of_le_of_lt (Nat.sub_le _ _) h
  · exact h
theorem zset_all2 : ∀ M : Fin 64, ∀ q : Fin 6, zset M.val q.val < 64 := by decide +kernel
theorem zset_lt {M q : Nat} (h : M < 64) (hq : q < 6) : zset M q < 64 := zset_all2 ⟨M, h⟩ ⟨q, hq⟩
theorem zclr_l2 {M n q : Nat} (h : M < 2 ^ n) : zclr M q < 2 ^ n := by
  unfold zclr
  split
  · exact Nat.lt_of_le_of_lt (Nat.sub_le _ _) h
  · exact h
theorem zdir_no {n : Nat} {c : Nat → Nat} {S M G r : Nat} (h : M < 2 ^ n) (hr : n ≤ r) : zdir n c S M G r = none := by
  unfold zdir
  simp [ztb_no h hr]
theorem zsum_more {g : Nat → Nat} {n : Nat} (h : ∀ q, n ≤ q → g q = 0) : ∀ d, zsum g (n + d) = zsum g n := by
  intro d
  induction d with
  | zero => rfl
  | succ d ih => rw [← Nat.add_assoc, zsum, h _ (by omega)]; exact ih
theorem zfind_nil {p : Nat → Bool} : ∀ (d k : Nat), (∀ q, k ≤ q → p q = false) → zfind p k d = none := by
  intro d
  induction d with
  | zero => intro k _; rfl
  | succ d ih => intro k h; rw [zfind, h k (Nat.le_refl _)]; exact ih (k + 1) (fun q hq => h q (by omega))
theorem zfind_more {p : Nat → Bool} {n : Nat} (h : ∀ q, n ≤ q → p q = false) (e : Nat) : ∀ (d k : Nat), k + d = n → zfind p k (d + e) = zfind p k d := by
  intro d
  induction d with
  | zero => intro k hk; rw [zfind_nil (0 + e) k (fun q hq => h q (by omega))]; rfl
  | succ d ih =>
    intro k hk
    rw [show d + 1 + e = (d + e) + 1 by omega, zfind, zfind, ih (k + 1) (by omega)]
def sp_X5_downInRow : zSp := fun b cy as N E P => ∃ (n : Nat) (lo la : Nat → Nat) (i : Nat) (c : Nat → Nat) (S M G r : Nat), as = [.ref (b + i), .int (nI S), .int (nI M), .int (nI G), .int (nI r)] ∧ zP1 b cy N E n lo la i c ∧ S < 64 ∧ M < 64 ∧ M < 2 ^ n ∧ G < 64 ∧ r < 6 ∧ P (some (.int (zrv (zdir n c S M G r)))) E
abbrev rm_X5_downInRow : Room := { frames := 3, cells := 0, slots := 0, locals := 88 }
def B_X5_downInRow_53 (b n0 : Nat) (cy : zY) (P : zPo) (A : Nat → zC) : zC :=
  z_iret 0 0 P
def B_X5_downInRow_51 (b n0 : Nat) (cy : zY) (P : zPo) (A : Nat → zC) : zC :=
  z_const (-9) (B_X5_downInRow_53 b n0 cy P A)
def B_X5_downInRow_18 (b n0 : Nat) (cy : zY) (P : zPo) (A : Nat → zC) : zC :=
  z_const (-9) (z_iret 0 0 P)
def B_X5_downInRow_0 (b n0 : Nat) (cy : zY) (P : zPo) (A : Nat → zC) : zC :=
  z_iload 2 (z_iload 4 (z_bin (fun x y => x >>> (y &&& 31)) (z_const (1) (z_bin (fun x y => x &&& y) (z_if (fun x => x = 0) (B_X5_downInRow_18 b n0 cy P A) (z_iload 3 (z_iload 4 (z_bin (fun x y => x >>> (y &&& 31)) (z_const (1) (z_bin (fun x y => x &&& y) (z_if (fun x => x = 0) (z_aload 0 (z_iload 2 (z_iload 4 (z_callS b n0 0 0 cy 3 0 0 sp_X5_downByRing (z_istore 5 (z_iload 5 (z_const (-9) (z_icmp (fun x y => x = y) (B_X5_downInRow_51 b n0 cy P A) (z_iload 1 (z_iload 5 (z_bin (fun x y => x >>> (y &&& 31)) (z_const (1) (z_bin (fun x y => x &&& y) (z_if (fun x => x = 0) (B_X5_downInRow_51 b n0 cy P A) (z_iload 5 (B_X5_downInRow_53 b n0 cy P A)))))))))))))))) (B_X5_downInRow_18 b n0 cy P A))))))))))))
def zVC_X5_downInRow (sp : zSp) : Prop := ∀ (b : Nat) (cy : zY) (n : Nat) (as : List Value) (E : zE) (P : zPo) (A : Nat → zC), sp b cy as n E P → zgood as 6 ∧ B_X5_downInRow_0 b n cy P A (lv_args 0 as) [] 0 0 E

set_option maxRecDepth 100000 in
set_option maxHeartbeats 4000000 in
theorem vc_X5_downInRow : zVC_X5_downInRow sp_X5_downInRow := by
  intro b cy N as E P A hsp
  obtain ⟨n, lo, la, i, c, S, M, G, r, rfl, hp1, hS, hM, hMn, hG, hr, hP⟩ := hsp
  refine ⟨⟨Nat.le_of_ble_eq_true rfl, zg1 rfl (zg1 rfl (zg1 rfl (zg1 rfl (zg1 rfl (zg0)))))⟩, ?_⟩
  obtain ⟨⟨⟨kept, cnt, tr, e0⟩, ht, hlo⟩, hmo, hok, hi, hN⟩ := id hp1
  have hn := hok.1
  have N0 : 0 < N := by omega
  unfold zdir at hP
  by_cases q1 : M.testBit r = true
  · by_cases q2 : G.testBit r = true
    · simp only [B_X5_downInRow_0, B_X5_downInRow_18, B_X5_downInRow_51, B_X5_downInRow_53, e_cut, e_iload, e_aload, e_istore, e_astore, e_iinc, e_const, e_lconst, e_bin, e_bin0, e_un, e_ladd, e_dupi, e_dupr, e_dup2, e_pop, e_if, e_icmp, e_sw, e_sw0, e_sw1, e_get, e_put, e_ald, e_ast, e_aald, e_aast, e_copy, e_new, e_newa, e_anewa, e_min, e_abs, e_oinit, e_callI, e_callV, e_callS, e_iret, e_zret, e_lret, e_vret, e_tl1, e_tl0, e_tl2, e_tl3, z10, Bool.false_eq_true, e_argi, e_argr, e_argn, zld_c, zst_n, zst_c, zpick_n, zpick_c, List.drop_succ_cons, List.drop_zero, List.take_succ_cons, List.take_zero, List.length_cons, List.length_nil, List.reverse_cons, List.reverse_nil, List.nil_append, List.cons_append, List.append_nil, List.getElem?_cons_zero, List.getElem?_cons_succ, List.set_cons_zero, List.set_cons_succ, Nat.add_sub_cancel_left, Nat.sub_self, Nat.add_zero, Nat.zero_add, Nat.le_add_right, Nat.le_refl, true_and, and_true, va_rf, zok, Nat.add_left_cancel_iff, Nat.add_eq_left, Nat.left_eq_add, eq_self, if_true, if_false, not_false_eq_true, not_true_eq_false, false_implies, true_implies, Nat.reduceEqDiff, Nat.reduceAdd, Nat.reduceLT, Nat.reduceLeDiff, reduceIte, zbit hM hr, zbit hG hr, q1, q2]
      simpa [q1, q2, zrv] using hP
    · simp only [B_X5_downInRow_0, B_X5_downInRow_18, B_X5_downInRow_51, B_X5_downInRow_53, e_cut, e_iload, e_aload, e_istore, e_astore, e_iinc, e_const, e_lconst, e_bin, e_bin0, e_un, e_ladd, e_dupi, e_dupr, e_dup2, e_pop, e_if, e_icmp, e_sw, e_sw0, e_sw1, e_get, e_put, e_ald, e_ast, e_aald, e_aast, e_copy, e_new, e_newa, e_anewa, e_min, e_abs, e_oinit, e_callI, e_callV, e_callS, e_iret, e_zret, e_lret, e_vret, e_tl1, e_tl0, e_tl2, e_tl3, z10, Bool.false_eq_true, e_argi, e_argr, e_argn, zld_c, zst_n, zst_c, zpick_n, zpick_c, List.drop_succ_cons, List.drop_zero, List.take_succ_cons, List.take_zero, List.length_cons, List.length_nil, List.reverse_cons, List.reverse_nil, List.nil_append, List.cons_append, List.append_nil, List.getElem?_cons_zero, List.getElem?_cons_succ, List.set_cons_zero, List.set_cons_succ, Nat.add_sub_cancel_left, Nat.sub_self, Nat.add_zero, Nat.zero_add, Nat.le_add_right, Nat.le_refl, true_and, and_true, va_rf, zok, Nat.add_left_cancel_iff, Nat.add_eq_left, Nat.left_eq_add, eq_self, if_true, if_false, not_false_eq_true, not_true_eq_false, false_implies, true_implies, Nat.reduceEqDiff, Nat.reduceAdd, Nat.reduceLT, Nat.reduceLeDiff, reduceIte, zbit hM hr, zbit hG hr, q1, q2, zB0, e0, N0]
      refine ⟨n, lo, la, i, c, M, r, rfl, hp1, hM, hMn, hr, ?_⟩
      cases hz : zring n c M r with
      | none =>
        simp only [e_cut, e_iload, e_aload, e_istore, e_astore, e_iinc, e_const, e_lconst, e_bin, e_bin0, e_un, e_ladd, e_dupi, e_dupr, e_dup2, e_pop, e_if, e_icmp, e_sw, e_sw0, e_sw1, e_get, e_put, e_ald, e_ast, e_aald, e_aast, e_copy, e_new, e_newa, e_anewa, e_min, e_abs, e_oinit, e_callI, e_callV, e_callS, e_iret, e_zret, e_lret, e_vret, e_tl1, e_tl0, e_tl2, e_tl3, z10, Bool.false_eq_true, e_argi, e_argr, e_argn, zld_c, zst_n, zst_c, zpick_n, zpick_c, List.drop_succ_cons, List.drop_zero, List.take_succ_cons, List.take_zero, List.length_cons, List.length_nil, List.reverse_cons, List.reverse_nil, List.nil_append, List.cons_append, List.append_nil, List.getElem?_cons_zero, List.getElem?_cons_succ, List.set_cons_zero, List.set_cons_succ, Nat.add_sub_cancel_left, Nat.sub_self, Nat.add_zero, Nat.zero_add, Nat.le_add_right, Nat.le_refl, true_and, and_true, va_rf, zok, Nat.add_left_cancel_iff, Nat.add_eq_left, Nat.left_eq_add, eq_self, if_true, if_false, not_false_eq_true, not_true_eq_false, false_implies, true_implies, Nat.reduceEqDiff, Nat.reduceAdd, Nat.reduceLT, Nat.reduceLeDiff, reduceIte, zrv, B_X5_downInRow_0, B_X5_downInRow_18, B_X5_downInRow_51, B_X5_downInRow_53]
        simpa [q1, q2, hz, zrv] using hP
      | some q =>
        have hq := (zfo_lt hz).1
        simp only [e_cut, e_iload, e_aload, e_istore, e_astore, e_iinc, e_const, e_lconst, e_bin, e_bin0, e_un, e_ladd, e_dupi, e_dupr, e_dup2, e_pop, e_if, e_icmp, e_sw, e_sw0, e_sw1, e_get, e_put, e_ald, e_ast, e_aald, e_aast, e_copy, e_new, e_newa, e_anewa, e_min, e_abs, e_oinit, e_callI, e_callV, e_callS, e_iret, e_zret, e_lret, e_vret, e_tl1, e_tl0, e_tl2, e_tl3, z10, Bool.false_eq_true, e_argi, e_argr, e_argn, zld_c, zst_n, zst_c, zpick_n, zpick_c, List.drop_succ_cons, List.drop_zero, List.take_succ_cons, List.take_zero, List.length_cons, List.length_nil, List.reverse_cons, List.reverse_nil, List.nil_append, List.cons_append, List.append_nil, List.getElem?_cons_zero, List.getElem?_cons_succ, List.set_cons_zero, List.set_cons_succ, Nat.add_sub_cancel_left, Nat.sub_self, Nat.add_zero, Nat.zero_add, Nat.le_add_right, Nat.le_refl, true_and, and_true, va_rf, zok, Nat.add_left_cancel_iff, Nat.add_eq_left, Nat.left_eq_add, eq_self, if_true, if_false, not_false_eq_true, not_true_eq_false, false_implies, true_implies, Nat.reduceEqDiff, Nat.reduceAdd, Nat.reduceLT, Nat.reduceLeDiff, reduceIte, zrv, zrv_nn (show q < 6 by omega), B_X5_downInRow_0, B_X5_downInRow_18, B_X5_downInRow_51, B_X5_downInRow_53, zbit hS (show q < 6 by omega)]
        by_cases q3 : S.testBit q = true
        · simp only [q3, e_cut, e_iload, e_aload, e_istore, e_astore, e_iinc, e_const, e_lconst, e_bin, e_bin0, e_un, e_ladd, e_dupi, e_dupr, e_dup2, e_pop, e_if, e_icmp, e_sw, e_sw0, e_sw1, e_get, e_put, e_ald, e_ast, e_aald, e_aast, e_copy, e_new, e_newa, e_anewa, e_min, e_abs, e_oinit, e_callI, e_callV, e_callS, e_iret, e_zret, e_lret, e_vret, e_tl1, e_tl0, e_tl2, e_tl3, z10, Bool.false_eq_true, e_argi, e_argr, e_argn, zld_c, zst_n, zst_c, zpick_n, zpick_c, List.drop_succ_cons, List.drop_zero, List.take_succ_cons, List.take_zero, List.length_cons, List.length_nil, List.reverse_cons, List.reverse_nil, List.nil_append, List.cons_append, List.append_nil, List.getElem?_cons_zero, List.getElem?_cons_succ, List.set_cons_zero, List.set_cons_succ, Nat.add_sub_cancel_left, Nat.sub_self, Nat.add_zero, Nat.zero_add, Nat.le_add_right, Nat.le_refl, true_and, and_true, va_rf, zok, Nat.add_left_cancel_iff, Nat.add_eq_left, Nat.left_eq_add, eq_self, if_true, if_false, not_false_eq_true, not_true_eq_false, false_implies, true_implies, Nat.reduceEqDiff, Nat.reduceAdd, Nat.reduceLT, Nat.reduceLeDiff, reduceIte]
          simpa [q1, q2, hz, q3, zrv] using hP
        · simp only [q3, e_cut, e_iload, e_aload, e_istore, e_astore, e_iinc, e_const, e_lconst, e_bin, e_bin0, e_un, e_ladd, e_dupi, e_dupr, e_dup2, e_pop, e_if, e_icmp, e_sw, e_sw0, e_sw1, e_get, e_put, e_ald, e_ast, e_aald, e_aast, e_copy, e_new, e_newa, e_anewa, e_min, e_abs, e_oinit, e_callI, e_callV, e_callS, e_iret, e_zret, e_lret, e_vret, e_tl1, e_tl0, e_tl2, e_tl3, z10, Bool.false_eq_true, e_argi, e_argr, e_argn, zld_c, zst_n, zst_c, zpick_n, zpick_c, List.drop_succ_cons, List.drop_zero, List.take_succ_cons, List.take_zero, List.length_cons, List.length_nil, List.reverse_cons, List.reverse_nil, List.nil_append, List.cons_append, List.append_nil, List.getElem?_cons_zero, List.getElem?_cons_succ, List.set_cons_zero, List.set_cons_succ, Nat.add_sub_cancel_left, Nat.sub_self, Nat.add_zero, Nat.zero_add, Nat.le_add_right, Nat.le_refl, true_and, and_true, va_rf, zok, Nat.add_left_cancel_iff, Nat.add_eq_left, Nat.left_eq_add, eq_self, if_true, if_false, not_false_eq_true, not_true_eq_false, false_implies, true_implies, Nat.reduceEqDiff, Nat.reduceAdd, Nat.reduceLT, Nat.reduceLeDiff, reduceIte]
          simpa [q1, q2, hz, q3, zrv] using hP
  · simp only [B_X5_downInRow_0, B_X5_downInRow_18, B_X5_downInRow_51, B_X5_downInRow_53, e_cut, e_iload, e_aload, e_istore, e_astore, e_iinc, e_const, e_lconst, e_bin, e_bin0, e_un, e_ladd, e_dupi, e_dupr, e_dup2, e_pop, e_if, e_icmp, e_sw, e_sw0, e_sw1, e_get, e_put, e_ald, e_ast, e_aald, e_aast, e_copy, e_new, e_newa, e_anewa, e_min, e_abs, e_oinit, e_callI, e_callV, e_callS, e_iret, e_zret, e_lret, e_vret, e_tl1, e_tl0, e_tl2, e_tl3, z10, Bool.false_eq_true, e_argi, e_argr, e_argn, zld_c, zst_n, zst_c, zpick_n, zpick_c, List.drop_succ_cons, List.drop_zero, List.take_succ_cons, List.take_zero, List.length_cons, List.length_nil, List.reverse_cons, List.reverse_nil, List.nil_append, List.cons_append, List.append_nil, List.getElem?_cons_zero, List.getElem?_cons_succ, List.set_cons_zero, List.set_cons_succ, Nat.add_sub_cancel_left, Nat.sub_self, Nat.add_zero, Nat.zero_add, Nat.le_add_right, Nat.le_refl, true_and, and_true, va_rf, zok, Nat.add_left_cancel_iff, Nat.add_eq_left, Nat.left_eq_add, eq_self, if_true, if_false, not_false_eq_true, not_true_eq_false, false_implies, true_implies, Nat.reduceEqDiff, Nat.reduceAdd, Nat.reduceLT, Nat.reduceLeDiff, reduceIte, zbit hM hr, zbit hG hr, q1]
    simpa [q1, zrv] using hP
set_option maxRecDepth 100000 in
set_option maxHeartbeats 4000000 in
theorem S_X5_downInRow_53 {p : Program} {e : Env} {s : State} {m : MethodId} {args : Array Value} {below : List Frame} {meth : Method} {c : Code} {D : va_G} {cy : zY} {b n0 : Nat} {P : zPo} (la : Launch) (X : zX p la e (rm_X5_downInRow) s m args below meth c 6 D cy b n0 cX5_downInRow wsX5_downInRow RX5) (hr : meth.sig.returnType = (some .int)) (h_X5_downByRing : zMet la yX5_downByRing wsX5_downByRing rm_X5_downByRing 0 0 sp_X5_downByRing) : zS p la e (rm_X5_downInRow) s m args below meth c (MQ below (zQ D b (n0 + 0) P) args s 0 0 (fun q => b ≤ q)) 6 D b n0 53 (B_X5_downInRow_53 b n0 cy P (zAt p la e (rm_X5_downInRow) s m args below meth c (MQ below (zQ D b (n0 + 0) P) args s 0 0 (fun q => b ≤ q)) 6 D b n0)) := by
  unfold B_X5_downInRow_53
  exact (s_iret X dX5_downInRow_53 hr)
set_option maxRecDepth 100000 in
set_option maxHeartbeats 4000000 in
theorem S_X5_downInRow_51 {p : Program} {e : Env} {s : State} {m : MethodId} {args : Array Value} {below : List Frame} {meth : Method} {c : Code} {D : va_G} {cy : zY} {b n0 : Nat} {P : zPo} (la : Launch) (X : zX p la e (rm_X5_downInRow) s m args below meth c 6 D cy b n0 cX5_downInRow wsX5_downInRow RX5) (hr : meth.sig.returnType = (some .int)) (h_X5_downByRing : zMet la yX5_downByRing wsX5_downByRing rm_X5_downByRing 0 0 sp_X5_downByRing) : zS p la e (rm_X5_downInRow) s m args below meth c (MQ below (zQ D b (n0 + 0) P) args s 0 0 (fun q => b ≤ q)) 6 D b n0 51 (B_X5_downInRow_51 b n0 cy P (zAt p la e (rm_X5_downInRow) s m args below meth c (MQ below (zQ D b (n0 + 0) P) args s 0 0 (fun q => b ≤ q)) 6 D b n0)) := by
  unfold B_X5_downInRow_51
  exact (s_bipush X dX5_downInRow_51 (by decide) (S_X5_downInRow_53 la X hr h_X5_downByRing))
set_option maxRecDepth 100000 in
set_option maxHeartbeats 4000000 in
theorem S_X5_downInRow_18 {p : Program} {e : Env} {s : State} {m : MethodId} {args : Array Value} {below : List Frame} {meth : Method} {c : Code} {D : va_G} {cy : zY} {b n0 : Nat} {P : zPo} (la : Launch) (X : zX p la e (rm_X5_downInRow) s m args below meth c 6 D cy b n0 cX5_downInRow wsX5_downInRow RX5) (hr : meth.sig.returnType = (some .int)) (h_X5_downByRing : zMet la yX5_downByRing wsX5_downByRing rm_X5_downByRing 0 0 sp_X5_downByRing) : zS p la e (rm_X5_downInRow) s m args below meth c (MQ below (zQ D b (n0 + 0) P) args s 0 0 (fun q => b ≤ q)) 6 D b n0 18 (B_X5_downInRow_18 b n0 cy P (zAt p la e (rm_X5_downInRow) s m args below meth c (MQ below (zQ D b (n0 + 0) P) args s 0 0 (fun q => b ≤ q)) 6 D b n0)) := by
  unfold B_X5_downInRow_18
  exact (s_bipush X dX5_downInRow_18 (by decide) (s_iret X dX5_downInRow_20 hr))
set_option maxRecDepth 100000 in
set_option maxHeartbeats 4000000 in
theorem S_X5_downInRow_0 {p : Program} {e : Env} {s : State} {m : MethodId} {args : Array Value} {below : List Frame} {meth : Method} {c : Code} {D : va_G} {cy : zY} {b n0 : Nat} {P : zPo} (la : Launch) (X : zX p la e (rm_X5_downInRow) s m args below meth c 6 D cy b n0 cX5_downInRow wsX5_downInRow RX5) (hr : meth.sig.returnType = (some .int)) (h_X5_downByRing : zMet la yX5_downByRing wsX5_downByRing rm_X5_downByRing 0 0 sp_X5_downByRing) : zS p la e (rm_X5_downInRow) s m args below meth c (MQ below (zQ D b (n0 + 0) P) args s 0 0 (fun q => b ≤ q)) 6 D b n0 0 (B_X5_downInRow_0 b n0 cy P (zAt p la e (rm_X5_downInRow) s m args below meth c (MQ below (zQ D b (n0 + 0) P) args s 0 0 (fun q => b ≤ q)) 6 D b n0)) := by
  unfold B_X5_downInRow_0
  exact (s_iload_n X dX5_downInRow_0 rfl (s_iload X dX5_downInRow_1 (s_ishr X dX5_downInRow_3 (s_iconst X dX5_downInRow_4 (by decide) (s_iand X dX5_downInRow_5 (s_if_eq X dX5_downInRow_6 (by decide) (S_X5_downInRow_18 la X hr h_X5_downByRing) (s_iload_n X dX5_downInRow_9 rfl (s_iload X dX5_downInRow_10 (s_ishr X dX5_downInRow_12 (s_iconst X dX5_downInRow_13 (by decide) (s_iand X dX5_downInRow_14 (s_if_eq X dX5_downInRow_15 (by decide) (s_aload_n X dX5_downInRow_21 rfl (s_iload_n X dX5_downInRow_22 rfl (s_iload X dX5_downInRow_23 (s_callS X h_X5_downByRing dX5_downInRow_25 gX5_downInRow_X5_downByRing rfl rfl rfl (by decide +kernel) ⟨by decide, by decide⟩ (s_istore X dX5_downInRow_28 (by decide) (s_iload X dX5_downInRow_30 (s_bipush X dX5_downInRow_32 (by decide) (s_icmp_eq X dX5_downInRow_34 (by decide) (S_X5_downInRow_51 la X hr h_X5_downByRing) (s_iload_n X dX5_downInRow_37 rfl (s_iload X dX5_downInRow_38 (s_ishr X dX5_downInRow_40 (s_iconst X dX5_downInRow_41 (by decide) (s_iand X dX5_downInRow_42 (s_if_eq X dX5_downInRow_43 (by decide) (S_X5_downInRow_51 la X hr h_X5_downByRing) (s_iload X dX5_downInRow_46 (s_goto X dX5_downInRow_48 (by decide) (S_X5_downInRow_53 la X hr h_X5_downByRing))))))))))))))))) (S_X5_downInRow_18 la X hr h_X5_downByRing)))))))))))))
theorem w_X5_downInRow (la : Launch) (h_X5_downByRing : zMet la yX5_downByRing wsX5_downByRing rm_X5_downByRing 0 0 sp_X5_downByRing) (sp : zSp) (vc : zVC_X5_downInRow sp) : zMet la yX5_downInRow wsX5_downInRow (rm_X5_downInRow) 0 0 sp :=
  z_of (cc := cX5_downInRow) (maxL := 6) (ret := (some .int)) (by decide +kernel) rfl (fun p e s m args below meth c D cy b n as E P hsp X hr hin => by
    obtain ⟨h1, h2⟩ := vc b cy n as E P (zAt p la e (rm_X5_downInRow) s m args below meth c (MQ below (zQ D b (n + 0) P) args s 0 0 (fun q => b ≤ q)) 6 D b n) hsp
    exact ⟨h1, S_X5_downInRow_0 la X hr h_X5_downByRing _ _ _ _ _ h2⟩)

theorem m_X5_downInRow (la : Launch) : zMet la yX5_downInRow wsX5_downInRow rm_X5_downInRow 0 0 sp_X5_downInRow := w_X5_downInRow la (m_X5_downByRing la) _ vc_X5_downInRow
def sp_X5_rowsFrom (d : Nat) : zSp := fun b cy as N E P => ∃ (n : Nat) (lo la : Nat → Nat) (i : Nat) (c : Nat → Nat) (S M G f : Nat), as = [.ref (b + i), .int (nI S), .int (nI M), .int (nI G), .int (nI (6 - f))] ∧ zP1 b cy N E n lo la i c ∧ S < 64 ∧ M < 64 ∧ M < 2 ^ n ∧ G < 64 ∧ f ≤ 6 ∧ f + 1 ≤ d ∧ P (some (.int (nI (zrows n c S f M G)))) E
abbrev rm_rec (d : Nat) : Room := { frames := 5 + d, cells := 0, slots := 0, locals := 153 + 40 * d }
def B_X5_rowsFrom_76 (b n0 : Nat) (cy : zY) (P : zPo) (A : Nat → zC) (d : Nat) : zC :=
  z_iinc 6 (1) (z_cut [0, 1, 2, 3, 4, 5, 6] (A 23))
def B_X5_rowsFrom_23 (b n0 : Nat) (cy : zY) (P : zPo) (A : Nat → zC) (d : Nat) : zC :=
  z_iload 6 (z_const (6) (z_icmp (fun x y => y ≤ x) (z_iload 5 (z_iret 0 0 P)) (z_aload 0 (z_iload 1 (z_iload 2 (z_iload 3 (z_iload 6 (z_callS b n0 0 0 cy 5 0 0 sp_X5_downInRow (z_istore 7 (z_iload 7 (z_const (-9) (z_icmp (fun x y => x = y) (B_X5_rowsFrom_76 b n0 cy P A d) (z_iload 5 (z_aload 0 (z_iload 1 (z_iload 2 (z_const (1) (z_iload 7 (z_bin (fun x y => x <<< (y &&& 31)) (z_const (-1) (z_bin (fun x y => x ^^^ y) (z_bin (fun x y => x &&& y) (z_iload 3 (z_const (1) (z_iload 6 (z_bin (fun x y => x <<< (y &&& 31)) (z_bin (fun x y => x ||| y) (z_iload 4 (z_const (1) (z_bin (fun x y => x + y) (z_callS b n0 0 0 cy 5 0 0 (sp_X5_rowsFrom d) (z_bin (fun x y => x + y) (z_istore 5 (B_X5_rowsFrom_76 b n0 cy P A d))))))))))))))))))))))))))))))))))
def B_X5_rowsFrom_0 (b n0 : Nat) (cy : zY) (P : zPo) (A : Nat → zC) (d : Nat) : zC :=
  z_iload 1 (z_iload 2 (z_bin (fun x y => x &&& y) (z_if (fun x => x = 0) (z_const (1) (z_iret 0 0 P)) (z_iload 4 (z_const (6) (z_icmp (fun x y => x < y) (z_const (0) (z_istore 5 (z_const (0) (z_istore 6 (z_cut [0, 1, 2, 3, 4, 5, 6] (A 23)))))) (z_const (0) (z_iret 0 0 P))))))))
def zVC_X5_rowsFrom (d : Nat) (sp : zSp) : Prop := ∀ (b : Nat) (cy : zY) (n : Nat) (as : List Value) (E : zE) (P : zPo) (A : Nat → zC), (∀ l st k u E, B_X5_rowsFrom_23 b n cy P A d l st k u E → A 23 l st k u E) → sp b cy as n E P → zgood as 8 ∧ B_X5_rowsFrom_0 b n cy P A d (lv_args 0 as) [] 0 0 E

set_option maxRecDepth 100000 in
set_option maxHeartbeats 4000000 in
theorem vc_X5_rowsFrom (d : Nat) : zVC_X5_rowsFrom d (sp_X5_rowsFrom (d + 1)) := by
  intro b cy N as E P A hA hsp
  obtain ⟨n, lo, la, i, c, S, M, G, f, rfl, hp1, hS, hM, hMn, hG, hf, hfd, hP⟩ := hsp
  refine ⟨⟨Nat.le_of_ble_eq_true rfl, zg1 rfl (zg1 rfl (zg1 rfl (zg1 rfl (zg1 rfl (zg0)))))⟩, ?_⟩
  obtain ⟨⟨⟨kept, cnt, tr, e0⟩, ⟨seat, line, items, ⟨hn, tf, tg, th, h0, h1, h2, h3, htf, htg, hth⟩⟩, hlo⟩, hmo, hok, hi, hN⟩ := id hp1
  have N0 : 0 < N := by omega
  have N3 : 3 < N := by omega
  have k6 : (6 : Int32) = nI 6 := rfl
  have k0 : (0 : Int32) = nI 0 := rfl
  by_cases q0 : S &&& M = 0
  · have e : zrows n c S f M G = 1 := by cases f <;> simp [zrows, q0]
    rw [e] at hP
    simp only [B_X5_rowsFrom_0, B_X5_rowsFrom_23, B_X5_rowsFrom_76, e_cut, e_iload, e_aload, e_istore, e_astore, e_iinc, e_const, e_lconst, e_bin, e_bin0, e_un, e_ladd, e_dupi, e_dupr, e_dup2, e_pop, e_if, e_icmp, e_sw, e_sw0, e_sw1, e_get, e_put, e_ald, e_ast, e_aald, e_aast, e_copy, e_new, e_newa, e_anewa, e_min, e_abs, e_oinit, e_callI, e_callV, e_callS, e_iret, e_zret, e_lret, e_vret, e_tl1, e_tl0, e_tl2, e_tl3, z10, Bool.false_eq_true, e_argi, e_argr, e_argn, zld_c, zst_n, zst_c, zpick_n, zpick_c, List.drop_succ_cons, List.drop_zero, List.take_succ_cons, List.take_zero, List.length_cons, List.length_nil, List.reverse_cons, List.reverse_nil, List.nil_append, List.cons_append, List.append_nil, List.getElem?_cons_zero, List.getElem?_cons_succ, List.set_cons_zero, List.set_cons_succ, Nat.add_sub_cancel_left, Nat.sub_self, Nat.add_zero, Nat.zero_add, Nat.le_add_right, Nat.le_refl, true_and, and_true, va_rf, zok, Nat.add_left_cancel_iff, Nat.add_eq_left, Nat.left_eq_add, eq_self, if_true, if_false, not_false_eq_true, not_true_eq_false, false_implies, true_implies, Nat.reduceEqDiff, Nat.reduceAdd, Nat.reduceLT, Nat.reduceLeDiff, reduceIte, zand_i hS hM, q0, nI_0]
    exact hP
  · have hSM : S &&& M < 64 := Nat.lt_of_le_of_lt Nat.and_le_left hS
    have q0' : ¬ nI (S &&& M) = 0 := nI_ne0 (by omega) (by omega)
    cases f with
    | zero =>
      have e : zrows n c S 0 M G = 0 := by simp [zrows, q0]
      rw [e] at hP
      have cle : ¬ nI 6 < nI 6 := by decide
      have cle2 : ¬ nI (6 - 0) < nI 6 := by decide
      simp only [B_X5_rowsFrom_0, B_X5_rowsFrom_23, B_X5_rowsFrom_76, e_cut, e_iload, e_aload, e_istore, e_astore, e_iinc, e_const, e_lconst, e_bin, e_bin0, e_un, e_ladd, e_dupi, e_dupr, e_dup2, e_pop, e_if, e_icmp, e_sw, e_sw0, e_sw1, e_get, e_put, e_ald, e_ast, e_aald, e_aast, e_copy, e_new, e_newa, e_anewa, e_min, e_abs, e_oinit, e_callI, e_callV, e_callS, e_iret, e_zret, e_lret, e_vret, e_tl1, e_tl0, e_tl2, e_tl3, z10, Bool.false_eq_true, e_argi, e_argr, e_argn, zld_c, zst_n, zst_c, zpick_n, zpick_c, List.drop_succ_cons, List.drop_zero, List.take_succ_cons, List.take_zero, List.length_cons, List.length_nil, List.reverse_cons, List.reverse_nil, List.nil_append, List.cons_append, List.append_nil, List.getElem?_cons_zero, List.getElem?_cons_succ, List.set_cons_zero, List.set_cons_succ, Nat.add_sub_cancel_left, Nat.sub_self, Nat.add_zero, Nat.zero_add, Nat.le_add_right, Nat.le_refl, true_and, and_true, va_rf, zok, Nat.add_left_cancel_iff, Nat.add_eq_left, Nat.left_eq_add, eq_self, if_true, if_false, not_false_eq_true, not_true_eq_false, false_implies, true_implies, Nat.reduceEqDiff, Nat.reduceAdd, Nat.reduceLT, Nat.reduceLeDiff, reduceIte, zand_i hS hM, q0', k6, cle2]
      exact hP
    | succ f =>
      have e : zrows n c S (f + 1) M G = zsum (fun r => match zdir n c S M G r with | none => 0 | some q => zrows n c S f (zclr M q) (zset G r)) n := by simp [zrows, q0]
      rw [e] at hP
      have hz0 : ∀ q, n ≤ q → zdir n c S M G q = none := fun q hq => zdir_no hMn hq
      generalize hg : (fun r => match zdir n c S M G r with | none => 0 | some q => zrows n c S f (zclr M q) (zset G r)) = g at hP
      have e6 := zsum_more (g := g) (n := n) (fun q hq => by rw [← hg]; simp [hz0 q hq]) (6 - n)
      rw [show n + (6 - n) = 6 by omega] at e6
      rw [← e6] at hP
      have cle2 : nI (6 - (f + 1)) < nI 6 := nI_lt (by omega) (by omega)
      have loop : ∀ (t k : Nat) (hd : t + k = 6), A 23 [(0, .ref (b + i)), (1, .int (nI S)), (2, .int (nI M)), (3, .int (nI G)), (4, .int (nI (6 - (f + 1)))), (5, .int (nI (zsum g k))), (6, .int (nI k))] [] 0 0 E := by
        intro t
        induction t with
        | zero =>
          intro k hd
          obtain rfl : k = 6 := by omega
          apply hA
          have cle : nI 6 ≤ nI 6 := nI_le (Nat.le_refl _) (by omega)
          simp only [B_X5_rowsFrom_0, B_X5_rowsFrom_23, B_X5_rowsFrom_76, e_cut, e_iload, e_aload, e_istore, e_astore, e_iinc, e_const, e_lconst, e_bin, e_bin0, e_un, e_ladd, e_dupi, e_dupr, e_dup2, e_pop, e_if, e_icmp, e_sw, e_sw0, e_sw1, e_get, e_put, e_ald, e_ast, e_aald, e_aast, e_copy, e_new, e_newa, e_anewa, e_min, e_abs, e_oinit, e_callI, e_callV, e_callS, e_iret, e_zret, e_lret, e_vret, e_tl1, e_tl0, e_tl2, e_tl3, z10, Bool.false_eq_true, e_argi, e_argr, e_argn, zld_c, zst_n, zst_c, zpick_n, zpick_c, List.drop_succ_cons, List.drop_zero, List.take_succ_cons, List.take_zero, List.length_cons, List.length_nil, List.reverse_cons, List.reverse_nil, List.nil_append, List.cons_append, List.append_nil, List.getElem?_cons_zero, List.getElem?_cons_succ, List.set_cons_zero, List.set_cons_succ, Nat.add_sub_cancel_left, Nat.sub_self, Nat.add_zero, Nat.zero_add, Nat.le_add_right, Nat.le_refl, true_and, and_true, va_rf, zok, Nat.add_left_cancel_iff, Nat.add_eq_left, Nat.left_eq_add, eq_self, if_true, if_false, not_false_eq_true, not_true_eq_false, false_implies, true_implies, Nat.reduceEqDiff, Nat.reduceAdd, Nat.reduceLT, Nat.reduceLeDiff, reduceIte, k6, cle]
          exact hP
        | succ t ih =>
          intro k hd
          have hk6 : k < 6 := by omega
          apply hA
          have cle : ¬ nI 6 ≤ nI k := nI_ge hk6 (by omega)
          simp only [B_X5_rowsFrom_0, B_X5_rowsFrom_23, B_X5_rowsFrom_76, e_cut, e_iload, e_aload, e_istore, e_astore, e_iinc, e_const, e_lconst, e_bin, e_bin0, e_un, e_ladd, e_dupi, e_dupr, e_dup2, e_pop, e_if, e_icmp, e_sw, e_sw0, e_sw1, e_get, e_put, e_ald, e_ast, e_aald, e_aast, e_copy, e_new, e_newa, e_anewa, e_min, e_abs, e_oinit, e_callI, e_callV, e_callS, e_iret, e_zret, e_lret, e_vret, e_tl1, e_tl0, e_tl2, e_tl3, z10, Bool.false_eq_true, e_argi, e_argr, e_argn, zld_c, zst_n, zst_c, zpick_n, zpick_c, List.drop_succ_cons, List.drop_zero, List.take_succ_cons, List.take_zero, List.length_cons, List.length_nil, List.reverse_cons, List.reverse_nil, List.nil_append, List.cons_append, List.append_nil, List.getElem?_cons_zero, List.getElem?_cons_succ, List.set_cons_zero, List.set_cons_succ, Nat.add_sub_cancel_left, Nat.sub_self, Nat.add_zero, Nat.zero_add, Nat.le_add_right, Nat.le_refl, true_and, and_true, va_rf, zok, Nat.add_left_cancel_iff, Nat.add_eq_left, Nat.left_eq_add, eq_self, if_true, if_false, not_false_eq_true, not_true_eq_false, false_implies, true_implies, Nat.reduceEqDiff, Nat.reduceAdd, Nat.reduceLT, Nat.reduceLeDiff, reduceIte, k6, cle]
          refine ⟨n, lo, la, i, c, S, M, G, k, rfl, hp1, hS, hM, hMn, hG, hk6, ?_⟩
          cases hz : zdir n c S M G k with
          | none =>
            simp only [e_cut, e_iload, e_aload, e_istore, e_astore, e_iinc, e_const, e_lconst, e_bin, e_bin0, e_un, e_ladd, e_dupi, e_dupr, e_dup2, e_pop, e_if, e_icmp, e_sw, e_sw0, e_sw1, e_get, e_put, e_ald, e_ast, e_aald, e_aast, e_copy, e_new, e_newa, e_anewa, e_min, e_abs, e_oinit, e_callI, e_callV, e_callS, e_iret, e_zret, e_lret, e_vret, e_tl1, e_tl0, e_tl2, e_tl3, z10, Bool.false_eq_true, e_argi, e_argr, e_argn, zld_c, zst_n, zst_c, zpick_n, zpick_c, List.drop_succ_cons, List.drop_zero, List.take_succ_cons, List.take_zero, List.length_cons, List.length_nil, List.reverse_cons, List.reverse_nil, List.nil_append, List.cons_append, List.append_nil, List.getElem?_cons_zero, List.getElem?_cons_succ, List.set_cons_zero, List.set_cons_succ, Nat.add_sub_cancel_left, Nat.sub_self, Nat.add_zero, Nat.zero_add, Nat.le_add_right, Nat.le_refl, true_and, and_true, va_rf, zok, Nat.add_left_cancel_iff, Nat.add_eq_left, Nat.left_eq_add, eq_self, if_true, if_false, not_false_eq_true, not_true_eq_false, false_implies, true_implies, Nat.reduceEqDiff, Nat.reduceAdd, Nat.reduceLT, Nat.reduceLeDiff, reduceIte, zrv, B_X5_rowsFrom_0, B_X5_rowsFrom_23, B_X5_rowsFrom_76, nI_1]
            have h9 := ih (k + 1) (by omega)
            have e2 : zsum g (k + 1) = zsum g k := by rw [zsum, ← hg]; simp [hz]
            rw [e2] at h9; exact h9
          | some q =>
            have hq := (zdir_lt hz).1
            have hq6 : q < 6 := by omega
            have ed : 6 - (f + 1) + 1 = 6 - f := by omega
            simp only [e_cut, e_iload, e_aload, e_istore, e_astore, e_iinc, e_const, e_lconst, e_bin, e_bin0, e_un, e_ladd, e_dupi, e_dupr, e_dup2, e_pop, e_if, e_icmp, e_sw, e_sw0, e_sw1, e_get, e_put, e_ald, e_ast, e_aald, e_aast, e_copy, e_new, e_newa, e_anewa, e_min, e_abs, e_oinit, e_callI, e_callV, e_callS, e_iret, e_zret, e_lret, e_vret, e_tl1, e_tl0, e_tl2, e_tl3, z10, Bool.false_eq_true, e_argi, e_argr, e_argn, zld_c, zst_n, zst_c, zpick_n, zpick_c, List.drop_succ_cons, List.drop_zero, List.take_succ_cons, List.take_zero, List.length_cons, List.length_nil, List.reverse_cons, List.reverse_nil, List.nil_append, List.cons_append, List.append_nil, List.getElem?_cons_zero, List.getElem?_cons_succ, List.set_cons_zero, List.set_cons_succ, Nat.add_sub_cancel_left, Nat.sub_self, Nat.add_zero, Nat.zero_add, Nat.le_add_right, Nat.le_refl, true_and, and_true, va_rf, zok, Nat.add_left_cancel_iff, Nat.add_eq_left, Nat.left_eq_add, eq_self, if_true, if_false, not_false_eq_true, not_true_eq_false, false_implies, true_implies, Nat.reduceEqDiff, Nat.reduceAdd, Nat.reduceLT, Nat.reduceLeDiff, reduceIte, zrv, zrv_nn hq6, B_X5_rowsFrom_0, B_X5_rowsFrom_23, B_X5_rowsFrom_76, zclr_i hM hq6, zset_i hG hk6, nI_1, ed]
            refine ⟨n, lo, la, i, c, S, zclr M q, zset G k, f, rfl, hp1, hS, zclr_lt hM, zclr_l2 hMn, zset_lt hG hk6, by omega, by omega, ?_⟩
            simp only [e_cut, e_iload, e_aload, e_istore, e_astore, e_iinc, e_const, e_lconst, e_bin, e_bin0, e_un, e_ladd, e_dupi, e_dupr, e_dup2, e_pop, e_if, e_icmp, e_sw, e_sw0, e_sw1, e_get, e_put, e_ald, e_ast, e_aald, e_aast, e_copy, e_new, e_newa, e_anewa, e_min, e_abs, e_oinit, e_callI, e_callV, e_callS, e_iret, e_zret, e_lret, e_vret, e_tl1, e_tl0, e_tl2, e_tl3, z10, Bool.false_eq_true, e_argi, e_argr, e_argn, zld_c, zst_n, zst_c, zpick_n, zpick_c, List.drop_succ_cons, List.drop_zero, List.take_succ_cons, List.take_zero, List.length_cons, List.length_nil, List.reverse_cons, List.reverse_nil, List.nil_append, List.cons_append, List.append_nil, List.getElem?_cons_zero, List.getElem?_cons_succ, List.set_cons_zero, List.set_cons_succ, Nat.add_sub_cancel_left, Nat.sub_self, Nat.add_zero, Nat.zero_add, Nat.le_add_right, Nat.le_refl, true_and, and_true, va_rf, zok, Nat.add_left_cancel_iff, Nat.add_eq_left, Nat.left_eq_add, eq_self, if_true, if_false, not_false_eq_true, not_true_eq_false, false_implies, true_implies, Nat.reduceEqDiff, Nat.reduceAdd, Nat.reduceLT, Nat.reduceLeDiff, reduceIte, nI_1, nI_add]
            have h9 := ih (k + 1) (by omega)
            have e2 : zsum g (k + 1) = zsum g k + zrows n c S f (zclr M q) (zset G k) := by rw [zsum, ← hg]; simp [hz]
            rw [e2] at h9; exact h9
      simp only [B_X5_rowsFrom_0, B_X5_rowsFrom_23, B_X5_rowsFrom_76, e_cut, e_iload, e_aload, e_istore, e_astore, e_iinc, e_const, e_lconst, e_bin, e_bin0, e_un, e_ladd, e_dupi, e_dupr, e_dup2, e_pop, e_if, e_icmp, e_sw, e_sw0, e_sw1, e_get, e_put, e_ald, e_ast, e_aald, e_aast, e_copy, e_new, e_newa, e_anewa, e_min, e_abs, e_oinit, e_callI, e_callV, e_callS, e_iret, e_zret, e_lret, e_vret, e_tl1, e_tl0, e_tl2, e_tl3, z10, Bool.false_eq_true, e_argi, e_argr, e_argn, zld_c, zst_n, zst_c, zpick_n, zpick_c, List.drop_succ_cons, List.drop_zero, List.take_succ_cons, List.take_zero, List.length_cons, List.length_nil, List.reverse_cons, List.reverse_nil, List.nil_append, List.cons_append, List.append_nil, List.getElem?_cons_zero, List.getElem?_cons_succ, List.set_cons_zero, List.set_cons_succ, Nat.add_sub_cancel_left, Nat.sub_self, Nat.add_zero, Nat.zero_add, Nat.le_add_right, Nat.le_refl, true_and, and_true, va_rf, zok, Nat.add_left_cancel_iff, Nat.add_eq_left, Nat.left_eq_add, eq_self, if_true, if_false, not_false_eq_true, not_true_eq_false, false_implies, true_implies, Nat.reduceEqDiff, Nat.reduceAdd, Nat.reduceLT, Nat.reduceLeDiff, reduceIte, zand_i hS hM, q0', k6, cle2]
      exact loop 6 0 rfl
set_option maxRecDepth 100000 in
set_option maxHeartbeats 4000000 in
theorem S_X5_rowsFrom_76 {p : Program} {e : Env} {s : State} {m : MethodId} {args : Array Value} {below : List Frame} {meth : Method} {c : Code} {D : va_G} {cy : zY} {b n0 : Nat} {P : zPo} {d : Nat} (la : Launch) (X : zX p la e (rm_rec (d + 1)) s m args below meth c 8 D cy b n0 cX5_rowsFrom wsX5_rowsFrom RX5) (hr : meth.sig.returnType = (some .int)) (h_X5_downInRow : zMet la yX5_downInRow wsX5_downInRow rm_X5_downInRow 0 0 sp_X5_downInRow) (h_X5_rowsFrom : zMet la yX5_rowsFrom wsX5_rowsFrom (rm_rec d) 0 0 (sp_X5_rowsFrom d)) : zS p la e (rm_rec (d + 1)) s m args below meth c (MQ below (zQ D b (n0 + 0) P) args s 0 0 (fun q => b ≤ q)) 8 D b n0 76 (B_X5_rowsFrom_76 b n0 cy P (zAt p la e (rm_rec (d + 1)) s m args below meth c (MQ below (zQ D b (n0 + 0) P) args s 0 0 (fun q => b ≤ q)) 8 D b n0) d) := by
  unfold B_X5_rowsFrom_76
  exact (s_iinc X dX5_rowsFrom_76 (by decide) (by decide) (s_goto X dX5_rowsFrom_79 (by decide) (s_cut (by decide) zS_at)))
set_option maxRecDepth 100000 in
set_option maxHeartbeats 4000000 in
theorem S_X5_rowsFrom_23 {p : Program} {e : Env} {s : State} {m : MethodId} {args : Array Value} {below : List Frame} {meth : Method} {c : Code} {D : va_G} {cy : zY} {b n0 : Nat} {P : zPo} {d : Nat} (la : Launch) (X : zX p la e (rm_rec (d + 1)) s m args below meth c 8 D cy b n0 cX5_rowsFrom wsX5_rowsFrom RX5) (hr : meth.sig.returnType = (some .int)) (h_X5_downInRow : zMet la yX5_downInRow wsX5_downInRow rm_X5_downInRow 0 0 sp_X5_downInRow) (h_X5_rowsFrom : zMet la yX5_rowsFrom wsX5_rowsFrom (rm_rec d) 0 0 (sp_X5_rowsFrom d)) : zS p la e (rm_rec (d + 1)) s m args below meth c (MQ below (zQ D b (n0 + 0) P) args s 0 0 (fun q => b ≤ q)) 8 D b n0 23 (B_X5_rowsFrom_23 b n0 cy P (zAt p la e (rm_rec (d + 1)) s m args below meth c (MQ below (zQ D b (n0 + 0) P) args s 0 0 (fun q => b ≤ q)) 8 D b n0) d) := by
  unfold B_X5_rowsFrom_23
  exact (s_iload X dX5_rowsFrom_23 (s_bipush X dX5_rowsFrom_25 (by decide) (s_icmp_ge X dX5_rowsFrom_27 (by decide) (s_iload X dX5_rowsFrom_82 (s_iret X dX5_rowsFrom_84 hr)) (s_aload_n X dX5_rowsFrom_30 rfl (s_iload_n X dX5_rowsFrom_31 rfl (s_iload_n X dX5_rowsFrom_32 rfl (s_iload_n X dX5_rowsFrom_33 rfl (s_iload X dX5_rowsFrom_34 (s_callS X h_X5_downInRow dX5_rowsFrom_36 gX5_rowsFrom_X5_downInRow rfl rfl rfl (by decide +kernel) ⟨by show _ + 1 ≤ _; simp [rm_rec, rm_X5_downInRow]; omega, by show _ ≤ _; simp [rm_rec, rm_X5_downInRow]; omega⟩ (s_istore X dX5_rowsFrom_39 (by decide) (s_iload X dX5_rowsFrom_41 (s_bipush X dX5_rowsFrom_43 (by decide) (s_icmp_eq X dX5_rowsFrom_45 (by decide) (S_X5_rowsFrom_76 la X hr h_X5_downInRow h_X5_rowsFrom) (s_iload X dX5_rowsFrom_48 (s_aload_n X dX5_rowsFrom_50 rfl (s_iload_n X dX5_rowsFrom_51 rfl (s_iload_n X dX5_rowsFrom_52 rfl (s_iconst X dX5_rowsFrom_53 (by decide) (s_iload X dX5_rowsFrom_54 (s_ishl X dX5_rowsFrom_56 (s_iconst X dX5_rowsFrom_57 (by decide) (s_ixor X dX5_rowsFrom_58 (s_iand X dX5_rowsFrom_59 (s_iload_n X dX5_rowsFrom_60 rfl (s_iconst X dX5_rowsFrom_61 (by decide) (s_iload X dX5_rowsFrom_62 (s_ishl X dX5_rowsFrom_64 (s_ior X dX5_rowsFrom_65 (s_iload X dX5_rowsFrom_66 (s_iconst X dX5_rowsFrom_68 (by decide) (s_iadd X dX5_rowsFrom_69 (s_callS X h_X5_rowsFrom dX5_rowsFrom_70 gX5_rowsFrom_X5_rowsFrom rfl rfl rfl (by decide +kernel) ⟨by show _ + 1 ≤ _; simp [rm_rec]; omega, by show _ ≤ _; simp [rm_rec]; omega⟩ (s_iadd X dX5_rowsFrom_73 (s_istore X dX5_rowsFrom_74 (by decide) (S_X5_rowsFrom_76 la X hr h_X5_downInRow h_X5_rowsFrom)))))))))))))))))))))))))))))))))))
set_option maxRecDepth 100000 in
set_option maxHeartbeats 4000000 in
theorem S_X5_rowsFrom_0 {p : Program} {e : Env} {s : State} {m : MethodId} {args : Array Value} {below : List Frame} {meth : Method} {c : Code} {D : va_G} {cy : zY} {b n0 : Nat} {P : zPo} {d : Nat} (la : Launch) (X : zX p la e (rm_rec (d + 1)) s m args below meth c 8 D cy b n0 cX5_rowsFrom wsX5_rowsFrom RX5) (hr : meth.sig.returnType = (some .int)) (h_X5_downInRow : zMet la yX5_downInRow wsX5_downInRow rm_X5_downInRow 0 0 sp_X5_downInRow) (h_X5_rowsFrom : zMet la yX5_rowsFrom wsX5_rowsFrom (rm_rec d) 0 0 (sp_X5_rowsFrom d)) : zS p la e (rm_rec (d + 1)) s m args below meth c (MQ below (zQ D b (n0 + 0) P) args s 0 0 (fun q => b ≤ q)) 8 D b n0 0 (B_X5_rowsFrom_0 b n0 cy P (zAt p la e (rm_rec (d + 1)) s m args below meth c (MQ below (zQ D b (n0 + 0) P) args s 0 0 (fun q => b ≤ q)) 8 D b n0) d) := by
  unfold B_X5_rowsFrom_0
  exact (s_iload_n X dX5_rowsFrom_0 rfl (s_iload_n X dX5_rowsFrom_1 rfl (s_iand X dX5_rowsFrom_2 (s_if_ne X dX5_rowsFrom_3 (by decide) (s_iload X dX5_rowsFrom_8 (s_bipush X dX5_rowsFrom_10 (by decide) (s_icmp_lt X dX5_rowsFrom_12 (by decide) (s_iconst X dX5_rowsFrom_17 (by decide) (s_istore X dX5_rowsFrom_18 (by decide) (s_iconst X dX5_rowsFrom_20 (by decide) (s_istore X dX5_rowsFrom_21 (by decide) (s_cut (by decide) zS_at))))) (s_iconst X dX5_rowsFrom_15 (by decide) (s_iret X dX5_rowsFrom_16 hr))))) (s_iconst X dX5_rowsFrom_6 (by decide) (s_iret X dX5_rowsFrom_7 hr))))))
theorem w_X5_rowsFrom (la : Launch) (d : Nat) (h_X5_downInRow : zMet la yX5_downInRow wsX5_downInRow rm_X5_downInRow 0 0 sp_X5_downInRow) (h_X5_rowsFrom : zMet la yX5_rowsFrom wsX5_rowsFrom (rm_rec d) 0 0 (sp_X5_rowsFrom d)) (sp : zSp) (vc : zVC_X5_rowsFrom d sp) : zMet la yX5_rowsFrom wsX5_rowsFrom (rm_rec (d + 1)) 0 0 sp :=
  z_of (cc := cX5_rowsFrom) (maxL := 8) (ret := (some .int)) (by decide +kernel) rfl (fun p e s m args below meth c D cy b n as E P hsp X hr hin => by
    obtain ⟨h1, h2⟩ := vc b cy n as E P (zAt p la e (rm_rec (d + 1)) s m args below meth c (MQ below (zQ D b (n + 0) P) args s 0 0 (fun q => b ≤ q)) 8 D b n) (fun _ _ _ _ _ q => S_X5_rowsFrom_23 la X hr h_X5_downInRow h_X5_rowsFrom _ _ _ _ _ q) hsp
    exact ⟨h1, S_X5_rowsFrom_0 la X hr h_X5_downInRow h_X5_rowsFrom _ _ _ _ _ h2⟩)

theorem m_X5_rowsFrom (la : Launch) : ∀ d : Nat, zMet la yX5_rowsFrom wsX5_rowsFrom (rm_rec d) 0 0 (sp_X5_rowsFrom d) := by
  intro d
  induction d with
  | zero =>
    intro D cy b n as E P hsp
    obtain ⟨_, _, _, _, _, _, _, _, f, _, _, _, _, _, _, _, h, _⟩ := hsp
    omega
  | succ d ih => exact w_X5_rowsFrom la d (m_X5_downInRow la) ih _ (vc_X5_rowsFrom d)
/-- whether a row goes on with r's ring -/
def zgo (n : Nat) (c : Nat → Nat) (S f M G r : Nat) : Bool := match zdir n c S M G r with
  | none => false
  | some q => decide (0 < zrows n c S f (zclr M q) (zset G r))
theorem zsum_le {g : Nat → Nat} {B : Nat} (h : ∀ r, g r ≤ B) : ∀ n, zsum g n ≤ n * B := by
  intro n
  induction n with
  | zero => simp [zsum]
  | succ n ih => rw [zsum, Nat.succ_mul]; have := h n; omega
theorem zrows_le {n : Nat} {c : Nat → Nat} {S : Nat} (hn : n ≤ 6) : ∀ f M G, zrows n c S f M G ≤ 6 ^ f := by
  intro f
  induction f with
  | zero => intro M G; simp only [zrows]; split <;> simp
  | succ f ih =>
    intro M G
    have hp : 1 ≤ 6 ^ (f + 1) := by have := Nat.pow_le_pow_left (show 1 ≤ 6 by omega) (f + 1); simpa using this
    simp only [zrows]
    split
    · exact hp
    · refine Nat.le_trans (zsum_le (B := 6 ^ f) (fun r => ?_) n) ?_
      · cases zdir n c S M G r with
        | none => exact Nat.zero_le _
        | some q => exact ih _ _
      · rw [Nat.pow_succ, Nat.mul_comm]
        exact Nat.mul_le_mul_left _ hn
theorem zrows_lt {n : Nat} {c : Nat → Nat} {S f M G : Nat} (hn : n ≤ 6) (hf : f ≤ 6) : zrows n c S f M G < 2 ^ 31 := by
  have h1 := zrows_le (c := c) (S := S) hn f M G
  have h2 : 6 ^ f ≤ 6 ^ 6 := Nat.pow_le_pow_right (by omega) hf
  have h3 : (6 : Nat) ^ 6 < 2 ^ 31 := by decide
  omega
theorem zgo_no {n : Nat} {c : Nat → Nat} {S f M G r : Nat} (h : M < 2 ^ n) (hr : n ≤ r) : zgo n c S f M G r = false := by
  unfold zgo
  rw [zdir_no h hr]
theorem zfind_6 {n : Nat} {c : Nat → Nat} {S f M G : Nat} (hn : n ≤ 6) (h : M < 2 ^ n) : zfind (zgo n c S f M G) 0 n = zfind (zgo n c S f M G) 0 6 := by
  have e := zfind_more (p := zgo n c S f M G) (n := n) (fun q hq => zgo_no h hq) (6 - n) n 0 (by omega)
  rw [show n + (6 - n) = 6 by omega] at e
  exact e.symm
def sp_X5_firstRinger : zSp := fun b cy as N E P => ∃ (n : Nat) (lo la : Nat → Nat) (i : Nat) (c : Nat → Nat) (S M G f : Nat), as = [.ref (b + i), .int (nI S), .int (nI M), .int (nI G), .int (nI (5 - f))] ∧ zP1 b cy N E n lo la i c ∧ S < 64 ∧ M < 64 ∧ M < 2 ^ n ∧ G < 64 ∧ f ≤ 5 ∧ P (some (.int (zrv (zfind (zgo n c S f M G) 0 n)))) E
abbrev rm_X5_firstRinger : Room := { frames := 14, cells := 0, slots := 0, locals := 500 }
def B_X5_firstRinger_57 (b n0 : Nat) (cy : zY) (P : zPo) (A : Nat → zC) : zC :=
  z_iinc 5 (1) (z_cut [0, 1, 2, 3, 4, 5] (A 3))
def B_X5_firstRinger_3 (b n0 : Nat) (cy : zY) (P : zPo) (A : Nat → zC) : zC :=
  z_iload 5 (z_const (6) (z_icmp (fun x y => y ≤ x) (z_const (-9) (z_iret 0 0 P)) (z_aload 0 (z_iload 1 (z_iload 2 (z_iload 3 (z_iload 5 (z_callS b n0 0 0 cy 5 0 0 sp_X5_downInRow (z_istore 6 (z_iload 6 (z_const (-9) (z_icmp (fun x y => x = y) (B_X5_firstRinger_57 b n0 cy P A) (z_aload 0 (z_iload 1 (z_iload 2 (z_const (1) (z_iload 6 (z_bin (fun x y => x <<< (y &&& 31)) (z_const (-1) (z_bin (fun x y => x ^^^ y) (z_bin (fun x y => x &&& y) (z_iload 3 (z_const (1) (z_iload 5 (z_bin (fun x y => x <<< (y &&& 31)) (z_bin (fun x y => x ||| y) (z_iload 4 (z_const (1) (z_bin (fun x y => x + y) (z_callS b n0 0 0 cy 5 0 0 (sp_X5_rowsFrom 8) (z_if (fun x => x ≤ 0) (B_X5_firstRinger_57 b n0 cy P A) (z_iload 5 (z_iret 0 0 P)))))))))))))))))))))))))))))))))
def B_X5_firstRinger_0 (b n0 : Nat) (cy : zY) (P : zPo) (A : Nat → zC) : zC :=
  z_const (0) (z_istore 5 (z_cut [0, 1, 2, 3, 4, 5] (A 3)))
def zVC_X5_firstRinger (sp : zSp) : Prop := ∀ (b : Nat) (cy : zY) (n : Nat) (as : List Value) (E : zE) (P : zPo) (A : Nat → zC), (∀ l st k u E, B_X5_firstRinger_3 b n cy P A l st k u E → A 3 l st k u E) → sp b cy as n E P → zgood as 7 ∧ B_X5_firstRinger_0 b n cy P A (lv_args 0 as) [] 0 0 E

set_option maxRecDepth 100000 in
set_option maxHeartbeats 4000000 in
theorem vc_X5_firstRinger : zVC_X5_firstRinger sp_X5_firstRinger := by
  intro b cy N as E P A hA hsp
  obtain ⟨n, lo, la, i, c, S, M, G, f, rfl, hp1, hS, hM, hMn, hG, hf, hP⟩ := hsp
  refine ⟨⟨Nat.le_of_ble_eq_true rfl, zg1 rfl (zg1 rfl (zg1 rfl (zg1 rfl (zg1 rfl (zg0)))))⟩, ?_⟩
  have k6 : (6 : Int32) = nI 6 := rfl
  obtain ⟨⟨⟨kept, cnt, tr, e0⟩, ⟨seat, line, items, ⟨hn, tf, tg, th, h0, h1, h2, h3, htf, htg, hth⟩⟩, hlo⟩, hmo, hok, hi, hN⟩ := id hp1
  have N0 : 0 < N := by omega
  have N3 : 3 < N := by omega
  rw [zfind_6 hn hMn] at hP
  have loop : ∀ (t k : Nat) (hd : t + k = 6), P (some (.int (zrv (zfind (zgo n c S f M G) k t)))) E → A 3 [(0, .ref (b + i)), (1, .int (nI S)), (2, .int (nI M)), (3, .int (nI G)), (4, .int (nI (5 - f))), (5, .int (nI k))] [] 0 0 E := by
    intro t
    induction t with
    | zero =>
      intro k hd hP
      obtain rfl : k = 6 := by omega
      apply hA
      have cle : nI 6 ≤ nI 6 := nI_le (Nat.le_refl _) (by omega)
      simp only [B_X5_firstRinger_0, B_X5_firstRinger_3, B_X5_firstRinger_57, e_cut, e_iload, e_aload, e_istore, e_astore, e_iinc, e_const, e_lconst, e_bin, e_bin0, e_un, e_ladd, e_dupi, e_dupr, e_dup2, e_pop, e_if, e_icmp, e_sw, e_sw0, e_sw1, e_get, e_put, e_ald, e_ast, e_aald, e_aast, e_copy, e_new, e_newa, e_anewa, e_min, e_abs, e_oinit, e_callI, e_callV, e_callS, e_iret, e_zret, e_lret, e_vret, e_tl1, e_tl0, e_tl2, e_tl3, z10, Bool.false_eq_true, e_argi, e_argr, e_argn, zld_c, zst_n, zst_c, zpick_n, zpick_c, List.drop_succ_cons, List.drop_zero, List.take_succ_cons, List.take_zero, List.length_cons, List.length_nil, List.reverse_cons, List.reverse_nil, List.nil_append, List.cons_append, List.append_nil, List.getElem?_cons_zero, List.getElem?_cons_succ, List.set_cons_zero, List.set_cons_succ, Nat.add_sub_cancel_left, Nat.sub_self, Nat.add_zero, Nat.zero_add, Nat.le_add_right, Nat.le_refl, true_and, and_true, va_rf, zok, Nat.add_left_cancel_iff, Nat.add_eq_left, Nat.left_eq_add, eq_self, if_true, if_false, not_false_eq_true, not_true_eq_false, false_implies, true_implies, Nat.reduceEqDiff, Nat.reduceAdd, Nat.reduceLT, Nat.reduceLeDiff, reduceIte, k6, cle]
      exact hP
    | succ t ih =>
      intro k hd hP
      have hk6 : k < 6 := by omega
      apply hA
      have cle : ¬ nI 6 ≤ nI k := nI_ge hk6 (by omega)
      simp only [B_X5_firstRinger_0, B_X5_firstRinger_3, B_X5_firstRinger_57, e_cut, e_iload, e_aload, e_istore, e_astore, e_iinc, e_const, e_lconst, e_bin, e_bin0, e_un, e_ladd, e_dupi, e_dupr, e_dup2, e_pop, e_if, e_icmp, e_sw, e_sw0, e_sw1, e_get, e_put, e_ald, e_ast, e_aald, e_aast, e_copy, e_new, e_newa, e_anewa, e_min, e_abs, e_oinit, e_callI, e_callV, e_callS, e_iret, e_zret, e_lret, e_vret, e_tl1, e_tl0, e_tl2, e_tl3, z10, Bool.false_eq_true, e_argi, e_argr, e_argn, zld_c, zst_n, zst_c, zpick_n, zpick_c, List.drop_succ_cons, List.drop_zero, List.take_succ_cons, List.take_zero, List.length_cons, List.length_nil, List.reverse_cons, List.reverse_nil, List.nil_append, List.cons_append, List.append_nil, List.getElem?_cons_zero, List.getElem?_cons_succ, List.set_cons_zero, List.set_cons_succ, Nat.add_sub_cancel_left, Nat.sub_self, Nat.add_zero, Nat.zero_add, Nat.le_add_right, Nat.le_refl, true_and, and_true, va_rf, zok, Nat.add_left_cancel_iff, Nat.add_eq_left, Nat.left_eq_add, eq_self, if_true, if_false, not_false_eq_true, not_true_eq_false, false_implies, true_implies, Nat.reduceEqDiff, Nat.reduceAdd, Nat.reduceLT, Nat.reduceLeDiff, reduceIte, k6, cle]
      refine ⟨n, lo, la, i, c, S, M, G, k, rfl, hp1, hS, hM, hMn, hG, hk6, ?_⟩
      rw [zfind] at hP
      cases hz : zdir n c S M G k with
      | none =>
        simp only [e_cut, e_iload, e_aload, e_istore, e_astore, e_iinc, e_const, e_lconst, e_bin, e_bin0, e_un, e_ladd, e_dupi, e_dupr, e_dup2, e_pop, e_if, e_icmp, e_sw, e_sw0, e_sw1, e_get, e_put, e_ald, e_ast, e_aald, e_aast, e_copy, e_new, e_newa, e_anewa, e_min, e_abs, e_oinit, e_callI, e_callV, e_callS, e_iret, e_zret, e_lret, e_vret, e_tl1, e_tl0, e_tl2, e_tl3, z10, Bool.false_eq_true, e_argi, e_argr, e_argn, zld_c, zst_n, zst_c, zpick_n, zpick_c, List.drop_succ_cons, List.drop_zero, List.take_succ_cons, List.take_zero, List.length_cons, List.length_nil, List.reverse_cons, List.reverse_nil, List.nil_append, List.cons_append, List.append_nil, List.getElem?_cons_zero, List.getElem?_cons_succ, List.set_cons_zero, List.set_cons_succ, Nat.add_sub_cancel_left, Nat.sub_self, Nat.add_zero, Nat.zero_add, Nat.le_add_right, Nat.le_refl, true_and, and_true, va_rf, zok, Nat.add_left_cancel_iff, Nat.add_eq_left, Nat.left_eq_add, eq_self, if_true, if_false, not_false_eq_true, not_true_eq_false, false_implies, true_implies, Nat.reduceEqDiff, Nat.reduceAdd, Nat.reduceLT, Nat.reduceLeDiff, reduceIte, zrv, B_X5_firstRinger_0, B_X5_firstRinger_3, B_X5_firstRinger_57, nI_1]
        have e : zgo n c S f M G k = false := by simp [zgo, hz]
        rw [e] at hP
        exact ih (k + 1) (by omega) hP
      | some q =>
        have hq := (zdir_lt hz).1
        have hq6 : q < 6 := by omega
        have ed : 5 - f + 1 = 6 - f := by omega
        simp only [e_cut, e_iload, e_aload, e_istore, e_astore, e_iinc, e_const, e_lconst, e_bin, e_bin0, e_un, e_ladd, e_dupi, e_dupr, e_dup2, e_pop, e_if, e_icmp, e_sw, e_sw0, e_sw1, e_get, e_put, e_ald, e_ast, e_aald, e_aast, e_copy, e_new, e_newa, e_anewa, e_min, e_abs, e_oinit, e_callI, e_callV, e_callS, e_iret, e_zret, e_lret, e_vret, e_tl1, e_tl0, e_tl2, e_tl3, z10, Bool.false_eq_true, e_argi, e_argr, e_argn, zld_c, zst_n, zst_c, zpick_n, zpick_c, List.drop_succ_cons, List.drop_zero, List.take_succ_cons, List.take_zero, List.length_cons, List.length_nil, List.reverse_cons, List.reverse_nil, List.nil_append, List.cons_append, List.append_nil, List.getElem?_cons_zero, List.getElem?_cons_succ, List.set_cons_zero, List.set_cons_succ, Nat.add_sub_cancel_left, Nat.sub_self, Nat.add_zero, Nat.zero_add, Nat.le_add_right, Nat.le_refl, true_and, and_true, va_rf, zok, Nat.add_left_cancel_iff, Nat.add_eq_left, Nat.left_eq_add, eq_self, if_true, if_false, not_false_eq_true, not_true_eq_false, false_implies, true_implies, Nat.reduceEqDiff, Nat.reduceAdd, Nat.reduceLT, Nat.reduceLeDiff, reduceIte, zrv, zrv_nn hq6, B_X5_firstRinger_0, B_X5_firstRinger_3, B_X5_firstRinger_57, zclr_i hM hq6, zset_i hG hk6, nI_1, ed]
        refine ⟨n, lo, la, i, c, S, zclr M q, zset G k, f, rfl, hp1, hS, zclr_lt hM, zclr_l2 hMn, zset_lt hG hk6, by omega, by omega, ?_⟩
        have hlt : zrows n c S f (zclr M q) (zset G k) < 2 ^ 31 := zrows_lt hn (by omega)
        simp only [e_cut, e_iload, e_aload, e_istore, e_astore, e_iinc, e_const, e_lconst, e_bin, e_bin0, e_un, e_ladd, e_dupi, e_dupr, e_dup2, e_pop, e_if, e_icmp, e_sw, e_sw0, e_sw1, e_get, e_put, e_ald, e_ast, e_aald, e_aast, e_copy, e_new, e_newa, e_anewa, e_min, e_abs, e_oinit, e_callI, e_callV, e_callS, e_iret, e_zret, e_lret, e_vret, e_tl1, e_tl0, e_tl2, e_tl3, z10, Bool.false_eq_true, e_argi, e_argr, e_argn, zld_c, zst_n, zst_c, zpick_n, zpick_c, List.drop_succ_cons, List.drop_zero, List.take_succ_cons, List.take_zero, List.length_cons, List.length_nil, List.reverse_cons, List.reverse_nil, List.nil_append, List.cons_append, List.append_nil, List.getElem?_cons_zero, List.getElem?_cons_succ, List.set_cons_zero, List.set_cons_succ, Nat.add_sub_cancel_left, Nat.sub_self, Nat.add_zero, Nat.zero_add, Nat.le_add_right, Nat.le_refl, true_and, and_true, va_rf, zok, Nat.add_left_cancel_iff, Nat.add_eq_left, Nat.left_eq_add, eq_self, if_true, if_false, not_false_eq_true, not_true_eq_false, false_implies, true_implies, Nat.reduceEqDiff, Nat.reduceAdd, Nat.reduceLT, Nat.reduceLeDiff, reduceIte, nI_1, B_X5_firstRinger_0, B_X5_firstRinger_3, B_X5_firstRinger_57]
        refine ⟨fun c1 => ?_, fun c1 => ?_⟩
        · have h8 : zrows n c S f (zclr M q) (zset G k) = 0 := by
            rcases Nat.eq_zero_or_pos (zrows n c S f (zclr M q) (zset G k)) with h | h
            · exact h
            · exact absurd c1 (nI_nle h hlt)
          have e : zgo n c S f M G k = false := by simp [zgo, hz, h8]
          rw [e] at hP
          exact ih (k + 1) (by omega) hP
        · have h8 : 0 < zrows n c S f (zclr M q) (zset G k) := by
            rcases Nat.eq_zero_or_pos (zrows n c S f (zclr M q) (zset G k)) with h | h
            · rw [h] at c1; exact absurd (by decide) c1
            · exact h
          have e : zgo n c S f M G k = true := by simp [zgo, hz, h8]
          rw [e] at hP
          exact hP
  simp only [B_X5_firstRinger_0, B_X5_firstRinger_3, B_X5_firstRinger_57, e_cut, e_iload, e_aload, e_istore, e_astore, e_iinc, e_const, e_lconst, e_bin, e_bin0, e_un, e_ladd, e_dupi, e_dupr, e_dup2, e_pop, e_if, e_icmp, e_sw, e_sw0, e_sw1, e_get, e_put, e_ald, e_ast, e_aald, e_aast, e_copy, e_new, e_newa, e_anewa, e_min, e_abs, e_oinit, e_callI, e_callV, e_callS, e_iret, e_zret, e_lret, e_vret, e_tl1, e_tl0, e_tl2, e_tl3, z10, Bool.false_eq_true, e_argi, e_argr, e_argn, zld_c, zst_n, zst_c, zpick_n, zpick_c, List.drop_succ_cons, List.drop_zero, List.take_succ_cons, List.take_zero, List.length_cons, List.length_nil, List.reverse_cons, List.reverse_nil, List.nil_append, List.cons_append, List.append_nil, List.getElem?_cons_zero, List.getElem?_cons_succ, List.set_cons_zero, List.set_cons_succ, Nat.add_sub_cancel_left, Nat.sub_self, Nat.add_zero, Nat.zero_add, Nat.le_add_right, Nat.le_refl, true_and, and_true, va_rf, zok, Nat.add_left_cancel_iff, Nat.add_eq_left, Nat.left_eq_add, eq_self, if_true, if_false, not_false_eq_true, not_true_eq_false, false_implies, true_implies, Nat.reduceEqDiff, Nat.reduceAdd, Nat.reduceLT, Nat.reduceLeDiff, reduceIte]
  exact loop 6 0 rfl hP
set_option maxRecDepth 100000 in
set_option maxHeartbeats 4000000 in
theorem S_X5_firstRinger_57 {p : Program} {e : Env} {s : State} {m : MethodId} {args : Array Value} {below : List Frame} {meth : Method} {c : Code} {D : va_G} {cy : zY} {b n0 : Nat} {P : zPo} (la : Launch) (X : zX p la e (rm_X5_firstRinger) s m args below meth c 7 D cy b n0 cX5_firstRinger wsX5_firstRinger RX5) (hr : meth.sig.returnType = (some .int)) (h_X5_downInRow : zMet la yX5_downInRow wsX5_downInRow rm_X5_downInRow 0 0 sp_X5_downInRow) (h_X5_rowsFrom : zMet la yX5_rowsFrom wsX5_rowsFrom (rm_rec 8) 0 0 (sp_X5_rowsFrom 8)) : zS p la e (rm_X5_firstRinger) s m args below meth c (MQ below (zQ D b (n0 + 0) P) args s 0 0 (fun q => b ≤ q)) 7 D b n0 57 (B_X5_firstRinger_57 b n0 cy P (zAt p la e (rm_X5_firstRinger) s m args below meth c (MQ below (zQ D b (n0 + 0) P) args s 0 0 (fun q => b ≤ q)) 7 D b n0)) := by
  unfold B_X5_firstRinger_57
  exact (s_iinc X dX5_firstRinger_57 (by decide) (by decide) (s_goto X dX5_firstRinger_60 (by decide) (s_cut (by decide) zS_at)))
set_option maxRecDepth 100000 in
set_option maxHeartbeats 4000000 in
theorem S_X5_firstRinger_3 {p : Program} {e : Env} {s : State} {m : MethodId} {args : Array Value} {below : List Frame} {meth : Method} {c : Code} {D : va_G} {cy : zY} {b n0 : Nat} {P : zPo} (la : Launch) (X : zX p la e (rm_X5_firstRinger) s m args below meth c 7 D cy b n0 cX5_firstRinger wsX5_firstRinger RX5) (hr : meth.sig.returnType = (some .int)) (h_X5_downInRow : zMet la yX5_downInRow wsX5_downInRow rm_X5_downInRow 0 0 sp_X5_downInRow) (h_X5_rowsFrom : zMet la yX5_rowsFrom wsX5_rowsFrom (rm_rec 8) 0 0 (sp_X5_rowsFrom 8)) : zS p la e (rm_X5_firstRinger) s m args below meth c (MQ below (zQ D b (n0 + 0) P) args s 0 0 (fun q => b ≤ q)) 7 D b n0 3 (B_X5_firstRinger_3 b n0 cy P (zAt p la e (rm_X5_firstRinger) s m args below meth c (MQ below (zQ D b (n0 + 0) P) args s 0 0 (fun q => b ≤ q)) 7 D b n0)) := by
  unfold B_X5_firstRinger_3
  exact (s_iload X dX5_firstRinger_3 (s_bipush X dX5_firstRinger_5 (by decide) (s_icmp_ge X dX5_firstRinger_7 (by decide) (s_bipush X dX5_firstRinger_63 (by decide) (s_iret X dX5_firstRinger_65 hr)) (s_aload_n X dX5_firstRinger_10 rfl (s_iload_n X dX5_firstRinger_11 rfl (s_iload_n X dX5_firstRinger_12 rfl (s_iload_n X dX5_firstRinger_13 rfl (s_iload X dX5_firstRinger_14 (s_callS X h_X5_downInRow dX5_firstRinger_16 gX5_firstRinger_X5_downInRow rfl rfl rfl (by decide +kernel) ⟨by decide, by decide⟩ (s_istore X dX5_firstRinger_19 (by decide) (s_iload X dX5_firstRinger_21 (s_bipush X dX5_firstRinger_23 (by decide) (s_icmp_eq X dX5_firstRinger_25 (by decide) (S_X5_firstRinger_57 la X hr h_X5_downInRow h_X5_rowsFrom) (s_aload_n X dX5_firstRinger_28 rfl (s_iload_n X dX5_firstRinger_29 rfl (s_iload_n X dX5_firstRinger_30 rfl (s_iconst X dX5_firstRinger_31 (by decide) (s_iload X dX5_firstRinger_32 (s_ishl X dX5_firstRinger_34 (s_iconst X dX5_firstRinger_35 (by decide) (s_ixor X dX5_firstRinger_36 (s_iand X dX5_firstRinger_37 (s_iload_n X dX5_firstRinger_38 rfl (s_iconst X dX5_firstRinger_39 (by decide) (s_iload X dX5_firstRinger_40 (s_ishl X dX5_firstRinger_42 (s_ior X dX5_firstRinger_43 (s_iload X dX5_firstRinger_44 (s_iconst X dX5_firstRinger_46 (by decide) (s_iadd X dX5_firstRinger_47 (s_callS X h_X5_rowsFrom dX5_firstRinger_48 gX5_firstRinger_X5_rowsFrom rfl rfl rfl (by decide +kernel) ⟨by decide, by decide⟩ (s_if_le X dX5_firstRinger_51 (by decide) (S_X5_firstRinger_57 la X hr h_X5_downInRow h_X5_rowsFrom) (s_iload X dX5_firstRinger_54 (s_iret X dX5_firstRinger_56 hr))))))))))))))))))))))))))))))))))
set_option maxRecDepth 100000 in
set_option maxHeartbeats 4000000 in
theorem S_X5_firstRinger_0 {p : Program} {e : Env} {s : State} {m : MethodId} {args : Array Value} {below : List Frame} {meth : Method} {c : Code} {D : va_G} {cy : zY} {b n0 : Nat} {P : zPo} (la : Launch) (X : zX p la e (rm_X5_firstRinger) s m args below meth c 7 D cy b n0 cX5_firstRinger wsX5_firstRinger RX5) (hr : meth.sig.returnType = (some .int)) (h_X5_downInRow : zMet la yX5_downInRow wsX5_downInRow rm_X5_downInRow 0 0 sp_X5_downInRow) (h_X5_rowsFrom : zMet la yX5_rowsFrom wsX5_rowsFrom (rm_rec 8) 0 0 (sp_X5_rowsFrom 8)) : zS p la e (rm_X5_firstRinger) s m args below meth c (MQ below (zQ D b (n0 + 0) P) args s 0 0 (fun q => b ≤ q)) 7 D b n0 0 (B_X5_firstRinger_0 b n0 cy P (zAt p la e (rm_X5_firstRinger) s m args below meth c (MQ below (zQ D b (n0 + 0) P) args s 0 0 (fun q => b ≤ q)) 7 D b n0)) := by
  unfold B_X5_firstRinger_0
  exact (s_iconst X dX5_firstRinger_0 (by decide) (s_istore X dX5_firstRinger_1 (by decide) (s_cut (by decide) zS_at)))
theorem w_X5_firstRinger (la : Launch) (h_X5_downInRow : zMet la yX5_downInRow wsX5_downInRow rm_X5_downInRow 0 0 sp_X5_downInRow) (h_X5_rowsFrom : zMet la yX5_rowsFrom wsX5_rowsFrom (rm_rec 8) 0 0 (sp_X5_rowsFrom 8)) (sp : zSp) (vc : zVC_X5_firstRinger sp) : zMet la yX5_firstRinger wsX5_firstRinger (rm_X5_firstRinger) 0 0 sp :=
  z_of (cc := cX5_firstRinger) (maxL := 7) (ret := (some .int)) (by decide +kernel) rfl (fun p e s m args below meth c D cy b n as E P hsp X hr hin => by
    obtain ⟨h1, h2⟩ := vc b cy n as E P (zAt p la e (rm_X5_firstRinger) s m args below meth c (MQ below (zQ D b (n + 0) P) args s 0 0 (fun q => b ≤ q)) 7 D b n) (fun _ _ _ _ _ q => S_X5_firstRinger_3 la X hr h_X5_downInRow h_X5_rowsFrom _ _ _ _ _ q) hsp
    exact ⟨h1, S_X5_firstRinger_0 la X hr h_X5_downInRow h_X5_rowsFrom _ _ _ _ _ h2⟩)

theorem m_X5_firstRinger (la : Launch) : zMet la yX5_firstRinger wsX5_firstRinger rm_X5_firstRinger 0 0 sp_X5_firstRinger := w_X5_firstRinger la (m_X5_downInRow la) (m_X5_rowsFrom la 8) _ vc_X5_firstRinger
/-- the t-th who rings in the first row, of those of M, f rings at most -/
def zrat (n : Nat) (c : Nat → Nat) (S : Nat) : Nat → Nat → Nat → Nat → Option Nat
  | 0, _, _, _ => none
  | f + 1, M, G, t => match zfind (zgo n c S f M G) 0 n with
    | none => none
    | some r => if t = 0 then some r else (match zdir n c S M G r with | none => none | some q => zrat n c S f (zclr M q) (zset G r) (t - 1))
theorem zfind_some {p : Nat → Bool} {r : Nat} : ∀ {d k : Nat}, zfind p k d = some r → k ≤ r ∧ r < k + d ∧ p r = true ∧ ∀ t, k ≤ t → t < r → p t = false := by
  intro d
  induction d with
  | zero => intro k h; cases h
  | succ d ih =>
    intro k h
    rw [zfind] at h
    by_cases e : p k = true
    · rw [if_pos e] at h; cases h; exact ⟨Nat.le_refl _, by omega, e, fun t h1 h2 => by omega⟩
    · rw [if_neg e] at h
      obtain ⟨h1, h2, h3, h4⟩ := ih h
      refine ⟨by omega, by omega, h3, fun t g1 g2 => ?_⟩
      by_cases e2 : t = k
      · rw [e2]; simpa using e
      · exact h4 t (by omega) g2
def sp_X5_ringerAt : zSp := fun b cy as N E P => ∃ (n : Nat) (lo la : Nat → Nat) (i : Nat) (c : Nat → Nat) (S t : Nat), as = [.ref (b + i), .int (nI S), .int (nI t)] ∧ zP1 b cy N E n lo la i c ∧ S < 64 ∧ t < 6 ∧ P (some (.int (zrv (zrat n c S 6 (c 1) 0 t)))) E
abbrev rm_X5_ringerAt : Room := { frames := 15, cells := 0, slots := 0, locals := 526 }
def B_X5_ringerAt_43 (b n0 : Nat) (cy : zY) (P : zPo) (A : Nat → zC) : zC :=
  z_iload 6 (z_iret 0 0 P)
def B_X5_ringerAt_11 (b n0 : Nat) (cy : zY) (P : zPo) (A : Nat → zC) : zC :=
  z_iload 5 (z_const (6) (z_icmp (fun x y => y ≤ x) (z_const (-9) (z_iret 0 0 P)) (z_aload 0 (z_iload 1 (z_iload 3 (z_iload 4 (z_iload 5 (z_callS b n0 0 0 cy 5 0 0 sp_X5_firstRinger (z_istore 6 (z_iload 6 (z_const (-9) (z_icmp (fun x y => x = y) (B_X5_ringerAt_43 b n0 cy P A) (z_iload 5 (z_iload 2 (z_icmp (fun x y => x = y) (B_X5_ringerAt_43 b n0 cy P A) (z_iload 3 (z_const (1) (z_aload 0 (z_iload 1 (z_iload 3 (z_iload 4 (z_iload 6 (z_callS b n0 0 0 cy 5 0 0 sp_X5_downInRow (z_bin (fun x y => x <<< (y &&& 31)) (z_const (-1) (z_bin (fun x y => x ^^^ y) (z_bin (fun x y => x &&& y) (z_istore 3 (z_iload 4 (z_const (1) (z_iload 6 (z_bin (fun x y => x <<< (y &&& 31)) (z_bin (fun x y => x ||| y) (z_istore 4 (z_iinc 5 (1) (z_cut [0, 1, 2, 3, 4, 5] (A 11)))))))))))))))))))))))))))))))))))))
def B_X5_ringerAt_0 (b n0 : Nat) (cy : zY) (P : zPo) (A : Nat → zC) : zC :=
  z_aload 0 (z_get b n0 1 1 (z_istore 3 (z_const (0) (z_istore 4 (z_const (0) (z_istore 5 (z_cut [0, 1, 2, 3, 4, 5] (A 11))))))))
def zVC_X5_ringerAt (sp : zSp) : Prop := ∀ (b : Nat) (cy : zY) (n : Nat) (as : List Value) (E : zE) (P : zPo) (A : Nat → zC), (∀ l st k u E, B_X5_ringerAt_11 b n cy P A l st k u E → A 11 l st k u E) → sp b cy as n E P → zgood as 7 ∧ B_X5_ringerAt_0 b n cy P A (lv_args 0 as) [] 0 0 E

set_option maxRecDepth 100000 in
set_option maxHeartbeats 4000000 in
theorem vc_X5_ringerAt : zVC_X5_ringerAt sp_X5_ringerAt := by
  intro b cy N as E P A hA hsp
  obtain ⟨n, lo, la, i, c, S, t, rfl, hp1, hS, ht, hP⟩ := hsp
  refine ⟨⟨Nat.le_of_ble_eq_true rfl, zg1 rfl (zg1 rfl (zg1 rfl (zg0)))⟩, ?_⟩
  obtain ⟨⟨⟨kept, cnt, tr, e0⟩, ⟨seat, line, items, ⟨hn, tf, tg, th, h0, h1, h2, h3, htf, htg, hth⟩⟩, hlo⟩, hmo, hok, hi, hN⟩ := id hp1
  have N0 : 0 < N := by omega
  have hi0 : i < N := by omega
  have k6 : (6 : Int32) = nI 6 := rfl
  have loop : ∀ (f M G u : Nat) (hf : f ≤ 6) (hM : M < 64) (hMn : M < 2 ^ n) (hG : G < 64) (hu : 6 - f + u = t), P (some (.int (zrv (zrat n c S f M G u)))) E → A 11 [(0, .ref (b + i)), (1, .int (nI S)), (2, .int (nI t)), (3, .int (nI M)), (4, .int (nI G)), (5, .int (nI (6 - f)))] [] 0 0 E := by
    intro f
    induction f with
    | zero => intro M G u hf hM hMn hG hu _; omega
    | succ f ih =>
      intro M G u hf hM hMn hG hu hP
      apply hA
      have cle : ¬ nI 6 ≤ nI (6 - (f + 1)) := nI_ge (by omega) (by omega)
      have ed : 6 - (f + 1) = 5 - f := by omega
      simp only [B_X5_ringerAt_0, B_X5_ringerAt_11, B_X5_ringerAt_43, e_cut, e_iload, e_aload, e_istore, e_astore, e_iinc, e_const, e_lconst, e_bin, e_bin0, e_un, e_ladd, e_dupi, e_dupr, e_dup2, e_pop, e_if, e_icmp, e_sw, e_sw0, e_sw1, e_get, e_put, e_ald, e_ast, e_aald, e_aast, e_copy, e_new, e_newa, e_anewa, e_min, e_abs, e_oinit, e_callI, e_callV, e_callS, e_iret, e_zret, e_lret, e_vret, e_tl1, e_tl0, e_tl2, e_tl3, z10, Bool.false_eq_true, e_argi, e_argr, e_argn, zld_c, zst_n, zst_c, zpick_n, zpick_c, List.drop_succ_cons, List.drop_zero, List.take_succ_cons, List.take_zero, List.length_cons, List.length_nil, List.reverse_cons, List.reverse_nil, List.nil_append, List.cons_append, List.append_nil, List.getElem?_cons_zero, List.getElem?_cons_succ, List.set_cons_zero, List.set_cons_succ, Nat.add_sub_cancel_left, Nat.sub_self, Nat.add_zero, Nat.zero_add, Nat.le_add_right, Nat.le_refl, true_and, and_true, va_rf, zok, Nat.add_left_cancel_iff, Nat.add_eq_left, Nat.left_eq_add, eq_self, if_true, if_false, not_false_eq_true, not_true_eq_false, false_implies, true_implies, Nat.reduceEqDiff, Nat.reduceAdd, Nat.reduceLT, Nat.reduceLeDiff, reduceIte, zB0, e0, N0, k6, cle]
      rw [ed]
      refine ⟨n, lo, la, i, c, S, M, G, f, rfl, hp1, hS, hM, hMn, hG, by omega, ?_⟩
      rw [zrat] at hP
      cases hz : zfind (zgo n c S f M G) 0 n with
      | none =>
        rw [hz] at hP
        simp only [e_cut, e_iload, e_aload, e_istore, e_astore, e_iinc, e_const, e_lconst, e_bin, e_bin0, e_un, e_ladd, e_dupi, e_dupr, e_dup2, e_pop, e_if, e_icmp, e_sw, e_sw0, e_sw1, e_get, e_put, e_ald, e_ast, e_aald, e_aast, e_copy, e_new, e_newa, e_anewa, e_min, e_abs, e_oinit, e_callI, e_callV, e_callS, e_iret, e_zret, e_lret, e_vret, e_tl1, e_tl0, e_tl2, e_tl3, z10, Bool.false_eq_true, e_argi, e_argr, e_argn, zld_c, zst_n, zst_c, zpick_n, zpick_c, List.drop_succ_cons, List.drop_zero, List.take_succ_cons, List.take_zero, List.length_cons, List.length_nil, List.reverse_cons, List.reverse_nil, List.nil_append, List.cons_append, List.append_nil, List.getElem?_cons_zero, List.getElem?_cons_succ, List.set_cons_zero, List.set_cons_succ, Nat.add_sub_cancel_left, Nat.sub_self, Nat.add_zero, Nat.zero_add, Nat.le_add_right, Nat.le_refl, true_and, and_true, va_rf, zok, Nat.add_left_cancel_iff, Nat.add_eq_left, Nat.left_eq_add, eq_self, if_true, if_false, not_false_eq_true, not_true_eq_false, false_implies, true_implies, Nat.reduceEqDiff, Nat.reduceAdd, Nat.reduceLT, Nat.reduceLeDiff, reduceIte, zrv, B_X5_ringerAt_0, B_X5_ringerAt_11, B_X5_ringerAt_43]
        exact hP
      | some r =>
        rw [hz] at hP
        obtain ⟨_, hrn, hgo, _⟩ := zfind_some hz
        have hr6 : r < 6 := by omega
        simp only [e_cut, e_iload, e_aload, e_istore, e_astore, e_iinc, e_const, e_lconst, e_bin, e_bin0, e_un, e_ladd, e_dupi, e_dupr, e_dup2, e_pop, e_if, e_icmp, e_sw, e_sw0, e_sw1, e_get, e_put, e_ald, e_ast, e_aald, e_aast, e_copy, e_new, e_newa, e_anewa, e_min, e_abs, e_oinit, e_callI, e_callV, e_callS, e_iret, e_zret, e_lret, e_vret, e_tl1, e_tl0, e_tl2, e_tl3, z10, Bool.false_eq_true, e_argi, e_argr, e_argn, zld_c, zst_n, zst_c, zpick_n, zpick_c, List.drop_succ_cons, List.drop_zero, List.take_succ_cons, List.take_zero, List.length_cons, List.length_nil, List.reverse_cons, List.reverse_nil, List.nil_append, List.cons_append, List.append_nil, List.getElem?_cons_zero, List.getElem?_cons_succ, List.set_cons_zero, List.set_cons_succ, Nat.add_sub_cancel_left, Nat.sub_self, Nat.add_zero, Nat.zero_add, Nat.le_add_right, Nat.le_refl, true_and, and_true, va_rf, zok, Nat.add_left_cancel_iff, Nat.add_eq_left, Nat.left_eq_add, eq_self, if_true, if_false, not_false_eq_true, not_true_eq_false, false_implies, true_implies, Nat.reduceEqDiff, Nat.reduceAdd, Nat.reduceLT, Nat.reduceLeDiff, reduceIte, zrv, zrv_nn hr6, B_X5_ringerAt_0, B_X5_ringerAt_11, B_X5_ringerAt_43, nI_eq (show 5 - f < 2 ^ 31 by omega) (show t < 2 ^ 31 by omega)]
        refine ⟨fun c1 => ?_, fun c1 => ?_⟩
        · have : u = 0 := by omega
          rw [this] at hP
          exact hP
        · have hu0 : u ≠ 0 := by omega
          simp only [hu0, if_false] at hP
          cases hd : zdir n c S M G r with
          | none => unfold zgo at hgo; rw [hd] at hgo; cases hgo
          | some q =>
            rw [hd] at hP
            have hq := (zdir_lt hd).1
            have hq6 : q < 6 := by omega
            refine ⟨n, lo, la, i, c, S, M, G, r, rfl, hp1, hS, hM, hMn, hG, hr6, ?_⟩
            have ed2 : 5 - f + 1 = 6 - f := by omega
            simp only [e_cut, e_iload, e_aload, e_istore, e_astore, e_iinc, e_const, e_lconst, e_bin, e_bin0, e_un, e_ladd, e_dupi, e_dupr, e_dup2, e_pop, e_if, e_icmp, e_sw, e_sw0, e_sw1, e_get, e_put, e_ald, e_ast, e_aald, e_aast, e_copy, e_new, e_newa, e_anewa, e_min, e_abs, e_oinit, e_callI, e_callV, e_callS, e_iret, e_zret, e_lret, e_vret, e_tl1, e_tl0, e_tl2, e_tl3, z10, Bool.false_eq_true, e_argi, e_argr, e_argn, zld_c, zst_n, zst_c, zpick_n, zpick_c, List.drop_succ_cons, List.drop_zero, List.take_succ_cons, List.take_zero, List.length_cons, List.length_nil, List.reverse_cons, List.reverse_nil, List.nil_append, List.cons_append, List.append_nil, List.getElem?_cons_zero, List.getElem?_cons_succ, List.set_cons_zero, List.set_cons_succ, Nat.add_sub_cancel_left, Nat.sub_self, Nat.add_zero, Nat.zero_add, Nat.le_add_right, Nat.le_refl, true_and, and_true, va_rf, zok, Nat.add_left_cancel_iff, Nat.add_eq_left, Nat.left_eq_add, eq_self, if_true, if_false, not_false_eq_true, not_true_eq_false, false_implies, true_implies, Nat.reduceEqDiff, Nat.reduceAdd, Nat.reduceLT, Nat.reduceLeDiff, reduceIte, hd, zrv, zclr_i hM hq6, zset_i hG hr6, nI_1, ed2]
            cases f with
            | zero => omega
            | succ f => exact ih (zclr M q) (zset G r) (u - 1) (by omega) (zclr_lt hM) (zclr_l2 hMn) (zset_lt hG hr6) (by omega) hP
  obtain ⟨hn1, mf, mg, mh, m0, m1, m2, m3, hmf, hmg, hmh⟩ := id hmo
  simp only [B_X5_ringerAt_0, B_X5_ringerAt_11, B_X5_ringerAt_43, e_cut, e_iload, e_aload, e_istore, e_astore, e_iinc, e_const, e_lconst, e_bin, e_bin0, e_un, e_ladd, e_dupi, e_dupr, e_dup2, e_pop, e_if, e_icmp, e_sw, e_sw0, e_sw1, e_get, e_put, e_ald, e_ast, e_aald, e_aast, e_copy, e_new, e_newa, e_anewa, e_min, e_abs, e_oinit, e_callI, e_callV, e_callS, e_iret, e_zret, e_lret, e_vret, e_tl1, e_tl0, e_tl2, e_tl3, z10, Bool.false_eq_true, e_argi, e_argr, e_argn, zld_c, zst_n, zst_c, zpick_n, zpick_c, List.drop_succ_cons, List.drop_zero, List.take_succ_cons, List.take_zero, List.length_cons, List.length_nil, List.reverse_cons, List.reverse_nil, List.nil_append, List.cons_append, List.append_nil, List.getElem?_cons_zero, List.getElem?_cons_succ, List.set_cons_zero, List.set_cons_succ, Nat.add_sub_cancel_left, Nat.sub_self, Nat.add_zero, Nat.zero_add, Nat.le_add_right, Nat.le_refl, true_and, and_true, va_rf, zok, Nat.add_left_cancel_iff, Nat.add_eq_left, Nat.left_eq_add, eq_self, if_true, if_false, not_false_eq_true, not_true_eq_false, false_implies, true_implies, Nat.reduceEqDiff, Nat.reduceAdd, Nat.reduceLT, Nat.reduceLeDiff, reduceIte, m0, hi0]
  exact loop 6 (c 1) 0 t (Nat.le_refl _) hok.l64 hok.2.1 (by omega) (by omega) hP
set_option maxRecDepth 20000 in
theorem f_X5_ringerAt_98 : Cond.fieldLink RX5 98 (TX1 1).1 (TX1 1).2.1 (TX1 1).2.2.1 ∈ wsX5_ringerAt := by decide +kernel
set_option maxRecDepth 20000 in
theorem k_X5_ringerAt_1 : ∀ w ∈ u_ws RX1 TX1 7, w ∈ wsX5_ringerAt := fun _ h => List.mem_cons_of_mem _ (List.mem_append_right _ h)
set_option maxRecDepth 100000 in
set_option maxHeartbeats 4000000 in
theorem S_X5_ringerAt_43 {p : Program} {e : Env} {s : State} {m : MethodId} {args : Array Value} {below : List Frame} {meth : Method} {c : Code} {D : va_G} {cy : zY} {b n0 : Nat} {P : zPo} (la : Launch) (X : zX p la e (rm_X5_ringerAt) s m args below meth c 7 D cy b n0 cX5_ringerAt wsX5_ringerAt RX5) (hr : meth.sig.returnType = (some .int)) (h_X5_downInRow : zMet la yX5_downInRow wsX5_downInRow rm_X5_downInRow 0 0 sp_X5_downInRow) (h_X5_firstRinger : zMet la yX5_firstRinger wsX5_firstRinger rm_X5_firstRinger 0 0 sp_X5_firstRinger) : zS p la e (rm_X5_ringerAt) s m args below meth c (MQ below (zQ D b (n0 + 0) P) args s 0 0 (fun q => b ≤ q)) 7 D b n0 43 (B_X5_ringerAt_43 b n0 cy P (zAt p la e (rm_X5_ringerAt) s m args below meth c (MQ below (zQ D b (n0 + 0) P) args s 0 0 (fun q => b ≤ q)) 7 D b n0)) := by
  unfold B_X5_ringerAt_43
  exact (s_iload X dX5_ringerAt_43 (s_iret X dX5_ringerAt_45 hr))
set_option maxRecDepth 100000 in
set_option maxHeartbeats 4000000 in
theorem S_X5_ringerAt_11 {p : Program} {e : Env} {s : State} {m : MethodId} {args : Array Value} {below : List Frame} {meth : Method} {c : Code} {D : va_G} {cy : zY} {b n0 : Nat} {P : zPo} (la : Launch) (X : zX p la e (rm_X5_ringerAt) s m args below meth c 7 D cy b n0 cX5_ringerAt wsX5_ringerAt RX5) (hr : meth.sig.returnType = (some .int)) (h_X5_downInRow : zMet la yX5_downInRow wsX5_downInRow rm_X5_downInRow 0 0 sp_X5_downInRow) (h_X5_firstRinger : zMet la yX5_firstRinger wsX5_firstRinger rm_X5_firstRinger 0 0 sp_X5_firstRinger) : zS p la e (rm_X5_ringerAt) s m args below meth c (MQ below (zQ D b (n0 + 0) P) args s 0 0 (fun q => b ≤ q)) 7 D b n0 11 (B_X5_ringerAt_11 b n0 cy P (zAt p la e (rm_X5_ringerAt) s m args below meth c (MQ below (zQ D b (n0 + 0) P) args s 0 0 (fun q => b ≤ q)) 7 D b n0)) := by
  unfold B_X5_ringerAt_11
  exact (s_iload X dX5_ringerAt_11 (s_bipush X dX5_ringerAt_13 (by decide) (s_icmp_ge X dX5_ringerAt_15 (by decide) (s_bipush X dX5_ringerAt_78 (by decide) (s_iret X dX5_ringerAt_80 hr)) (s_aload_n X dX5_ringerAt_18 rfl (s_iload_n X dX5_ringerAt_19 rfl (s_iload_n X dX5_ringerAt_20 rfl (s_iload X dX5_ringerAt_21 (s_iload X dX5_ringerAt_23 (s_callS X h_X5_firstRinger dX5_ringerAt_25 gX5_ringerAt_X5_firstRinger rfl rfl rfl (by decide +kernel) ⟨by decide, by decide⟩ (s_istore X dX5_ringerAt_28 (by decide) (s_iload X dX5_ringerAt_30 (s_bipush X dX5_ringerAt_32 (by decide) (s_icmp_eq X dX5_ringerAt_34 (by decide) (S_X5_ringerAt_43 la X hr h_X5_downInRow h_X5_firstRinger) (s_iload X dX5_ringerAt_37 (s_iload_n X dX5_ringerAt_39 rfl (s_icmp_ne X dX5_ringerAt_40 (by decide) (s_iload_n X dX5_ringerAt_46 rfl (s_iconst X dX5_ringerAt_47 (by decide) (s_aload_n X dX5_ringerAt_48 rfl (s_iload_n X dX5_ringerAt_49 rfl (s_iload_n X dX5_ringerAt_50 rfl (s_iload X dX5_ringerAt_51 (s_iload X dX5_ringerAt_53 (s_callS X h_X5_downInRow dX5_ringerAt_55 gX5_ringerAt_X5_downInRow rfl rfl rfl (by decide +kernel) ⟨by decide, by decide⟩ (s_ishl X dX5_ringerAt_58 (s_iconst X dX5_ringerAt_59 (by decide) (s_ixor X dX5_ringerAt_60 (s_iand X dX5_ringerAt_61 (s_istore_n X dX5_ringerAt_62 rfl (by decide) (s_iload X dX5_ringerAt_63 (s_iconst X dX5_ringerAt_65 (by decide) (s_iload X dX5_ringerAt_66 (s_ishl X dX5_ringerAt_68 (s_ior X dX5_ringerAt_69 (s_istore X dX5_ringerAt_70 (by decide) (s_iinc X dX5_ringerAt_72 (by decide) (by decide) (s_goto X dX5_ringerAt_75 (by decide) (s_cut (by decide) zS_at)))))))))))))))))))))) (S_X5_ringerAt_43 la X hr h_X5_downInRow h_X5_firstRinger)))))))))))))))))
set_option maxRecDepth 100000 in
set_option maxHeartbeats 4000000 in
theorem S_X5_ringerAt_0 {p : Program} {e : Env} {s : State} {m : MethodId} {args : Array Value} {below : List Frame} {meth : Method} {c : Code} {D : va_G} {cy : zY} {b n0 : Nat} {P : zPo} (la : Launch) (X : zX p la e (rm_X5_ringerAt) s m args below meth c 7 D cy b n0 cX5_ringerAt wsX5_ringerAt RX5) (hr : meth.sig.returnType = (some .int)) (h_X5_downInRow : zMet la yX5_downInRow wsX5_downInRow rm_X5_downInRow 0 0 sp_X5_downInRow) (h_X5_firstRinger : zMet la yX5_firstRinger wsX5_firstRinger rm_X5_firstRinger 0 0 sp_X5_firstRinger) : zS p la e (rm_X5_ringerAt) s m args below meth c (MQ below (zQ D b (n0 + 0) P) args s 0 0 (fun q => b ≤ q)) 7 D b n0 0 (B_X5_ringerAt_0 b n0 cy P (zAt p la e (rm_X5_ringerAt) s m args below meth c (MQ below (zQ D b (n0 + 0) P) args s 0 0 (fun q => b ≤ q)) 7 D b n0)) := by
  unfold B_X5_ringerAt_0
  exact (s_aload_n X dX5_ringerAt_0 rfl (s_get X dX5_ringerAt_1 rfl k_X5_ringerAt_1 (by decide) f_X5_ringerAt_98 (s_istore_n X dX5_ringerAt_4 rfl (by decide) (s_iconst X dX5_ringerAt_5 (by decide) (s_istore X dX5_ringerAt_6 (by decide) (s_iconst X dX5_ringerAt_8 (by decide) (s_istore X dX5_ringerAt_9 (by decide) (s_cut (by decide) zS_at))))))))
theorem w_X5_ringerAt (la : Launch) (h_X5_downInRow : zMet la yX5_downInRow wsX5_downInRow rm_X5_downInRow 0 0 sp_X5_downInRow) (h_X5_firstRinger : zMet la yX5_firstRinger wsX5_firstRinger rm_X5_firstRinger 0 0 sp_X5_firstRinger) (sp : zSp) (vc : zVC_X5_ringerAt sp) : zMet la yX5_ringerAt wsX5_ringerAt (rm_X5_ringerAt) 0 0 sp :=
  z_of (cc := cX5_ringerAt) (maxL := 7) (ret := (some .int)) (by decide +kernel) rfl (fun p e s m args below meth c D cy b n as E P hsp X hr hin => by
    obtain ⟨h1, h2⟩ := vc b cy n as E P (zAt p la e (rm_X5_ringerAt) s m args below meth c (MQ below (zQ D b (n + 0) P) args s 0 0 (fun q => b ≤ q)) 7 D b n) (fun _ _ _ _ _ q => S_X5_ringerAt_11 la X hr h_X5_downInRow h_X5_firstRinger _ _ _ _ _ q) hsp
    exact ⟨h1, S_X5_ringerAt_0 la X hr h_X5_downInRow h_X5_firstRinger _ _ _ _ _ h2⟩)

theorem m_X5_ringerAt (la : Launch) : zMet la yX5_ringerAt wsX5_ringerAt rm_X5_ringerAt 0 0 sp_X5_ringerAt := w_X5_ringerAt la (m_X5_downInRow la) (m_X5_firstRinger la) _ vc_X5_ringerAt

