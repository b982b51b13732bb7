/-- the draft holds d, behind what D tells -/
def zDt (cy : zY) (E : zE) (D : zD) (d : zTd) : Prop :=
  (∃ f : Nat → Int32, E 161 = .inl (cy 1, 2, .inl f) ∧ f 0 = nI D.1 ∧ f 1 = nI d.1)
  ∧ (∃ f : Nat → Int32, E 162 = .inl (cy 1, 6, .inl f) ∧ ∀ j, j < d.1 → f j = nI (d.2.1 j))
  ∧ (∃ f : Nat → Int32, E 163 = .inl (cy 1, 12, .inl f) ∧ (∀ j, j < D.1 → f j = nI (D.2.1 j)) ∧ ∀ j, j < d.1 → f (6 + j) = nI (d.2.2.1 j))
  ∧ (∃ f : Nat → Int32, E 164 = .inl (cy 1, 12, .inl f) ∧ (∀ j, j < D.1 → f j = nI (D.2.2.1 j)) ∧ ∀ j, j < d.1 → f (6 + j) = nI (d.2.2.2.1 j))
  ∧ (∃ f : Nat → Int32, E 165 = .inl (cy 1, 2, .inl f) ∧ f 0 = nI D.2.2.2 ∧ f 1 = nI d.2.2.2.2.1)
def zDg (cy : zY) (E : zE) (D : zD) : Prop :=
  (∃ f : Nat → Int32, E 161 = .inl (cy 1, 2, .inl f) ∧ f 0 = nI D.1)
  ∧ (∃ f : Nat → Int32, E 162 = .inl (cy 1, 6, .inl f))
  ∧ (∃ f : Nat → Int32, E 163 = .inl (cy 1, 12, .inl f) ∧ ∀ j, j < D.1 → f j = nI (D.2.1 j))
  ∧ (∃ f : Nat → Int32, E 164 = .inl (cy 1, 12, .inl f) ∧ ∀ j, j < D.1 → f j = nI (D.2.2.1 j))
  ∧ (∃ f : Nat → Int32, E 165 = .inl (cy 1, 2, .inl f) ∧ f 0 = nI D.2.2.2)
theorem zDt.g {cy : zY} {E : zE} {D : zD} {d : zTd} (h : zDt cy E D d) : zDg cy E D := by
  obtain ⟨⟨f1, a1, b1, _⟩, ⟨f2, a2, _⟩, ⟨f3, a3, b3, _⟩, ⟨f4, a4, b4, _⟩, ⟨f5, a5, b5, _⟩⟩ := h
  exact ⟨⟨f1, a1, b1⟩, ⟨f2, a2⟩, ⟨f3, a3, b3⟩, ⟨f4, a4, b4⟩, ⟨f5, a5, b5⟩⟩
theorem zDt.congr {cy : zY} {E E' : zE} {D : zD} {d : zTd} (h : zDt cy E D d) (hE : ∀ j, 161 ≤ j → j ≤ 165 → E' j = E j) : zDt cy E' D d := by
  unfold zDt at *
  rw [hE 161 (by omega) (by omega), hE 162 (by omega) (by omega), hE 163 (by omega) (by omega), hE 164 (by omega) (by omega), hE 165 (by omega) (by omega)]
  exact h
theorem zDg.congr {cy : zY} {E E' : zE} {D : zD} (h : zDg cy E D) (hE : ∀ j, 161 ≤ j → j ≤ 165 → E' j = E j) : zDg cy E' D := by
  unfold zDg at *
  rw [hE 161 (by omega) (by omega), hE 162 (by omega) (by omega), hE 163 (by omega) (by omega), hE 164 (by omega) (by omega), hE 165 (by omega) (by omega)]
  exact h
def zri (len : Nat) (tx : Nat → Nat) (k1 : zTk) : Nat ⊕ (zTk × Nat × Nat × Nat) :=
  let k2 := ztk len tx k1.1; let k3 := ztk len tx k2.1
  if znum 0 9 k1 = true then (if znum 0 9 k2 = true then (if znum 0 2 k3 = true then .inr (k3, k1.2.2.2, k2.2.2.2, k3.2.2.2) else .inl k3.2.2.1) else .inl k2.2.2.1) else .inl k1.2.2.1
theorem zrid_zri {len : Nat} {tx : Nat → Nat} {k : zTk} : zrid len tx k = zri len tx (ztk len tx k.1) := rfl
def sp_X6_plain : zSp := fun b cy as N E P => ∃ (tr : Int64) (ty lt q st so va fa se : Int32) (D : zD), as = [.ref (b + 159)] ∧ E 159 = zM0 b tr ty lt q st so va fa se ∧ zDg cy E D ∧ 166 ≤ N ∧ (∀ E', E' 159 = zM0 b tr ty 0 q st so va fa se → (∀ s l a i, zDt cy E' D (0, s, l, a, 9, false, i)) → (∀ j, j ≠ 159 → j ≠ 161 → j ≠ 165 → E' j = E j) → P none E')
abbrev rm_X6_plain : Room := { frames := 1, cells := 0, slots := 0, locals := 40 }
def B_X6_plain_0 (b n0 : Nat) (cy : zY) (P : zPo) (A : Nat → zC) : zC :=
  z_aload 0 (z_get b n0 6 3 (z_const (1) (z_const (0) (z_ast b n0 (cy 1) (fun x => x) (z_aload 0 (z_get b n0 6 7 (z_const (1) (z_const (9) (z_ast b n0 (cy 1) (fun x => x) (z_aload 0 (z_const (0) (z_put b n0 6 8 3 (z_vret 0 0 P)))))))))))))
def zVC_X6_plain (sp : zSp) : Prop := ∀ (b : Nat) (cy : zY) (n : Nat) (as : List Value) (E : zE) (P : zPo) (A : Nat → zC), sp b cy as n E P → zgood as 1 ∧ B_X6_plain_0 b n cy P A (lv_args 0 as) [] 0 0 E

set_option maxRecDepth 100000 in
set_option maxHeartbeats 4000000 in
theorem vc_X6_plain : zVC_X6_plain sp_X6_plain := by
  intro b cy N as E P A hsp
  obtain ⟨tr, ty, lt, q, st, so, va, fa, se, D, rfl, e0, ⟨⟨f1, a1, b1⟩, ⟨f2, a2⟩, ⟨f3, a3, b3⟩, ⟨f4, a4, b4⟩, ⟨f5, a5, b5⟩⟩, hN, hP⟩ := hsp
  refine ⟨⟨Nat.le_of_ble_eq_true rfl, zg1 rfl (zg0)⟩, ?_⟩
  have N0 : 159 < N := by omega
  have N1 : 161 < N := by omega
  have N5 : 165 < N := by omega
  have in1 : vp_in 1 2 := (vp_in_nI (show 1 < 2 by omega) (by omega) : vp_in (nI 1) 2)
  have cl1 : (1 : Int32).toNatClampNeg = 1 := by decide
  simp -implicitDefEqProofs only [B_X6_plain_0, e_cut, e_iload, e_aload, e_istore, e_astore, e_iinc, e_const, e_lconst, e_bin, e_bin0, e_un, e_ladd, e_dupi, e_dupr, e_dup2, e_pop, e_if, e_icmp, e_sw, e_sw0, e_sw1, e_get, e_put, e_ald, e_ast, e_aald, e_aast, e_copy, e_new, e_newa, e_anewa, e_min, e_abs, e_oinit, e_callI, e_callV, e_callS, e_iret, e_zret, e_lret, e_vret, e_tl1, e_tl0, e_tl2, e_tl3, z10, Bool.false_eq_true, e_argi, e_argr, e_argn, zld_c, zst_n, zst_c, zpick_n, zpick_c, List.drop_succ_cons, List.drop_zero, List.take_succ_cons, List.take_zero, List.length_cons, List.length_nil, List.reverse_cons, List.reverse_nil, List.nil_append, List.cons_append, List.append_nil, List.getElem?_cons_zero, List.getElem?_cons_succ, List.set_cons_zero, List.set_cons_succ, Nat.add_sub_cancel_left, Nat.sub_self, Nat.add_zero, Nat.zero_add, Nat.le_add_right, Nat.le_refl, true_and, and_true, va_rf, zok, Nat.add_left_cancel_iff, Nat.add_eq_left, Nat.left_eq_add, eq_self, if_true, if_false, not_false_eq_true, not_true_eq_false, false_implies, true_implies, Nat.reduceEqDiff, Nat.reduceAdd, Nat.reduceLT, Nat.reduceLeDiff, reduceIte, zM0, e0, a1, a5, N0, N1, N5, in1, cl1, e_up]
  refine ⟨Or.inl trivial, hP _ u_eq (fun s l a i => ⟨⟨upd f1 1 0, (u_ne (by omega)).trans ((u_ne (by omega)).trans u_eq), ?_, ?_⟩, ⟨f2, (u_ne (by omega)).trans ((u_ne (by omega)).trans ((u_ne (by omega)).trans a2)), fun j hj => absurd hj (Nat.not_lt_zero _)⟩, ⟨f3, (u_ne (by omega)).trans ((u_ne (by omega)).trans ((u_ne (by omega)).trans a3)), b3, fun j hj => absurd hj (Nat.not_lt_zero _)⟩, ⟨f4, (u_ne (by omega)).trans ((u_ne (by omega)).trans ((u_ne (by omega)).trans a4)), b4, fun j hj => absurd hj (Nat.not_lt_zero _)⟩, ⟨upd f5 1 9, (u_ne (by omega)).trans u_eq, ?_, ?_⟩⟩) (fun j h1 h2 h3 => (u_ne h1).trans ((u_ne h3).trans (u_ne h2)))⟩
  · show f1 0 = _
    exact b1
  · rfl
  · show f5 0 = _
    exact b5
  · rfl
set_option maxRecDepth 20000 in
theorem f_X6_plain_13 : Cond.fieldLink RX6 13 (TX6 3).1 (TX6 3).2.1 (TX6 3).2.2.1 ∈ wsX6_plain := by decide +kernel
set_option maxRecDepth 20000 in
theorem k_X6_plain_6 : ∀ w ∈ u_ws RX6 TX6 21, w ∈ wsX6_plain := fun _ h => List.mem_cons_of_mem _ (List.mem_append_right _ h)
set_option maxRecDepth 20000 in
theorem f_X6_plain_26 : Cond.fieldLink RX6 26 (TX6 7).1 (TX6 7).2.1 (TX6 7).2.2.1 ∈ wsX6_plain := by decide +kernel
set_option maxRecDepth 20000 in
theorem f_X6_plain_88 : Cond.fieldLink RX6 88 (TX6 8).1 (TX6 8).2.1 (TX6 8).2.2.1 ∈ wsX6_plain := by decide +kernel
set_option maxRecDepth 100000 in
set_option maxHeartbeats 4000000 in
theorem S_X6_plain_0 {p : Program} {e : Env} {s : State} {m : MethodId} {args : Array Value} {below : List Frame} {meth : Method} {c : Code} {D : va_G} {cy : zY} {b n0 : Nat} {P : zPo} (la : Launch) (X : zX p la e (rm_X6_plain) s m args below meth c 1 D cy b n0 cX6_plain wsX6_plain RX6) (hr : meth.sig.returnType = none) : zS p la e (rm_X6_plain) s m args below meth c (MQ below (zQ D b (n0 + 0) P) args s 0 0 (fun q => b ≤ q)) 1 D b n0 0 (B_X6_plain_0 b n0 cy P (zAt p la e (rm_X6_plain) s m args below meth c (MQ below (zQ D b (n0 + 0) P) args s 0 0 (fun q => b ≤ q)) 1 D b n0)) := by
  unfold B_X6_plain_0
  exact (s_aload_n X dX6_plain_0 rfl (s_get X dX6_plain_1 rfl k_X6_plain_6 (by decide) f_X6_plain_13 (s_iconst X dX6_plain_4 (by decide) (s_iconst X dX6_plain_5 (by decide) (s_iast X dX6_plain_6 (s_aload_n X dX6_plain_7 rfl (s_get X dX6_plain_8 rfl k_X6_plain_6 (by decide) f_X6_plain_26 (s_iconst X dX6_plain_11 (by decide) (s_bipush X dX6_plain_12 (by decide) (s_iast X dX6_plain_14 (s_aload_n X dX6_plain_15 rfl (s_iconst X dX6_plain_16 (by decide) (s_put X dX6_plain_17 rfl k_X6_plain_6 tyX6_ok nmX6 (by decide) f_X6_plain_88 rfl (tyX6_ok 8 (by decide)) zok_bool (s_vret X dX6_plain_20 hr))))))))))))))
theorem w_X6_plain (la : Launch) (sp : zSp) (vc : zVC_X6_plain sp) : zMet la yX6_plain wsX6_plain (rm_X6_plain) 0 0 sp :=
  z_of (cc := cX6_plain) (maxL := 1) (ret := none) (by decide +kernel) rfl (fun p e s m args below meth c D cy b n as E P hsp X hr hin => by
    obtain ⟨h1, h2⟩ := vc b cy n as E P (zAt p la e (rm_X6_plain) s m args below meth c (MQ below (zQ D b (n + 0) P) args s 0 0 (fun q => b ≤ q)) 1 D b n) hsp
    exact ⟨h1, S_X6_plain_0 la X hr _ _ _ _ _ h2⟩)

theorem m_X6_plain (la : Launch) : zMet la yX6_plain wsX6_plain rm_X6_plain 0 0 sp_X6_plain := w_X6_plain la _ vc_X6_plain
def sp_X6_readRow : zSp := fun b cy as N E P => ∃ (tr : Int64) (len : Nat) (tx : Nat → Nat) (se w : Int32) (k : zTk) (D : zD) (n : Nat) (seat lo la : Nat → Nat) (line : Nat) (t : Bool) (items : Nat), as = [.ref (b + 159), .int w] ∧ zPq b E len tr (zlt t) se k (-9) ∧ zMt cy E len tx ∧ zKo len k ∧ zDt cy E D (n, seat, lo, la, line, t, items) ∧ D.1 ≤ 6 ∧ n ≤ 6 ∧ 172 ≤ N ∧
  ((w = 114 ∧ n < 6 ∧ match zri len tx k with
    | .inl s => ∀ E' lt' k', zPq b E' len tr lt' se k' (nI s) → zDg cy E' D → (∀ j, j ≠ 159 → (j < 161 ∨ 165 < j) → E' j = E j) → P none E'
    | .inr (k3, a, b', c) => ∀ E', zPq b E' len tr (zlt t) se (ztk len tx k3.1) (-9) → zDt cy E' D (n + 1, zup seat n a, zup lo n b', zup la n c, line, t, items) → (∀ j, j ≠ 159 → (j < 161 ∨ 165 < j) → E' j = E j) → P none E')
  ∨ (¬ w = 114 ∧ if znum 1 20 k = true then (∀ E', zPq b E' len tr (zlt true) se (ztk len tx k.1) (-9) → zDt cy E' D (n, seat, lo, la, k.2.2.2, true, items) → (∀ j, j ≠ 159 → (j < 161 ∨ 165 < j) → E' j = E j) → P none E') else (∀ E' lt' k', zPq b E' len tr lt' se k' (nI k.2.2.1) → zDg cy E' D → (∀ j, j ≠ 159 → (j < 161 ∨ 165 < j) → E' j = E j) → P none E')))
abbrev rm_X6_readRow : Room := { frames := 5, cells := 0, slots := 0, locals := 127 }
def B_X6_readRow_96 (b n0 : Nat) (cy : zY) (P : zPo) (A : Nat → zC) : zC :=
  z_vret 0 0 P
def B_X6_readRow_0 (b n0 : Nat) (cy : zY) (P : zPo) (A : Nat → zC) : zC :=
  z_iload 1 (z_const (114) (z_icmp (fun x y => x = y) (z_aload 0 (z_get b n0 6 4 (z_aload 0 (z_get b n0 6 3 (z_const (1) (z_ald b n0 (cy 1) (z_aload 0 (z_const (0) (z_const (9) (z_callV b n0 0 0 cy 6 2 0 0 sp_X6_number (z_ast b n0 (cy 1) (fun x => x) (z_aload 0 (z_get b n0 6 5 (z_const (6) (z_aload 0 (z_get b n0 6 3 (z_const (1) (z_ald b n0 (cy 1) (z_bin (fun x y => x + y) (z_aload 0 (z_const (0) (z_const (9) (z_callV b n0 0 0 cy 6 2 0 0 sp_X6_number (z_ast b n0 (cy 1) (fun x => x) (z_aload 0 (z_get b n0 6 6 (z_const (6) (z_aload 0 (z_get b n0 6 3 (z_const (1) (z_ald b n0 (cy 1) (z_bin (fun x y => x + y) (z_aload 0 (z_const (0) (z_const (2) (z_callV b n0 0 0 cy 6 2 0 0 sp_X6_number (z_ast b n0 (cy 1) (fun x => x) (z_aload 0 (z_get b n0 6 3 (z_const (1) (z_dup2 (z_ald b n0 (cy 1) (z_const (1) (z_bin (fun x y => x + y) (z_ast b n0 (cy 1) (fun x => x) (B_X6_readRow_96 b n0 cy P A)))))))))))))))))))))))))))))))))))))))))))))) (z_aload 0 (z_get b n0 6 7 (z_const (1) (z_aload 0 (z_const (1) (z_const (20) (z_callV b n0 0 0 cy 6 2 0 0 sp_X6_number (z_ast b n0 (cy 1) (fun x => x) (z_aload 0 (z_const (1) (z_put b n0 6 8 3 (B_X6_readRow_96 b n0 cy P A))))))))))))))
def zVC_X6_readRow (sp : zSp) : Prop := ∀ (b : Nat) (cy : zY) (n : Nat) (as : List Value) (E : zE) (P : zPo) (A : Nat → zC), sp b cy as n E P → zgood as 2 ∧ B_X6_readRow_0 b n cy P A (lv_args 0 as) [] 0 0 E

theorem zs9 {s : Nat} (h : s < 256) : ¬ nI s = -9 := fun h2 => by
  have h3 : ¬ nI s < 0 := nI_pos (by omega)
  rw [h2] at h3
  exact h3 (by decide)
set_option maxRecDepth 100000 in
set_option maxHeartbeats 4000000 in
theorem vc_X6_readRow : zVC_X6_readRow sp_X6_readRow := by
  intro b cy N as E P A hsp
  obtain ⟨tr, len, tx, se, w, k, D, n, seat, lo, la, line, t, items, rfl, ⟨va0, e0, hva0⟩, hMt, o1, hDt, hD6, hn6, hN, hP⟩ := hsp
  refine ⟨⟨Nat.le_of_ble_eq_true rfl, zg1 rfl (zg1 rfl (zg0))⟩, ?_⟩
  have N0 : 159 < N := by omega
  have N1 : 161 < N := by omega
  have N2 : 162 < N := by omega
  have N3 : 163 < N := by omega
  have N4 : 164 < N := by omega
  have N5 : 165 < N := by omega
  have hl := hMt.1
  have ht := hMt.2.1
  have in1 : vp_in 1 2 := (vp_in_nI (show 1 < 2 by omega) (by omega) : vp_in (nI 1) 2)
  have cl1 : (1 : Int32).toNatClampNeg = 1 := by decide
  obtain ⟨⟨r0, r1, hr0, hr1⟩, ⟨s0, s1, hs0⟩, ⟨l0, l1, hl0, hl0'⟩, ⟨w0, w1, hw0, hw0'⟩, ⟨x0, x1, hx0, hx1⟩⟩ := id hDt
  replace hr1 : r0 1 = nI n := hr1
  replace hs0 : ∀ j, j < n → s0 j = nI (seat j) := hs0
  replace hl0' : ∀ j, j < n → l0 (6 + j) = nI (lo j) := hl0'
  replace hw0' : ∀ j, j < n → w0 (6 + j) = nI (la j) := hw0'
  have hs9 : ∀ k' : zTk, zKo len k' → ¬ nI k'.2.2.1 = -9 := fun k' h => zs9 (by have := h.2.2.1; omega)
  have o2 := zKo_tk (tx := tx) o1.1 ht
  have o3 := zKo_tk (tx := tx) o2.1 ht
  rcases hP with ⟨hw, hn, hP⟩ | ⟨hw, hP⟩
  · subst hw
    have i6 : vp_in (nI n) 6 := vp_in_nI hn (by omega)
    have j6 : (nI n).toNatClampNeg = n := nI_clamp (by omega)
    have i12 : vp_in (nI (6 + n)) 12 := vp_in_nI (by omega) (by omega)
    have j12 : (nI (6 + n)).toNatClampNeg = 6 + n := nI_clamp (by omega)
    have k6n : (6 : Int32) + nI n = nI (6 + n) := nI_add 6 n
    have dDg : ∀ (F : zE) (v1 v2 v3 : Int32), F 161 = .inl (cy 1, 2, .inl (upd r0 1 (nI (n + 1)))) → F 162 = .inl (cy 1, 6, .inl (upd s0 n v1)) → F 163 = .inl (cy 1, 12, .inl (upd l0 (6 + n) v2)) → F 164 = .inl (cy 1, 12, .inl (upd w0 (6 + n) v3)) → F 165 = E 165 → zDg cy F D := fun F v1 v2 v3 a1 a2 a3 a4 a5 => ⟨⟨_, a1, by show r0 0 = _; exact hr0⟩, ⟨_, a2⟩, ⟨_, a3, fun j hj => by simp only [upd]; rw [if_neg (by omega)]; exact hl0 j hj⟩, ⟨_, a4, fun j hj => by simp only [upd]; rw [if_neg (by omega)]; exact hw0 j hj⟩, ⟨x0, a5.trans x1, hx0⟩⟩
    have dDt : ∀ (F : zE) (v1 v2 v3 : Nat), F 161 = .inl (cy 1, 2, .inl (upd r0 1 (nI (n + 1)))) → F 162 = .inl (cy 1, 6, .inl (upd s0 n (nI v1))) → F 163 = .inl (cy 1, 12, .inl (upd l0 (6 + n) (nI v2))) → F 164 = .inl (cy 1, 12, .inl (upd w0 (6 + n) (nI v3))) → F 165 = E 165 → zDt cy F D (n + 1, zup seat n v1, zup lo n v2, zup la n v3, line, t, items) := fun F v1 v2 v3 a1 a2 a3 a4 a5 => by
      refine ⟨⟨_, a1, by show r0 0 = _; exact hr0, rfl⟩, ⟨_, a2, fun j hj => ?_⟩, ⟨_, a3, fun j hj => by simp only [upd]; rw [if_neg (by omega)]; exact hl0 j hj, fun j hj => ?_⟩, ⟨_, a4, fun j hj => by simp only [upd]; rw [if_neg (by omega)]; exact hw0 j hj, fun j hj => ?_⟩, ⟨x0, a5.trans x1, hx0, hx1⟩⟩
      · replace hj : j < n + 1 := hj
        show upd s0 n (nI v1) j = nI (zup seat n v1 j)
        simp only [upd, zup]
        by_cases e : j = n
        · rw [if_pos e, if_pos e]
        · rw [if_neg e, if_neg e]; exact hs0 j (by omega)
      · replace hj : j < n + 1 := hj
        show upd l0 (6 + n) (nI v2) (6 + j) = nI (zup lo n v2 j)
        simp only [upd, zup]
        by_cases e : j = n
        · rw [if_pos (by omega), if_pos e]
        · rw [if_neg (by omega), if_neg e]; exact hl0' j (by omega)
      · replace hj : j < n + 1 := hj
        show upd w0 (6 + n) (nI v3) (6 + j) = nI (zup la n v3 j)
        simp only [upd, zup]
        by_cases e : j = n
        · rw [if_pos (by omega), if_pos e]
        · rw [if_neg (by omega), if_neg e]; exact hw0' j (by omega)
    simp -implicitDefEqProofs only [B_X6_readRow_0, e_cut, e_iload, e_aload, e_istore, e_astore, e_iinc, e_const, e_lconst, e_bin, e_bin0, e_un, e_ladd, e_dupi, e_dupr, e_dup2, e_pop, e_sw, e_sw0, e_sw1, e_get, e_put, e_ald, e_ast, e_aald, e_aast, e_copy, e_new, e_newa, e_anewa, e_min, e_abs, e_oinit, e_callI, e_callV, e_callS, e_iret, e_zret, e_lret, e_vret, e_tl1, e_tl0, e_tl2, e_tl3, z10, Bool.false_eq_true, e_argi, e_argr, e_argn, zld_c, zst_n, zst_c, zpick_n, zpick_c, List.drop_succ_cons, List.drop_zero, List.take_succ_cons, List.take_zero, List.length_cons, List.length_nil, List.reverse_cons, List.reverse_nil, List.nil_append, List.cons_append, List.append_nil, List.getElem?_cons_zero, List.getElem?_cons_succ, List.set_cons_zero, List.set_cons_succ, Nat.add_sub_cancel_left, Nat.sub_self, Nat.add_zero, Nat.zero_add, Nat.le_add_right, Nat.le_refl, true_and, and_true, va_rf, zok, Nat.add_left_cancel_iff, Nat.add_eq_left, Nat.left_eq_add, eq_self, if_true, if_false, not_false_eq_true, not_true_eq_false, false_implies, true_implies, Nat.reduceEqDiff, Nat.reduceAdd, Nat.reduceLT, Nat.reduceLeDiff, reduceIte, e_icmpt (c2 := fun x y => x = y) (show (114 : Int32) = 114 from rfl), zM0, e0, r1, hr1, s1, N0, N1, N2, in1, cl1]
    unfold zri at hP
    simp only at hP
    obtain ⟨k2, hk2⟩ : ∃ k2, k2 = ztk len tx k.1 := ⟨_, rfl⟩
    rw [← hk2] at hP o2 o3
    obtain ⟨k3, hk3⟩ : ∃ k3, k3 = ztk len tx k2.1 := ⟨_, rfl⟩
    rw [← hk3] at hP o3
    by_cases q1 : znum 0 9 k = true
    · rw [if_pos q1] at hP
      by_cases q2 : znum 0 9 k2 = true
      · rw [if_pos q2] at hP
        by_cases q3 : znum 0 2 k3 = true
        · rw [if_pos q3] at hP
          replace hP : ∀ E', zPq b E' len tr (zlt t) se (ztk len tx k3.1) (-9) → zDt cy E' D (n + 1, zup seat n k.2.2.2, zup lo n k2.2.2.2, zup la n k3.2.2.2, line, t, items) → (∀ j, j ≠ 159 → (j < 161 ∨ 165 < j) → E' j = E j) → P none E' := hP
          refine ⟨tr, len, 0, 9, tx, _, se, (-9), k, rfl, ⟨_, e0, hva0⟩, hMt, o1, by omega, by omega, by omega, Or.inl ⟨rfl, q1, fun F1 hq1 hf1 => ?_⟩⟩
          rw [← hk2] at hq1
          obtain ⟨va1, g1, hva1⟩ := id hq1
          have kF1 : ∀ j, j ≠ 159 → j ≠ 162 → j ≠ 163 → j ≠ 164 → F1 j = E j := fun j a _ _ _ => hf1 j a
          have b1_1 : F1 162 = .inl (cy 1, 6, .inl s0) := (hf1 _ (by omega)).trans s1
          have b2_1 : F1 163 = .inl (cy 1, 12, .inl l0) := (hf1 _ (by omega)).trans l1
          have b3_1 : F1 164 = .inl (cy 1, 12, .inl w0) := (hf1 _ (by omega)).trans w1
          have r_1 := (kF1 161 (by omega) (by omega) (by omega) (by omega)).trans r1
          simp -implicitDefEqProofs only [e_cut, e_iload, e_aload, e_istore, e_astore, e_iinc, e_const, e_lconst, e_bin, e_bin0, e_un, e_ladd, e_dupi, e_dupr, e_dup2, e_pop, e_sw, e_sw0, e_sw1, e_get, e_put, e_ald, e_ast, e_aald, e_aast, e_copy, e_new, e_newa, e_anewa, e_min, e_abs, e_oinit, e_callI, e_callV, e_callS, e_iret, e_zret, e_lret, e_vret, e_tl1, e_tl0, e_tl2, e_tl3, z10, Bool.false_eq_true, e_argi, e_argr, e_argn, zld_c, zst_n, zst_c, zpick_n, zpick_c, List.drop_succ_cons, List.drop_zero, List.take_succ_cons, List.take_zero, List.length_cons, List.length_nil, List.reverse_cons, List.reverse_nil, List.nil_append, List.cons_append, List.append_nil, List.getElem?_cons_zero, List.getElem?_cons_succ, List.set_cons_zero, List.set_cons_succ, Nat.add_sub_cancel_left, Nat.sub_self, Nat.add_zero, Nat.zero_add, Nat.le_add_right, Nat.le_refl, true_and, and_true, va_rf, zok, Nat.add_left_cancel_iff, Nat.add_eq_left, Nat.left_eq_add, eq_self, if_true, if_false, not_false_eq_true, not_true_eq_false, false_implies, true_implies, Nat.reduceEqDiff, Nat.reduceAdd, Nat.reduceLT, Nat.reduceLeDiff, reduceIte, zM0, e_up, hr1, N0, N1, N2, N3, N4, in1, cl1, k6n, i6, j6, i12, j12, g1, r_1, b1_1, b2_1, b3_1]
          have kW1 : ∀ j, j < 161 → j ≠ 159 → (va_up F1 162 (.inl (cy 1, 6, .inl (upd s0 n (nI k.2.2.2))))) j = E j := fun j h1 h2 => (u_ne (by omega)).trans (kF1 j h2 (by omega) (by omega) (by omega))
          refine ⟨tr, len, 0, 9, tx, _, se, (-9), k2, rfl, ⟨_, (u_ne (by omega)).trans (g1), hva1⟩, hMt.congr (kW1 160 (by omega) (by omega)), o2, by omega, by omega, by omega, Or.inl ⟨rfl, q2, fun F2 hq2 hf2 => ?_⟩⟩
          rw [← hk3] at hq2
          obtain ⟨va2, g2, hva2⟩ := id hq2
          have kF2 : ∀ j, j ≠ 159 → j ≠ 162 → j ≠ 163 → j ≠ 164 → F2 j = E j := fun j a c d e => (hf2 j a).trans ((u_ne c).trans (kF1 j a c d e))
          have a1_2 : F2 162 = .inl (cy 1, 6, .inl (upd s0 n (nI k.2.2.2))) := (hf2 _ (by omega)).trans u_eq
          have b2_2 : F2 163 = .inl (cy 1, 12, .inl l0) := (hf2 _ (by omega)).trans ((u_ne (by omega)).trans b2_1)
          have b3_2 : F2 164 = .inl (cy 1, 12, .inl w0) := (hf2 _ (by omega)).trans ((u_ne (by omega)).trans b3_1)
          have r_2 := (kF2 161 (by omega) (by omega) (by omega) (by omega)).trans r1
          simp -implicitDefEqProofs only [e_cut, e_iload, e_aload, e_istore, e_astore, e_iinc, e_const, e_lconst, e_bin, e_bin0, e_un, e_ladd, e_dupi, e_dupr, e_dup2, e_pop, e_sw, e_sw0, e_sw1, e_get, e_put, e_ald, e_ast, e_aald, e_aast, e_copy, e_new, e_newa, e_anewa, e_min, e_abs, e_oinit, e_callI, e_callV, e_callS, e_iret, e_zret, e_lret, e_vret, e_tl1, e_tl0, e_tl2, e_tl3, z10, Bool.false_eq_true, e_argi, e_argr, e_argn, zld_c, zst_n, zst_c, zpick_n, zpick_c, List.drop_succ_cons, List.drop_zero, List.take_succ_cons, List.take_zero, List.length_cons, List.length_nil, List.reverse_cons, List.reverse_nil, List.nil_append, List.cons_append, List.append_nil, List.getElem?_cons_zero, List.getElem?_cons_succ, List.set_cons_zero, List.set_cons_succ, Nat.add_sub_cancel_left, Nat.sub_self, Nat.add_zero, Nat.zero_add, Nat.le_add_right, Nat.le_refl, true_and, and_true, va_rf, zok, Nat.add_left_cancel_iff, Nat.add_eq_left, Nat.left_eq_add, eq_self, if_true, if_false, not_false_eq_true, not_true_eq_false, false_implies, true_implies, Nat.reduceEqDiff, Nat.reduceAdd, Nat.reduceLT, Nat.reduceLeDiff, reduceIte, zM0, e_up, hr1, N0, N1, N2, N3, N4, in1, cl1, k6n, i6, j6, i12, j12, g2, r_2, b2_2, b3_2, a1_2]
          have kW2 : ∀ j, j < 161 → j ≠ 159 → (va_up F2 163 (.inl (cy 1, 12, .inl (upd l0 (6 + n) (nI k2.2.2.2))))) j = E j := fun j h1 h2 => (u_ne (by omega)).trans (kF2 j h2 (by omega) (by omega) (by omega))
          refine ⟨tr, len, 0, 2, tx, _, se, (-9), k3, rfl, ⟨_, (u_ne (by omega)).trans (g2), hva2⟩, hMt.congr (kW2 160 (by omega) (by omega)), o3, by omega, by omega, by omega, Or.inl ⟨rfl, q3, fun F3 hq3 hf3 => ?_⟩⟩
          obtain ⟨va3, g3, hva3⟩ := id hq3
          have kF3 : ∀ j, j ≠ 159 → j ≠ 162 → j ≠ 163 → j ≠ 164 → F3 j = E j := fun j a c d e => (hf3 j a).trans ((u_ne d).trans (kF2 j a c d e))
          have a1_3 : F3 162 = .inl (cy 1, 6, .inl (upd s0 n (nI k.2.2.2))) := (hf3 _ (by omega)).trans ((u_ne (by omega)).trans a1_2)
          have a2_3 : F3 163 = .inl (cy 1, 12, .inl (upd l0 (6 + n) (nI k2.2.2.2))) := (hf3 _ (by omega)).trans u_eq
          have b3_3 : F3 164 = .inl (cy 1, 12, .inl w0) := (hf3 _ (by omega)).trans ((u_ne (by omega)).trans b3_2)
          have r_3 := (kF3 161 (by omega) (by omega) (by omega) (by omega)).trans r1
          simp -implicitDefEqProofs only [e_cut, e_iload, e_aload, e_istore, e_astore, e_iinc, e_const, e_lconst, e_bin, e_bin0, e_un, e_ladd, e_dupi, e_dupr, e_dup2, e_pop, e_sw, e_sw0, e_sw1, e_get, e_put, e_ald, e_ast, e_aald, e_aast, e_copy, e_new, e_newa, e_anewa, e_min, e_abs, e_oinit, e_callI, e_callV, e_callS, e_iret, e_zret, e_lret, e_vret, e_tl1, e_tl0, e_tl2, e_tl3, z10, Bool.false_eq_true, e_argi, e_argr, e_argn, zld_c, zst_n, zst_c, zpick_n, zpick_c, List.drop_succ_cons, List.drop_zero, List.take_succ_cons, List.take_zero, List.length_cons, List.length_nil, List.reverse_cons, List.reverse_nil, List.nil_append, List.cons_append, List.append_nil, List.getElem?_cons_zero, List.getElem?_cons_succ, List.set_cons_zero, List.set_cons_succ, Nat.add_sub_cancel_left, Nat.sub_self, Nat.add_zero, Nat.zero_add, Nat.le_add_right, Nat.le_refl, true_and, and_true, va_rf, zok, Nat.add_left_cancel_iff, Nat.add_eq_left, Nat.left_eq_add, eq_self, if_true, if_false, not_false_eq_true, not_true_eq_false, false_implies, true_implies, Nat.reduceEqDiff, Nat.reduceAdd, Nat.reduceLT, Nat.reduceLeDiff, reduceIte, zM0, e_up, hr1, N0, N1, N2, N3, N4, in1, cl1, k6n, i6, j6, i12, j12, nI_1, B_X6_readRow_96, g3, r_3, b3_3, a1_3, a2_3]
          refine hP _ ⟨_, (u_ne (by omega)).trans ((u_ne (by omega)).trans (g3)), hva3⟩ (dDt _ _ _ _ u_eq ((u_ne (by omega)).trans ((u_ne (by omega)).trans (a1_3))) ((u_ne (by omega)).trans ((u_ne (by omega)).trans (a2_3))) ((u_ne (by omega)).trans (u_eq)) ((u_ne (by omega)).trans ((u_ne (by omega)).trans (kF3 165 (by omega) (by omega) (by omega) (by omega))))) (fun j h1 h2 => (u_ne (by omega)).trans ((u_ne (by omega)).trans (kF3 j h1 (by omega) (by omega) (by omega))))
        · rw [if_neg q3] at hP
          replace hP : ∀ E' lt' k', zPq b E' len tr lt' se k' (nI k3.2.2.1) → zDg cy E' D → (∀ j, j ≠ 159 → (j < 161 ∨ 165 < j) → E' j = E j) → P none E' := hP
          refine ⟨tr, len, 0, 9, tx, _, se, (-9), k, rfl, ⟨_, e0, hva0⟩, hMt, o1, by omega, by omega, by omega, Or.inl ⟨rfl, q1, fun F1 hq1 hf1 => ?_⟩⟩
          rw [← hk2] at hq1
          obtain ⟨va1, g1, hva1⟩ := id hq1
          have kF1 : ∀ j, j ≠ 159 → j ≠ 162 → j ≠ 163 → j ≠ 164 → F1 j = E j := fun j a _ _ _ => hf1 j a
          have b1_1 : F1 162 = .inl (cy 1, 6, .inl s0) := (hf1 _ (by omega)).trans s1
          have b2_1 : F1 163 = .inl (cy 1, 12, .inl l0) := (hf1 _ (by omega)).trans l1
          have b3_1 : F1 164 = .inl (cy 1, 12, .inl w0) := (hf1 _ (by omega)).trans w1
          have r_1 := (kF1 161 (by omega) (by omega) (by omega) (by omega)).trans r1
          simp -implicitDefEqProofs only [e_cut, e_iload, e_aload, e_istore, e_astore, e_iinc, e_const, e_lconst, e_bin, e_bin0, e_un, e_ladd, e_dupi, e_dupr, e_dup2, e_pop, e_sw, e_sw0, e_sw1, e_get, e_put, e_ald, e_ast, e_aald, e_aast, e_copy, e_new, e_newa, e_anewa, e_min, e_abs, e_oinit, e_callI, e_callV, e_callS, e_iret, e_zret, e_lret, e_vret, e_tl1, e_tl0, e_tl2, e_tl3, z10, Bool.false_eq_true, e_argi, e_argr, e_argn, zld_c, zst_n, zst_c, zpick_n, zpick_c, List.drop_succ_cons, List.drop_zero, List.take_succ_cons, List.take_zero, List.length_cons, List.length_nil, List.reverse_cons, List.reverse_nil, List.nil_append, List.cons_append, List.append_nil, List.getElem?_cons_zero, List.getElem?_cons_succ, List.set_cons_zero, List.set_cons_succ, Nat.add_sub_cancel_left, Nat.sub_self, Nat.add_zero, Nat.zero_add, Nat.le_add_right, Nat.le_refl, true_and, and_true, va_rf, zok, Nat.add_left_cancel_iff, Nat.add_eq_left, Nat.left_eq_add, eq_self, if_true, if_false, not_false_eq_true, not_true_eq_false, false_implies, true_implies, Nat.reduceEqDiff, Nat.reduceAdd, Nat.reduceLT, Nat.reduceLeDiff, reduceIte, zM0, e_up, hr1, N0, N1, N2, N3, N4, in1, cl1, k6n, i6, j6, i12, j12, g1, r_1, b1_1, b2_1, b3_1]
          have kW1 : ∀ j, j < 161 → j ≠ 159 → (va_up F1 162 (.inl (cy 1, 6, .inl (upd s0 n (nI k.2.2.2))))) j = E j := fun j h1 h2 => (u_ne (by omega)).trans (kF1 j h2 (by omega) (by omega) (by omega))
          refine ⟨tr, len, 0, 9, tx, _, se, (-9), k2, rfl, ⟨_, (u_ne (by omega)).trans (g1), hva1⟩, hMt.congr (kW1 160 (by omega) (by omega)), o2, by omega, by omega, by omega, Or.inl ⟨rfl, q2, fun F2 hq2 hf2 => ?_⟩⟩
          rw [← hk3] at hq2
          obtain ⟨va2, g2, hva2⟩ := id hq2
          have kF2 : ∀ j, j ≠ 159 → j ≠ 162 → j ≠ 163 → j ≠ 164 → F2 j = E j := fun j a c d e => (hf2 j a).trans ((u_ne c).trans (kF1 j a c d e))
          have a1_2 : F2 162 = .inl (cy 1, 6, .inl (upd s0 n (nI k.2.2.2))) := (hf2 _ (by omega)).trans u_eq
          have b2_2 : F2 163 = .inl (cy 1, 12, .inl l0) := (hf2 _ (by omega)).trans ((u_ne (by omega)).trans b2_1)
          have b3_2 : F2 164 = .inl (cy 1, 12, .inl w0) := (hf2 _ (by omega)).trans ((u_ne (by omega)).trans b3_1)
          have r_2 := (kF2 161 (by omega) (by omega) (by omega) (by omega)).trans r1
          simp -implicitDefEqProofs only [e_cut, e_iload, e_aload, e_istore, e_astore, e_iinc, e_const, e_lconst, e_bin, e_bin0, e_un, e_ladd, e_dupi, e_dupr, e_dup2, e_pop, e_sw, e_sw0, e_sw1, e_get, e_put, e_ald, e_ast, e_aald, e_aast, e_copy, e_new, e_newa, e_anewa, e_min, e_abs, e_oinit, e_callI, e_callV, e_callS, e_iret, e_zret, e_lret, e_vret, e_tl1, e_tl0, e_tl2, e_tl3, z10, Bool.false_eq_true, e_argi, e_argr, e_argn, zld_c, zst_n, zst_c, zpick_n, zpick_c, List.drop_succ_cons, List.drop_zero, List.take_succ_cons, List.take_zero, List.length_cons, List.length_nil, List.reverse_cons, List.reverse_nil, List.nil_append, List.cons_append, List.append_nil, List.getElem?_cons_zero, List.getElem?_cons_succ, List.set_cons_zero, List.set_cons_succ, Nat.add_sub_cancel_left, Nat.sub_self, Nat.add_zero, Nat.zero_add, Nat.le_add_right, Nat.le_refl, true_and, and_true, va_rf, zok, Nat.add_left_cancel_iff, Nat.add_eq_left, Nat.left_eq_add, eq_self, if_true, if_false, not_false_eq_true, not_true_eq_false, false_implies, true_implies, Nat.reduceEqDiff, Nat.reduceAdd, Nat.reduceLT, Nat.reduceLeDiff, reduceIte, zM0, e_up, hr1, N0, N1, N2, N3, N4, in1, cl1, k6n, i6, j6, i12, j12, g2, r_2, b2_2, b3_2, a1_2]
          have kW2 : ∀ j, j < 161 → j ≠ 159 → (va_up F2 163 (.inl (cy 1, 12, .inl (upd l0 (6 + n) (nI k2.2.2.2))))) j = E j := fun j h1 h2 => (u_ne (by omega)).trans (kF2 j h2 (by omega) (by omega) (by omega))
          refine ⟨tr, len, 0, 2, tx, _, se, (-9), k3, rfl, ⟨_, (u_ne (by omega)).trans (g2), hva2⟩, hMt.congr (kW2 160 (by omega) (by omega)), o3, by omega, by omega, by omega, Or.inr (Or.inl ⟨rfl, by simpa using q3, fun F3 v3 hq3 hf3 => ?_⟩)⟩
          obtain ⟨va3, g3, hva3⟩ := id hq3
          have kF3 : ∀ j, j ≠ 159 → j ≠ 162 → j ≠ 163 → j ≠ 164 → F3 j = E j := fun j a c d e => (hf3 j a).trans ((u_ne d).trans (kF2 j a c d e))
          have a1_3 : F3 162 = .inl (cy 1, 6, .inl (upd s0 n (nI k.2.2.2))) := (hf3 _ (by omega)).trans ((u_ne (by omega)).trans a1_2)
          have a2_3 : F3 163 = .inl (cy 1, 12, .inl (upd l0 (6 + n) (nI k2.2.2.2))) := (hf3 _ (by omega)).trans u_eq
          have b3_3 : F3 164 = .inl (cy 1, 12, .inl w0) := (hf3 _ (by omega)).trans ((u_ne (by omega)).trans b3_2)
          have r_3 := (kF3 161 (by omega) (by omega) (by omega) (by omega)).trans r1
          simp -implicitDefEqProofs only [e_cut, e_iload, e_aload, e_istore, e_astore, e_iinc, e_const, e_lconst, e_bin, e_bin0, e_un, e_ladd, e_dupi, e_dupr, e_dup2, e_pop, e_sw, e_sw0, e_sw1, e_get, e_put, e_ald, e_ast, e_aald, e_aast, e_copy, e_new, e_newa, e_anewa, e_min, e_abs, e_oinit, e_callI, e_callV, e_callS, e_iret, e_zret, e_lret, e_vret, e_tl1, e_tl0, e_tl2, e_tl3, z10, Bool.false_eq_true, e_argi, e_argr, e_argn, zld_c, zst_n, zst_c, zpick_n, zpick_c, List.drop_succ_cons, List.drop_zero, List.take_succ_cons, List.take_zero, List.length_cons, List.length_nil, List.reverse_cons, List.reverse_nil, List.nil_append, List.cons_append, List.append_nil, List.getElem?_cons_zero, List.getElem?_cons_succ, List.set_cons_zero, List.set_cons_succ, Nat.add_sub_cancel_left, Nat.sub_self, Nat.add_zero, Nat.zero_add, Nat.le_add_right, Nat.le_refl, true_and, and_true, va_rf, zok, Nat.add_left_cancel_iff, Nat.add_eq_left, Nat.left_eq_add, eq_self, if_true, if_false, not_false_eq_true, not_true_eq_false, false_implies, true_implies, Nat.reduceEqDiff, Nat.reduceAdd, Nat.reduceLT, Nat.reduceLeDiff, reduceIte, zM0, e_up, hr1, N0, N1, N2, N3, N4, in1, cl1, k6n, i6, j6, i12, j12, nI_1, B_X6_readRow_96, g3, r_3, b3_3, a1_3, a2_3]
          refine hP _ _ _ ⟨_, (u_ne (by omega)).trans ((u_ne (by omega)).trans (g3)), hva3⟩ (dDg _ _ _ _ u_eq ((u_ne (by omega)).trans ((u_ne (by omega)).trans (a1_3))) ((u_ne (by omega)).trans ((u_ne (by omega)).trans (a2_3))) ((u_ne (by omega)).trans (u_eq)) ((u_ne (by omega)).trans ((u_ne (by omega)).trans (kF3 165 (by omega) (by omega) (by omega) (by omega))))) (fun j h1 h2 => (u_ne (by omega)).trans ((u_ne (by omega)).trans (kF3 j h1 (by omega) (by omega) (by omega))))
      · rw [if_neg q2] at hP
        replace hP : ∀ E' lt' k', zPq b E' len tr lt' se k' (nI k2.2.2.1) → zDg cy E' D → (∀ j, j ≠ 159 → (j < 161 ∨ 165 < j) → E' j = E j) → P none E' := hP
        refine ⟨tr, len, 0, 9, tx, _, se, (-9), k, rfl, ⟨_, e0, hva0⟩, hMt, o1, by omega, by omega, by omega, Or.inl ⟨rfl, q1, fun F1 hq1 hf1 => ?_⟩⟩
        rw [← hk2] at hq1
        obtain ⟨va1, g1, hva1⟩ := id hq1
        have kF1 : ∀ j, j ≠ 159 → j ≠ 162 → j ≠ 163 → j ≠ 164 → F1 j = E j := fun j a _ _ _ => hf1 j a
        have b1_1 : F1 162 = .inl (cy 1, 6, .inl s0) := (hf1 _ (by omega)).trans s1
        have b2_1 : F1 163 = .inl (cy 1, 12, .inl l0) := (hf1 _ (by omega)).trans l1
        have b3_1 : F1 164 = .inl (cy 1, 12, .inl w0) := (hf1 _ (by omega)).trans w1
        have r_1 := (kF1 161 (by omega) (by omega) (by omega) (by omega)).trans r1
        simp -implicitDefEqProofs only [e_cut, e_iload, e_aload, e_istore, e_astore, e_iinc, e_const, e_lconst, e_bin, e_bin0, e_un, e_ladd, e_dupi, e_dupr, e_dup2, e_pop, e_sw, e_sw0, e_sw1, e_get, e_put, e_ald, e_ast, e_aald, e_aast, e_copy, e_new, e_newa, e_anewa, e_min, e_abs, e_oinit, e_callI, e_callV, e_callS, e_iret, e_zret, e_lret, e_vret, e_tl1, e_tl0, e_tl2, e_tl3, z10, Bool.false_eq_true, e_argi, e_argr, e_argn, zld_c, zst_n, zst_c, zpick_n, zpick_c, List.drop_succ_cons, List.drop_zero, List.take_succ_cons, List.take_zero, List.length_cons, List.length_nil, List.reverse_cons, List.reverse_nil, List.nil_append, List.cons_append, List.append_nil, List.getElem?_cons_zero, List.getElem?_cons_succ, List.set_cons_zero, List.set_cons_succ, Nat.add_sub_cancel_left, Nat.sub_self, Nat.add_zero, Nat.zero_add, Nat.le_add_right, Nat.le_refl, true_and, and_true, va_rf, zok, Nat.add_left_cancel_iff, Nat.add_eq_left, Nat.left_eq_add, eq_self, if_true, if_false, not_false_eq_true, not_true_eq_false, false_implies, true_implies, Nat.reduceEqDiff, Nat.reduceAdd, Nat.reduceLT, Nat.reduceLeDiff, reduceIte, zM0, e_up, hr1, N0, N1, N2, N3, N4, in1, cl1, k6n, i6, j6, i12, j12, g1, r_1, b1_1, b2_1, b3_1]
        have kW1 : ∀ j, j < 161 → j ≠ 159 → (va_up F1 162 (.inl (cy 1, 6, .inl (upd s0 n (nI k.2.2.2))))) j = E j := fun j h1 h2 => (u_ne (by omega)).trans (kF1 j h2 (by omega) (by omega) (by omega))
        refine ⟨tr, len, 0, 9, tx, _, se, (-9), k2, rfl, ⟨_, (u_ne (by omega)).trans (g1), hva1⟩, hMt.congr (kW1 160 (by omega) (by omega)), o2, by omega, by omega, by omega, Or.inr (Or.inl ⟨rfl, by simpa using q2, fun F2 v2 hq2 hf2 => ?_⟩)⟩
        obtain ⟨va2, g2, hva2⟩ := id hq2
        have kF2 : ∀ j, j ≠ 159 → j ≠ 162 → j ≠ 163 → j ≠ 164 → F2 j = E j := fun j a c d e => (hf2 j a).trans ((u_ne c).trans (kF1 j a c d e))
        have a1_2 : F2 162 = .inl (cy 1, 6, .inl (upd s0 n (nI k.2.2.2))) := (hf2 _ (by omega)).trans u_eq
        have b2_2 : F2 163 = .inl (cy 1, 12, .inl l0) := (hf2 _ (by omega)).trans ((u_ne (by omega)).trans b2_1)
        have b3_2 : F2 164 = .inl (cy 1, 12, .inl w0) := (hf2 _ (by omega)).trans ((u_ne (by omega)).trans b3_1)
        have r_2 := (kF2 161 (by omega) (by omega) (by omega) (by omega)).trans r1
        simp -implicitDefEqProofs only [e_cut, e_iload, e_aload, e_istore, e_astore, e_iinc, e_const, e_lconst, e_bin, e_bin0, e_un, e_ladd, e_dupi, e_dupr, e_dup2, e_pop, e_sw, e_sw0, e_sw1, e_get, e_put, e_ald, e_ast, e_aald, e_aast, e_copy, e_new, e_newa, e_anewa, e_min, e_abs, e_oinit, e_callI, e_callV, e_callS, e_iret, e_zret, e_lret, e_vret, e_tl1, e_tl0, e_tl2, e_tl3, z10, Bool.false_eq_true, e_argi, e_argr, e_argn, zld_c, zst_n, zst_c, zpick_n, zpick_c, List.drop_succ_cons, List.drop_zero, List.take_succ_cons, List.take_zero, List.length_cons, List.length_nil, List.reverse_cons, List.reverse_nil, List.nil_append, List.cons_append, List.append_nil, List.getElem?_cons_zero, List.getElem?_cons_succ, List.set_cons_zero, List.set_cons_succ, Nat.add_sub_cancel_left, Nat.sub_self, Nat.add_zero, Nat.zero_add, Nat.le_add_right, Nat.le_refl, true_and, and_true, va_rf, zok, Nat.add_left_cancel_iff, Nat.add_eq_left, Nat.left_eq_add, eq_self, if_true, if_false, not_false_eq_true, not_true_eq_false, false_implies, true_implies, Nat.reduceEqDiff, Nat.reduceAdd, Nat.reduceLT, Nat.reduceLeDiff, reduceIte, zM0, e_up, hr1, N0, N1, N2, N3, N4, in1, cl1, k6n, i6, j6, i12, j12, g2, r_2, b2_2, b3_2, a1_2]
        have kW2 : ∀ j, j < 161 → j ≠ 159 → (va_up F2 163 (.inl (cy 1, 12, .inl (upd l0 (6 + n) v2)))) j = E j := fun j h1 h2 => (u_ne (by omega)).trans (kF2 j h2 (by omega) (by omega) (by omega))
        refine ⟨tr, len, 0, 2, tx, _, se, nI k2.2.2.1, k2, rfl, ⟨_, (u_ne (by omega)).trans (g2), hva2⟩, hMt.congr (kW2 160 (by omega) (by omega)), o2, by omega, by omega, by omega, Or.inr (Or.inr ⟨hs9 _ o2, fun v3 => ?_⟩)⟩
        simp -implicitDefEqProofs only [e_cut, e_iload, e_aload, e_istore, e_astore, e_iinc, e_const, e_lconst, e_bin, e_bin0, e_un, e_ladd, e_dupi, e_dupr, e_dup2, e_pop, e_sw, e_sw0, e_sw1, e_get, e_put, e_ald, e_ast, e_aald, e_aast, e_copy, e_new, e_newa, e_anewa, e_min, e_abs, e_oinit, e_callI, e_callV, e_callS, e_iret, e_zret, e_lret, e_vret, e_tl1, e_tl0, e_tl2, e_tl3, z10, Bool.false_eq_true, e_argi, e_argr, e_argn, zld_c, zst_n, zst_c, zpick_n, zpick_c, List.drop_succ_cons, List.drop_zero, List.take_succ_cons, List.take_zero, List.length_cons, List.length_nil, List.reverse_cons, List.reverse_nil, List.nil_append, List.cons_append, List.append_nil, List.getElem?_cons_zero, List.getElem?_cons_succ, List.set_cons_zero, List.set_cons_succ, Nat.add_sub_cancel_left, Nat.sub_self, Nat.add_zero, Nat.zero_add, Nat.le_add_right, Nat.le_refl, true_and, and_true, va_rf, zok, Nat.add_left_cancel_iff, Nat.add_eq_left, Nat.left_eq_add, eq_self, if_true, if_false, not_false_eq_true, not_true_eq_false, false_implies, true_implies, Nat.reduceEqDiff, Nat.reduceAdd, Nat.reduceLT, Nat.reduceLeDiff, reduceIte, zM0, e_up, hr1, N0, N1, N2, N3, N4, in1, cl1, k6n, i6, j6, i12, j12, nI_1, B_X6_readRow_96, g2, r_2, b2_2, b3_2, a1_2]
        refine hP _ _ _ ⟨_, (u_ne (by omega)).trans ((u_ne (by omega)).trans ((u_ne (by omega)).trans (g2))), hva2⟩ (dDg _ _ _ _ u_eq ((u_ne (by omega)).trans ((u_ne (by omega)).trans ((u_ne (by omega)).trans (a1_2)))) ((u_ne (by omega)).trans ((u_ne (by omega)).trans (u_eq))) ((u_ne (by omega)).trans (u_eq)) ((u_ne (by omega)).trans ((u_ne (by omega)).trans ((u_ne (by omega)).trans (kF2 165 (by omega) (by omega) (by omega) (by omega)))))) (fun j h1 h2 => (u_ne (by omega)).trans ((u_ne (by omega)).trans ((u_ne (by omega)).trans (kF2 j h1 (by omega) (by omega) (by omega)))))
    · rw [if_neg q1] at hP
      replace hP : ∀ E' lt' k', zPq b E' len tr lt' se k' (nI k.2.2.1) → zDg cy E' D → (∀ j, j ≠ 159 → (j < 161 ∨ 165 < j) → E' j = E j) → P none E' := hP
      refine ⟨tr, len, 0, 9, tx, _, se, (-9), k, rfl, ⟨_, e0, hva0⟩, hMt, o1, by omega, by omega, by omega, Or.inr (Or.inl ⟨rfl, by simpa using q1, fun F1 v1 hq1 hf1 => ?_⟩)⟩
      obtain ⟨va1, g1, hva1⟩ := id hq1
      have kF1 : ∀ j, j ≠ 159 → j ≠ 162 → j ≠ 163 → j ≠ 164 → F1 j = E j := fun j a _ _ _ => hf1 j a
      have b1_1 : F1 162 = .inl (cy 1, 6, .inl s0) := (hf1 _ (by omega)).trans s1
      have b2_1 : F1 163 = .inl (cy 1, 12, .inl l0) := (hf1 _ (by omega)).trans l1
      have b3_1 : F1 164 = .inl (cy 1, 12, .inl w0) := (hf1 _ (by omega)).trans w1
      have r_1 := (kF1 161 (by omega) (by omega) (by omega) (by omega)).trans r1
      simp -implicitDefEqProofs only [e_cut, e_iload, e_aload, e_istore, e_astore, e_iinc, e_const, e_lconst, e_bin, e_bin0, e_un, e_ladd, e_dupi, e_dupr, e_dup2, e_pop, e_sw, e_sw0, e_sw1, e_get, e_put, e_ald, e_ast, e_aald, e_aast, e_copy, e_new, e_newa, e_anewa, e_min, e_abs, e_oinit, e_callI, e_callV, e_callS, e_iret, e_zret, e_lret, e_vret, e_tl1, e_tl0, e_tl2, e_tl3, z10, Bool.false_eq_true, e_argi, e_argr, e_argn, zld_c, zst_n, zst_c, zpick_n, zpick_c, List.drop_succ_cons, List.drop_zero, List.take_succ_cons, List.take_zero, List.length_cons, List.length_nil, List.reverse_cons, List.reverse_nil, List.nil_append, List.cons_append, List.append_nil, List.getElem?_cons_zero, List.getElem?_cons_succ, List.set_cons_zero, List.set_cons_succ, Nat.add_sub_cancel_left, Nat.sub_self, Nat.add_zero, Nat.zero_add, Nat.le_add_right, Nat.le_refl, true_and, and_true, va_rf, zok, Nat.add_left_cancel_iff, Nat.add_eq_left, Nat.left_eq_add, eq_self, if_true, if_false, not_false_eq_true, not_true_eq_false, false_implies, true_implies, Nat.reduceEqDiff, Nat.reduceAdd, Nat.reduceLT, Nat.reduceLeDiff, reduceIte, zM0, e_up, hr1, N0, N1, N2, N3, N4, in1, cl1, k6n, i6, j6, i12, j12, g1, r_1, b1_1, b2_1, b3_1]
      have kW1 : ∀ j, j < 161 → j ≠ 159 → (va_up F1 162 (.inl (cy 1, 6, .inl (upd s0 n v1)))) j = E j := fun j h1 h2 => (u_ne (by omega)).trans (kF1 j h2 (by omega) (by omega) (by omega))
      refine ⟨tr, len, 0, 9, tx, _, se, nI k.2.2.1, k, rfl, ⟨_, (u_ne (by omega)).trans (g1), hva1⟩, hMt.congr (kW1 160 (by omega) (by omega)), o1, by omega, by omega, by omega, Or.inr (Or.inr ⟨hs9 _ o1, fun v2 => ?_⟩)⟩
      simp -implicitDefEqProofs only [e_cut, e_iload, e_aload, e_istore, e_astore, e_iinc, e_const, e_lconst, e_bin, e_bin0, e_un, e_ladd, e_dupi, e_dupr, e_dup2, e_pop, e_sw, e_sw0, e_sw1, e_get, e_put, e_ald, e_ast, e_aald, e_aast, e_copy, e_new, e_newa, e_anewa, e_min, e_abs, e_oinit, e_callI, e_callV, e_callS, e_iret, e_zret, e_lret, e_vret, e_tl1, e_tl0, e_tl2, e_tl3, z10, Bool.false_eq_true, e_argi, e_argr, e_argn, zld_c, zst_n, zst_c, zpick_n, zpick_c, List.drop_succ_cons, List.drop_zero, List.take_succ_cons, List.take_zero, List.length_cons, List.length_nil, List.reverse_cons, List.reverse_nil, List.nil_append, List.cons_append, List.append_nil, List.getElem?_cons_zero, List.getElem?_cons_succ, List.set_cons_zero, List.set_cons_succ, Nat.add_sub_cancel_left, Nat.sub_self, Nat.add_zero, Nat.zero_add, Nat.le_add_right, Nat.le_refl, true_and, and_true, va_rf, zok, Nat.add_left_cancel_iff, Nat.add_eq_left, Nat.left_eq_add, eq_self, if_true, if_false, not_false_eq_true, not_true_eq_false, false_implies, true_implies, Nat.reduceEqDiff, Nat.reduceAdd, Nat.reduceLT, Nat.reduceLeDiff, reduceIte, zM0, e_up, hr1, N0, N1, N2, N3, N4, in1, cl1, k6n, i6, j6, i12, j12, g1, r_1, b1_1, b2_1, b3_1]
      have kW2 : ∀ j, j < 161 → j ≠ 159 → (va_up (va_up F1 162 (.inl (cy 1, 6, .inl (upd s0 n v1)))) 163 (.inl (cy 1, 12, .inl (upd l0 (6 + n) v2)))) j = E j := fun j h1 h2 => (u_ne (by omega)).trans ((u_ne (by omega)).trans (kF1 j h2 (by omega) (by omega) (by omega)))
      refine ⟨tr, len, 0, 2, tx, _, se, nI k.2.2.1, k, rfl, ⟨_, (u_ne (by omega)).trans ((u_ne (by omega)).trans (g1)), hva1⟩, hMt.congr (kW2 160 (by omega) (by omega)), o1, by omega, by omega, by omega, Or.inr (Or.inr ⟨hs9 _ o1, fun v3 => ?_⟩)⟩
      simp -implicitDefEqProofs only [e_cut, e_iload, e_aload, e_istore, e_astore, e_iinc, e_const, e_lconst, e_bin, e_bin0, e_un, e_ladd, e_dupi, e_dupr, e_dup2, e_pop, e_sw, e_sw0, e_sw1, e_get, e_put, e_ald, e_ast, e_aald, e_aast, e_copy, e_new, e_newa, e_anewa, e_min, e_abs, e_oinit, e_callI, e_callV, e_callS, e_iret, e_zret, e_lret, e_vret, e_tl1, e_tl0, e_tl2, e_tl3, z10, Bool.false_eq_true, e_argi, e_argr, e_argn, zld_c, zst_n, zst_c, zpick_n, zpick_c, List.drop_succ_cons, List.drop_zero, List.take_succ_cons, List.take_zero, List.length_cons, List.length_nil, List.reverse_cons, List.reverse_nil, List.nil_append, List.cons_append, List.append_nil, List.getElem?_cons_zero, List.getElem?_cons_succ, List.set_cons_zero, List.set_cons_succ, Nat.add_sub_cancel_left, Nat.sub_self, Nat.add_zero, Nat.zero_add, Nat.le_add_right, Nat.le_refl, true_and, and_true, va_rf, zok, Nat.add_left_cancel_iff, Nat.add_eq_left, Nat.left_eq_add, eq_self, if_true, if_false, not_false_eq_true, not_true_eq_false, false_implies, true_implies, Nat.reduceEqDiff, Nat.reduceAdd, Nat.reduceLT, Nat.reduceLeDiff, reduceIte, zM0, e_up, hr1, N0, N1, N2, N3, N4, in1, cl1, k6n, i6, j6, i12, j12, nI_1, B_X6_readRow_96, g1, r_1, b1_1, b2_1, b3_1]
      refine hP _ _ _ ⟨_, (u_ne (by omega)).trans ((u_ne (by omega)).trans ((u_ne (by omega)).trans ((u_ne (by omega)).trans (g1)))), hva1⟩ (dDg _ _ _ _ u_eq ((u_ne (by omega)).trans ((u_ne (by omega)).trans ((u_ne (by omega)).trans (u_eq)))) ((u_ne (by omega)).trans ((u_ne (by omega)).trans (u_eq))) ((u_ne (by omega)).trans (u_eq)) ((u_ne (by omega)).trans ((u_ne (by omega)).trans ((u_ne (by omega)).trans ((u_ne (by omega)).trans (kF1 165 (by omega) (by omega) (by omega) (by omega))))))) (fun j h1 h2 => (u_ne (by omega)).trans ((u_ne (by omega)).trans ((u_ne (by omega)).trans ((u_ne (by omega)).trans (kF1 j h1 (by omega) (by omega) (by omega))))))
  · have in1' : vp_in 1 2 := in1
    simp -implicitDefEqProofs only [B_X6_readRow_0, e_cut, e_iload, e_aload, e_istore, e_astore, e_iinc, e_const, e_lconst, e_bin, e_bin0, e_un, e_ladd, e_dupi, e_dupr, e_dup2, e_pop, e_sw, e_sw0, e_sw1, e_get, e_put, e_ald, e_ast, e_aald, e_aast, e_copy, e_new, e_newa, e_anewa, e_min, e_abs, e_oinit, e_callI, e_callV, e_callS, e_iret, e_zret, e_lret, e_vret, e_tl1, e_tl0, e_tl2, e_tl3, z10, Bool.false_eq_true, e_argi, e_argr, e_argn, zld_c, zst_n, zst_c, zpick_n, zpick_c, List.drop_succ_cons, List.drop_zero, List.take_succ_cons, List.take_zero, List.length_cons, List.length_nil, List.reverse_cons, List.reverse_nil, List.nil_append, List.cons_append, List.append_nil, List.getElem?_cons_zero, List.getElem?_cons_succ, List.set_cons_zero, List.set_cons_succ, Nat.add_sub_cancel_left, Nat.sub_self, Nat.add_zero, Nat.zero_add, Nat.le_add_right, Nat.le_refl, true_and, and_true, va_rf, zok, Nat.add_left_cancel_iff, Nat.add_eq_left, Nat.left_eq_add, eq_self, if_true, if_false, not_false_eq_true, not_true_eq_false, false_implies, true_implies, Nat.reduceEqDiff, Nat.reduceAdd, Nat.reduceLT, Nat.reduceLeDiff, reduceIte, e_icmpf (c2 := fun x y => x = y) hw, zM0, e0, N0]
    by_cases q1 : znum 1 20 k = true
    · rw [if_pos q1] at hP
      refine ⟨tr, len, 1, 20, tx, _, se, -9, k, rfl, ⟨_, e0, hva0⟩, hMt, o1, by omega, by omega, by omega, Or.inl ⟨rfl, q1, fun F1 hq1 hf1 => ?_⟩⟩
      obtain ⟨va1, g1, hva1⟩ := id hq1
      have x1' := (hf1 165 (by omega)).trans x1
      simp -implicitDefEqProofs only [e_cut, e_iload, e_aload, e_istore, e_astore, e_iinc, e_const, e_lconst, e_bin, e_bin0, e_un, e_ladd, e_dupi, e_dupr, e_dup2, e_pop, e_sw, e_sw0, e_sw1, e_get, e_put, e_ald, e_ast, e_aald, e_aast, e_copy, e_new, e_newa, e_anewa, e_min, e_abs, e_oinit, e_callI, e_callV, e_callS, e_iret, e_zret, e_lret, e_vret, e_tl1, e_tl0, e_tl2, e_tl3, z10, Bool.false_eq_true, e_argi, e_argr, e_argn, zld_c, zst_n, zst_c, zpick_n, zpick_c, List.drop_succ_cons, List.drop_zero, List.take_succ_cons, List.take_zero, List.length_cons, List.length_nil, List.reverse_cons, List.reverse_nil, List.nil_append, List.cons_append, List.append_nil, List.getElem?_cons_zero, List.getElem?_cons_succ, List.set_cons_zero, List.set_cons_succ, Nat.add_sub_cancel_left, Nat.sub_self, Nat.add_zero, Nat.zero_add, Nat.le_add_right, Nat.le_refl, true_and, and_true, va_rf, zok, Nat.add_left_cancel_iff, Nat.add_eq_left, Nat.left_eq_add, eq_self, if_true, if_false, not_false_eq_true, not_true_eq_false, false_implies, true_implies, Nat.reduceEqDiff, Nat.reduceAdd, Nat.reduceLT, Nat.reduceLeDiff, reduceIte, zM0, e_up, g1, x1', N0, N5, in1, cl1, B_X6_readRow_96]
      refine ⟨Or.inr trivial, hP _ ⟨va1, u_eq, hva1⟩ ⟨⟨r0, (u_ne (by omega)).trans ((u_ne (by omega)).trans ((hf1 _ (by omega)).trans r1)), hr0, hr1⟩, ⟨s0, (u_ne (by omega)).trans ((u_ne (by omega)).trans ((hf1 _ (by omega)).trans s1)), hs0⟩, ⟨l0, (u_ne (by omega)).trans ((u_ne (by omega)).trans ((hf1 _ (by omega)).trans l1)), hl0, hl0'⟩, ⟨w0, (u_ne (by omega)).trans ((u_ne (by omega)).trans ((hf1 _ (by omega)).trans w1)), hw0, hw0'⟩, ⟨upd x0 1 (nI k.2.2.2), (u_ne (by omega)).trans u_eq, by show x0 0 = _; exact hx0, rfl⟩⟩ (fun j h1 h2 => (u_ne h1).trans ((u_ne (by omega)).trans (hf1 j h1)))⟩
    · rw [if_neg q1] at hP
      refine ⟨tr, len, 1, 20, tx, _, se, -9, k, rfl, ⟨_, e0, hva0⟩, hMt, o1, by omega, by omega, by omega, Or.inr (Or.inl ⟨rfl, by simpa using q1, fun F1 v1 hq1 hf1 => ?_⟩)⟩
      obtain ⟨va1, g1, hva1⟩ := id hq1
      have x1' := (hf1 165 (by omega)).trans x1
      simp -implicitDefEqProofs only [e_cut, e_iload, e_aload, e_istore, e_astore, e_iinc, e_const, e_lconst, e_bin, e_bin0, e_un, e_ladd, e_dupi, e_dupr, e_dup2, e_pop, e_sw, e_sw0, e_sw1, e_get, e_put, e_ald, e_ast, e_aald, e_aast, e_copy, e_new, e_newa, e_anewa, e_min, e_abs, e_oinit, e_callI, e_callV, e_callS, e_iret, e_zret, e_lret, e_vret, e_tl1, e_tl0, e_tl2, e_tl3, z10, Bool.false_eq_true, e_argi, e_argr, e_argn, zld_c, zst_n, zst_c, zpick_n, zpick_c, List.drop_succ_cons, List.drop_zero, List.take_succ_cons, List.take_zero, List.length_cons, List.length_nil, List.reverse_cons, List.reverse_nil, List.nil_append, List.cons_append, List.append_nil, List.getElem?_cons_zero, List.getElem?_cons_succ, List.set_cons_zero, List.set_cons_succ, Nat.add_sub_cancel_left, Nat.sub_self, Nat.add_zero, Nat.zero_add, Nat.le_add_right, Nat.le_refl, true_and, and_true, va_rf, zok, Nat.add_left_cancel_iff, Nat.add_eq_left, Nat.left_eq_add, eq_self, if_true, if_false, not_false_eq_true, not_true_eq_false, false_implies, true_implies, Nat.reduceEqDiff, Nat.reduceAdd, Nat.reduceLT, Nat.reduceLeDiff, reduceIte, zM0, e_up, g1, x1', N0, N5, in1, cl1, B_X6_readRow_96]
      refine ⟨Or.inr trivial, hP _ _ _ ⟨va1, u_eq, hva1⟩ ⟨⟨r0, (u_ne (by omega)).trans ((u_ne (by omega)).trans ((hf1 _ (by omega)).trans r1)), hr0⟩, ⟨s0, (u_ne (by omega)).trans ((u_ne (by omega)).trans ((hf1 _ (by omega)).trans s1))⟩, ⟨l0, (u_ne (by omega)).trans ((u_ne (by omega)).trans ((hf1 _ (by omega)).trans l1)), hl0⟩, ⟨w0, (u_ne (by omega)).trans ((u_ne (by omega)).trans ((hf1 _ (by omega)).trans w1)), hw0⟩, ⟨upd x0 1 v1, (u_ne (by omega)).trans u_eq, by show x0 0 = _; exact hx0⟩⟩ (fun j h1 h2 => (u_ne h1).trans ((u_ne (by omega)).trans (hf1 j h1)))⟩
set_option maxRecDepth 20000 in
theorem f_X6_readRow_26 : Cond.fieldLink RX6 26 (TX6 7).1 (TX6 7).2.1 (TX6 7).2.2.1 ∈ wsX6_readRow := by decide +kernel
set_option maxRecDepth 20000 in
theorem k_X6_readRow_6 : ∀ w ∈ u_ws RX6 TX6 21, w ∈ wsX6_readRow := fun _ h => List.mem_cons_of_mem _ (List.mem_append_right _ h)
set_option maxRecDepth 20000 in
theorem f_X6_readRow_88 : Cond.fieldLink RX6 88 (TX6 8).1 (TX6 8).2.1 (TX6 8).2.2.1 ∈ wsX6_readRow := by decide +kernel
set_option maxRecDepth 20000 in
theorem f_X6_readRow_17 : Cond.fieldLink RX6 17 (TX6 4).1 (TX6 4).2.1 (TX6 4).2.2.1 ∈ wsX6_readRow := by decide +kernel
set_option maxRecDepth 20000 in
theorem f_X6_readRow_13 : Cond.fieldLink RX6 13 (TX6 3).1 (TX6 3).2.1 (TX6 3).2.2.1 ∈ wsX6_readRow := by decide +kernel
set_option maxRecDepth 20000 in
theorem f_X6_readRow_20 : Cond.fieldLink RX6 20 (TX6 5).1 (TX6 5).2.1 (TX6 5).2.2.1 ∈ wsX6_readRow := by decide +kernel
set_option maxRecDepth 20000 in
theorem f_X6_readRow_23 : Cond.fieldLink RX6 23 (TX6 6).1 (TX6 6).2.1 (TX6 6).2.2.1 ∈ wsX6_readRow := by decide +kernel
set_option maxRecDepth 100000 in
set_option maxHeartbeats 4000000 in
theorem S_X6_readRow_96 {p : Program} {e : Env} {s : State} {m : MethodId} {args : Array Value} {below : List Frame} {meth : Method} {c : Code} {D : va_G} {cy : zY} {b n0 : Nat} {P : zPo} (la : Launch) (X : zX p la e (rm_X6_readRow) s m args below meth c 2 D cy b n0 cX6_readRow wsX6_readRow RX6) (hr : meth.sig.returnType = none) (h_X6_number : zMet la yX6_number wsX6_number rm_X6_number 0 0 sp_X6_number) : zS p la e (rm_X6_readRow) s m args below meth c (MQ below (zQ D b (n0 + 0) P) args s 0 0 (fun q => b ≤ q)) 2 D b n0 96 (B_X6_readRow_96 b n0 cy P (zAt p la e (rm_X6_readRow) s m args below meth c (MQ below (zQ D b (n0 + 0) P) args s 0 0 (fun q => b ≤ q)) 2 D b n0)) := by
  unfold B_X6_readRow_96
  exact (s_vret X dX6_readRow_96 hr)
set_option maxRecDepth 100000 in
set_option maxHeartbeats 4000000 in
theorem S_X6_readRow_0 {p : Program} {e : Env} {s : State} {m : MethodId} {args : Array Value} {below : List Frame} {meth : Method} {c : Code} {D : va_G} {cy : zY} {b n0 : Nat} {P : zPo} (la : Launch) (X : zX p la e (rm_X6_readRow) s m args below meth c 2 D cy b n0 cX6_readRow wsX6_readRow RX6) (hr : meth.sig.returnType = none) (h_X6_number : zMet la yX6_number wsX6_number rm_X6_number 0 0 sp_X6_number) : zS p la e (rm_X6_readRow) s m args below meth c (MQ below (zQ D b (n0 + 0) P) args s 0 0 (fun q => b ≤ q)) 2 D b n0 0 (B_X6_readRow_0 b n0 cy P (zAt p la e (rm_X6_readRow) s m args below meth c (MQ below (zQ D b (n0 + 0) P) args s 0 0 (fun q => b ≤ q)) 2 D b n0)) := by
  unfold B_X6_readRow_0
  exact (s_iload_n X dX6_readRow_0 rfl (s_bipush X dX6_readRow_1 (by decide) (s_icmp_ne X dX6_readRow_3 (by decide) (s_aload_n X dX6_readRow_78 rfl (s_get X dX6_readRow_79 rfl k_X6_readRow_6 (by decide) f_X6_readRow_26 (s_iconst X dX6_readRow_82 (by decide) (s_aload_n X dX6_readRow_83 rfl (s_iconst X dX6_readRow_84 (by decide) (s_bipush X dX6_readRow_85 (by decide) (s_callV X h_X6_number dX6_readRow_87 rfl gX6_readRow_X6_number rfl rfl rfl (by decide +kernel) ⟨by decide, by decide⟩ (s_iast X dX6_readRow_90 (s_aload_n X dX6_readRow_91 rfl (s_iconst X dX6_readRow_92 (by decide) (s_put X dX6_readRow_93 rfl k_X6_readRow_6 tyX6_ok nmX6 (by decide) f_X6_readRow_88 rfl (tyX6_ok 8 (by decide)) zok_bool (S_X6_readRow_96 la X hr h_X6_number)))))))))))) (s_aload_n X dX6_readRow_6 rfl (s_get X dX6_readRow_7 rfl k_X6_readRow_6 (by decide) f_X6_readRow_17 (s_aload_n X dX6_readRow_10 rfl (s_get X dX6_readRow_11 rfl k_X6_readRow_6 (by decide) f_X6_readRow_13 (s_iconst X dX6_readRow_14 (by decide) (s_iald X dX6_readRow_15 (s_aload_n X dX6_readRow_16 rfl (s_iconst X dX6_readRow_17 (by decide) (s_bipush X dX6_readRow_18 (by decide) (s_callV X h_X6_number dX6_readRow_20 rfl gX6_readRow_X6_number rfl rfl rfl (by decide +kernel) ⟨by decide, by decide⟩ (s_iast X dX6_readRow_23 (s_aload_n X dX6_readRow_24 rfl (s_get X dX6_readRow_25 rfl k_X6_readRow_6 (by decide) f_X6_readRow_20 (s_bipush X dX6_readRow_28 (by decide) (s_aload_n X dX6_readRow_30 rfl (s_get X dX6_readRow_31 rfl k_X6_readRow_6 (by decide) f_X6_readRow_13 (s_iconst X dX6_readRow_34 (by decide) (s_iald X dX6_readRow_35 (s_iadd X dX6_readRow_36 (s_aload_n X dX6_readRow_37 rfl (s_iconst X dX6_readRow_38 (by decide) (s_bipush X dX6_readRow_39 (by decide) (s_callV X h_X6_number dX6_readRow_41 rfl gX6_readRow_X6_number rfl rfl rfl (by decide +kernel) ⟨by decide, by decide⟩ (s_iast X dX6_readRow_44 (s_aload_n X dX6_readRow_45 rfl (s_get X dX6_readRow_46 rfl k_X6_readRow_6 (by decide) f_X6_readRow_23 (s_bipush X dX6_readRow_49 (by decide) (s_aload_n X dX6_readRow_51 rfl (s_get X dX6_readRow_52 rfl k_X6_readRow_6 (by decide) f_X6_readRow_13 (s_iconst X dX6_readRow_55 (by decide) (s_iald X dX6_readRow_56 (s_iadd X dX6_readRow_57 (s_aload_n X dX6_readRow_58 rfl (s_iconst X dX6_readRow_59 (by decide) (s_iconst X dX6_readRow_60 (by decide) (s_callV X h_X6_number dX6_readRow_61 rfl gX6_readRow_X6_number rfl rfl rfl (by decide +kernel) ⟨by decide, by decide⟩ (s_iast X dX6_readRow_64 (s_aload_n X dX6_readRow_65 rfl (s_get X dX6_readRow_66 rfl k_X6_readRow_6 (by decide) f_X6_readRow_13 (s_iconst X dX6_readRow_69 (by decide) (s_dup2 X dX6_readRow_70 (s_iald X dX6_readRow_71 (s_iconst X dX6_readRow_72 (by decide) (s_iadd X dX6_readRow_73 (s_iast X dX6_readRow_74 (s_goto X dX6_readRow_75 (by decide) (S_X6_readRow_96 la X hr h_X6_number))))))))))))))))))))))))))))))))))))))))))))))))))
theorem w_X6_readRow (la : Launch) (h_X6_number : zMet la yX6_number wsX6_number rm_X6_number 0 0 sp_X6_number) (sp : zSp) (vc : zVC_X6_readRow sp) : zMet la yX6_readRow wsX6_readRow (rm_X6_readRow) 0 0 sp :=
  z_of (cc := cX6_readRow) (maxL := 2) (ret := none) (by decide +kernel) rfl (fun p e s m args below meth c D cy b n as E P hsp X hr hin => by
    obtain ⟨h1, h2⟩ := vc b cy n as E P (zAt p la e (rm_X6_readRow) s m args below meth c (MQ below (zQ D b (n + 0) P) args s 0 0 (fun q => b ≤ q)) 2 D b n) hsp
    exact ⟨h1, S_X6_readRow_0 la X hr h_X6_number _ _ _ _ _ h2⟩)

theorem m_X6_readRow (la : Launch) : zMet la yX6_readRow wsX6_readRow rm_X6_readRow 0 0 sp_X6_readRow := w_X6_readRow la (m_X6_number la) _ vc_X6_readRow

