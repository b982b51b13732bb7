/-! the text is read -/
def zsk (ok : Nat → Bool) (tx : Nat → Nat) (len : Nat) : Nat → Nat → Nat
  | 0, q => q
  | d + 1, q => if q < len ∧ ok (tx q) = true then zsk ok tx len d (q + 1) else q
def zs (ok : Nat → Bool) (tx : Nat → Nat) (len q : Nat) : Nat := zsk ok tx len (len - q) q
theorem zs_go {ok : Nat → Bool} {tx : Nat → Nat} {len q : Nat} (h : q < len) (h2 : ok (tx q) = true) : zs ok tx len q = zs ok tx len (q + 1) := by
  unfold zs
  rw [show len - q = (len - (q + 1)) + 1 by omega]
  simp only [zsk]
  rw [if_pos ⟨h, h2⟩]
theorem zs_no {ok : Nat → Bool} {tx : Nat → Nat} {len q : Nat} (h : ¬ (q < len ∧ ok (tx q) = true)) : zs ok tx len q = q := by
  unfold zs
  cases len - q with
  | zero => rfl
  | succ d => simp only [zsk]; rw [if_neg h]
theorem zs_all {ok : Nat → Bool} {tx : Nat → Nat} {len : Nat} : ∀ (d q : Nat), len - q = d → q ≤ len → q ≤ zs ok tx len q ∧ zs ok tx len q ≤ len ∧ (∀ j, q ≤ j → j < zs ok tx len q → ok (tx j) = true) ∧ ¬ (zs ok tx len q < len ∧ ok (tx (zs ok tx len q)) = true) := by
  intro d
  induction d with
  | zero =>
    intro q hd hq
    have e : zs ok tx len q = q := zs_no (by omega)
    rw [e]
    exact ⟨Nat.le_refl _, hq, fun j a b => absurd b (by omega), by omega⟩
  | succ d ih =>
    intro q hd hq
    by_cases h : q < len ∧ ok (tx q) = true
    · rw [zs_go h.1 h.2]
      obtain ⟨h1, h2, h3, h4⟩ := ih (q + 1) (by omega) (by omega)
      refine ⟨by omega, h2, fun j a b => ?_, h4⟩
      by_cases e : j = q
      · rw [e]; exact h.2
      · exact h3 j (by omega) b
    · rw [zs_no h]
      exact ⟨Nat.le_refl _, hq, fun j a b => absurd b (by omega), h⟩
def zokr (lo hi c : Nat) : Bool := decide (lo ≤ c) && decide (c ≤ hi)
/-- the number that stands from s to e, 100 at most -/
def zval (tx : Nat → Nat) (s : Nat) : Nat → Nat
  | 0 => 0
  | k + 1 => min (zval tx s k * 10 + (tx (s + k) - 48)) 100
theorem zval_le {tx : Nat → Nat} {s k : Nat} : zval tx s k ≤ 100 := by
  cases k with
  | zero => exact Nat.zero_le _
  | succ k => exact Nat.min_le_right _ _
/-- a TOKEN: where it ends, its sort, where it starts, its value -/
abbrev zTk : Type := Nat × Nat × Nat × Nat
def ztk (len : Nat) (tx : Nat → Nat) (q : Nat) : zTk :=
  let s := zs (zokr 32 32) tx len q
  if s < len then (
    if zokr 97 122 (tx s) = true then (let e := zs (zokr 97 122) tx len s; (e, 1, s, if e - s = 1 then tx s else 0))
    else if zokr 48 57 (tx s) = true then (let e := zs (zokr 48 57) tx len s; (e, if (tx s = 48 ∧ 1 < e - s) ∨ 99 < zval tx s (e - s) then 4 else 2, s, zval tx s (e - s)))
    else (s + 1, if tx s = 59 then 3 else 4, s, 0))
  else (s, 0, s, 0)
theorem ztk_b {len q : Nat} {tx : Nat → Nat} (hq : q ≤ len) (ht : ∀ j, j < len → tx j < 256) : q ≤ (ztk len tx q).1 ∧ (ztk len tx q).1 ≤ len ∧ (ztk len tx q).2.1 ≤ 4 ∧ (ztk len tx q).2.2.1 ≤ len ∧ (ztk len tx q).2.2.2 < 256 ∧ ((ztk len tx q).2.1 ≠ 0 → q < (ztk len tx q).1) := by
  obtain ⟨h1, h2, -, -⟩ := zs_all (ok := zokr 32 32) (tx := tx) (len := len) (len - q) q rfl hq
  unfold ztk
  generalize hs : zs (zokr 32 32) tx len q = s at *
  simp only
  by_cases c1 : s < len
  · simp only [c1, if_true]
    by_cases c2 : zokr 97 122 (tx s) = true
    · simp only [c2, if_true]
      obtain ⟨g1, g2, -, g4⟩ := zs_all (ok := zokr 97 122) (tx := tx) (len := len) (len - s) s rfl h2
      have g5 := zs_go (ok := zokr 97 122) c1 c2
      obtain ⟨g6, -⟩ := zs_all (ok := zokr 97 122) (tx := tx) (len := len) (len - (s + 1)) (s + 1) rfl (by omega)
      refine ⟨by omega, by omega, by omega, by omega, ?_, fun _ => by omega⟩
      have := ht s c1
      split <;> omega
    · simp only [c2]
      by_cases c3 : zokr 48 57 (tx s) = true
      · simp only [c3, if_true]
        obtain ⟨g1, g2, -, g4⟩ := zs_all (ok := zokr 48 57) (tx := tx) (len := len) (len - s) s rfl h2
        have g5 := zs_go (ok := zokr 48 57) c1 c3
        obtain ⟨g6, -⟩ := zs_all (ok := zokr 48 57) (tx := tx) (len := len) (len - (s + 1)) (s + 1) rfl (by omega)
        have := zval_le (tx := tx) (s := s) (k := zs (zokr 48 57) tx len s - s)
        refine ⟨by simp; omega, by simp; omega, ?_, by simp; omega, by simp; omega, fun _ => by simp; omega⟩
        simp only [Bool.false_eq_true, if_false]
        split <;> omega
      · simp only [c3]
        refine ⟨by simp; omega, by simp; omega, ?_, by simp; omega, by simp, fun _ => by simp; omega⟩
        simp only [Bool.false_eq_true, if_false]
        split <;> omega
  · simp only [c1, if_false]
    exact ⟨h1, h2, by omega, h2, by omega, fun h => absurd rfl h⟩
/-- the reader: told so far -/
abbrev zTd : Type := Nat × (Nat → Nat) × (Nat → Nat) × (Nat → Nat) × Nat × Bool × Nat
def znum (lo hi : Nat) (k : zTk) : Bool := decide (k.2.1 = 2) && zokr lo hi k.2.2.2
/-- seats, looks, laws of the next rider -/
def zrid (len : Nat) (tx : Nat → Nat) (k : zTk) : Nat ⊕ (zTk × Nat × Nat × Nat) :=
  let k1 := ztk len tx k.1; let k2 := ztk len tx k1.1; let k3 := ztk len tx k2.1
  if znum 0 9 k1 = true then (if znum 0 9 k2 = true then (if znum 0 2 k3 = true then .inr (k3, k1.2.2.2, k2.2.2.2, k3.2.2.2) else .inl k3.2.2.1) else .inl k2.2.2.1) else .inl k1.2.2.1
def zend (len : Nat) (tx : Nat → Nat) (k : zTk) (d : zTd) : Nat ⊕ (zTk × zTd) :=
  let k1 := ztk len tx k.1
  if k1.2.1 = 3 then .inr (ztk len tx k1.1, d) else .inl k1.2.2.1
def zitem (len : Nat) (tx : Nat → Nat) (k : zTk) : zTd → Nat ⊕ (zTk × zTd) := fun (n, seat, lo, la, line, lt, items) =>
  if k.2.1 = 1 ∧ k.2.2.2 = 114 ∧ n < 6 then (match zrid len tx k with
    | .inl s => .inl s
    | .inr (k3, a, b, c) => zend len tx k3 (n + 1, zup seat n a, zup lo n b, zup la n c, line, lt, items + 1))
  else if k.2.1 = 1 ∧ k.2.2.2 = 108 ∧ lt = false then (let k1 := ztk len tx k.1; if znum 1 20 k1 = true then zend len tx k1 (n, seat, lo, la, k1.2.2.2, true, items + 1) else .inl k1.2.2.1)
  else .inl k.2.2.1
def zread (len : Nat) (tx : Nat → Nat) : Nat → zTk → zTd → Nat ⊕ zTd
  | 0, _, d => .inr d
  | f + 1, k, d => if k.2.1 = 0 then .inr d else match zitem len tx k d with
    | .inl s => .inl s
    | .inr (k', d') => zread len tx f k' d'
def zparse (len : Nat) (tx : Nat → Nat) : Nat ⊕ zTd := zread len tx 120 (ztk len tx 0) (0, fun _ => 0, fun _ => 0, fun _ => 0, 9, false, 0)
/-! the class's text -/
def zTc (b len q : Nat) (s3 s4 s5 s6 : Int32) : va_E := .inr (3, [.int (nI len), .ref (b + 2), .int (nI q), .int s3, .int s4, .int s5, .int s6])
def zTb (cy : zY) (E : zE) (len : Nat) (tx : Nat → Nat) : Prop := len ≤ 120 ∧ ∃ f : Nat → Int32, E 2 = .inl (cy 1, 120, .inl f) ∧ ∀ j, j < len → tx j < 256 ∧ f j = nI (tx j)
theorem zTb.congr {cy : zY} {E E' : zE} {len : Nat} {tx : Nat → Nat} (h : zTb cy E len tx) (hE : E' 2 = E 2) : zTb cy E' len tx := by
  obtain ⟨h0, f, h1, h2⟩ := h
  exact ⟨h0, f, by rw [hE]; exact h1, h2⟩
def sp_X3_passBytes : zSp := fun b cy as N E P => ∃ (len q lo hi : Nat) (tx : Nat → Nat) (s3 s4 s5 s6 : Int32), as = [.ref (b + 1), .int (nI lo), .int (nI hi)] ∧ E 1 = zTc b len q s3 s4 s5 s6 ∧ zTb cy E len tx ∧ q ≤ len ∧ lo < 256 ∧ hi < 256 ∧ 3 ≤ N ∧ (∀ E', E' 1 = zTc b len (zs (zokr lo hi) tx len q) s3 s4 s5 s6 → (∀ j, j ≠ 1 → E' j = E j) → P none E')
abbrev rm_X3_passBytes : Room := { frames := 1, cells := 0, slots := 0, locals := 40 }
def B_X3_passBytes_50 (b n0 : Nat) (cy : zY) (P : zPo) (A : Nat → zC) : zC :=
  z_vret 0 0 P
def B_X3_passBytes_0 (b n0 : Nat) (cy : zY) (P : zPo) (A : Nat → zC) : zC :=
  z_aload 0 (z_get b n0 3 2 (z_aload 0 (z_get b n0 3 0 (z_icmp (fun x y => y ≤ x) (B_X3_passBytes_50 b n0 cy P A) (z_aload 0 (z_get b n0 3 1 (z_aload 0 (z_get b n0 3 2 (z_ald b n0 (cy 1) (z_iload 1 (z_icmp (fun x y => x < y) (B_X3_passBytes_50 b n0 cy P A) (z_aload 0 (z_get b n0 3 1 (z_aload 0 (z_get b n0 3 2 (z_ald b n0 (cy 1) (z_iload 2 (z_icmp (fun x y => y < x) (B_X3_passBytes_50 b n0 cy P A) (z_aload 0 (z_dup (z_get b n0 3 2 (z_const (1) (z_bin (fun x y => x + y) (z_put b n0 3 2 0 (z_cut [0, 1, 2] (A 0))))))))))))))))))))))))))
def zVC_X3_passBytes (sp : zSp) : Prop := ∀ (b : Nat) (cy : zY) (n : Nat) (as : List Value) (E : zE) (P : zPo) (A : Nat → zC), (∀ l st k u E, B_X3_passBytes_0 b n cy P A l st k u E → A 0 l st k u E) → sp b cy as n E P → zgood as 3 ∧ B_X3_passBytes_0 b n cy P A (lv_args 0 as) [] 0 0 E

set_option maxRecDepth 100000 in
set_option maxHeartbeats 4000000 in
theorem vc_X3_passBytes : zVC_X3_passBytes sp_X3_passBytes := by
  intro b cy N as E P A hA hsp
  obtain ⟨len, q, lo, hi, tx, s3, s4, s5, s6, rfl, h1, ⟨hl, f, h2, hf⟩, hq, hlo, hhi, hN, hP⟩ := hsp
  refine ⟨⟨Nat.le_of_ble_eq_true rfl, zg1 rfl (zg1 rfl (zg1 rfl (zg0)))⟩, ?_⟩
  have N1 : 1 < N := by omega
  have N2 : 2 < N := by omega
  have loop : ∀ (d k : Nat) (E1 : zE), d + k = len → zs (zokr lo hi) tx len k = zs (zokr lo hi) tx len q → E1 1 = zTc b len k s3 s4 s5 s6 → (∀ j, j ≠ 1 → E1 j = E j) → B_X3_passBytes_0 b N cy P A [(0, .ref (b + 1)), (1, .int (nI lo)), (2, .int (nI hi))] [] 0 0 E1 := by
    intro d
    induction d with
    | zero =>
      intro k E1 hd hz g1 gk
      obtain rfl : k = len := by omega
      have cle : nI k ≤ nI k := nI_le (Nat.le_refl _) (by omega)
      simp only [zTc] at g1
      simp only [B_X3_passBytes_0, B_X3_passBytes_50, e_cut, e_iload, e_aload, e_istore, e_astore, e_iinc, e_const, e_lconst, e_bin, e_bin0, e_un, e_ladd, e_dupi, e_dupr, e_dup2, e_pop, e_if, e_icmp, e_sw, e_sw0, e_sw1, e_get, e_put, e_ald, e_ast, e_aald, e_aast, e_copy, e_new, e_newa, e_anewa, e_min, e_abs, e_oinit, e_callI, e_callV, e_callS, e_iret, e_zret, e_lret, e_vret, e_tl1, e_tl0, e_tl2, e_tl3, z10, Bool.false_eq_true, e_argi, e_argr, e_argn, zld_c, zst_n, zst_c, zpick_n, zpick_c, List.drop_succ_cons, List.drop_zero, List.take_succ_cons, List.take_zero, List.length_cons, List.length_nil, List.reverse_cons, List.reverse_nil, List.nil_append, List.cons_append, List.append_nil, List.getElem?_cons_zero, List.getElem?_cons_succ, List.set_cons_zero, List.set_cons_succ, Nat.add_sub_cancel_left, Nat.sub_self, Nat.add_zero, Nat.zero_add, Nat.le_add_right, Nat.le_refl, true_and, and_true, va_rf, zok, Nat.add_left_cancel_iff, Nat.add_eq_left, Nat.left_eq_add, eq_self, if_true, if_false, not_false_eq_true, not_true_eq_false, false_implies, true_implies, Nat.reduceEqDiff, Nat.reduceAdd, Nat.reduceLT, Nat.reduceLeDiff, reduceIte, g1, N1, cle]
      exact hP E1 (by rw [← hz, zs_no (by omega)]; exact g1) gk
    | succ d ih =>
      intro k E1 hd hz g1 gk
      have hk : k < len := by omega
      have g2 : E1 2 = .inl (cy 1, 120, .inl f) := by rw [gk 2 (by omega)]; exact h2
      have cle : ¬ nI len ≤ nI k := nI_ge hk (by omega)
      have hin : vp_in (nI k) 120 := vp_in_nI (by omega) (by omega)
      have hcl : (nI k).toNatClampNeg = k := nI_clamp (by omega)
      have ht := (hf k hk).1
      simp only [zTc] at g1
      simp only [B_X3_passBytes_0, B_X3_passBytes_50, e_cut, e_iload, e_aload, e_istore, e_astore, e_iinc, e_const, e_lconst, e_bin, e_bin0, e_un, e_ladd, e_dupi, e_dupr, e_dup2, e_pop, e_if, e_icmp, e_sw, e_sw0, e_sw1, e_get, e_put, e_ald, e_ast, e_aald, e_aast, e_copy, e_new, e_newa, e_anewa, e_min, e_abs, e_oinit, e_callI, e_callV, e_callS, e_iret, e_zret, e_lret, e_vret, e_tl1, e_tl0, e_tl2, e_tl3, z10, Bool.false_eq_true, e_argi, e_argr, e_argn, zld_c, zst_n, zst_c, zpick_n, zpick_c, List.drop_succ_cons, List.drop_zero, List.take_succ_cons, List.take_zero, List.length_cons, List.length_nil, List.reverse_cons, List.reverse_nil, List.nil_append, List.cons_append, List.append_nil, List.getElem?_cons_zero, List.getElem?_cons_succ, List.set_cons_zero, List.set_cons_succ, Nat.add_sub_cancel_left, Nat.sub_self, Nat.add_zero, Nat.zero_add, Nat.le_add_right, Nat.le_refl, true_and, and_true, va_rf, zok, Nat.add_left_cancel_iff, Nat.add_eq_left, Nat.left_eq_add, eq_self, if_true, if_false, not_false_eq_true, not_true_eq_false, false_implies, true_implies, Nat.reduceEqDiff, Nat.reduceAdd, Nat.reduceLT, Nat.reduceLeDiff, reduceIte, g1, g2, N1, N2, cle, hin, hcl, (hf k hk).2, nI_ltI (show tx k < 2 ^ 31 by omega) (show lo < 2 ^ 31 by omega), nI_ltI (show hi < 2 ^ 31 by omega) (show tx k < 2 ^ 31 by omega), nI_1]
      refine ⟨fun c1 => ?_, fun c1 => ⟨fun c2 => ?_, fun c2 => ?_⟩⟩
      · exact hP E1 (by rw [← hz, zs_no (by simp [zokr]; omega)]; exact g1) gk
      · exact hP E1 (by rw [← hz, zs_no (by simp [zokr]; omega)]; exact g1) gk
      · refine hA _ _ _ _ _ (ih (k + 1) _ (by omega) (by rw [← hz]; exact (zs_go hk (by simp [zokr]; omega)).symm) (by simp [e_up, zTc]) (fun j hj => by simp only [e_up]; rw [if_neg hj]; exact gk j hj))
  exact loop (len - q) q E (by omega) rfl h1 (fun _ _ => rfl)
set_option maxRecDepth 20000 in
theorem f_X3_passBytes_19 : Cond.fieldLink RX3 19 (TX3 2).1 (TX3 2).2.1 (TX3 2).2.2.1 ∈ wsX3_passBytes := by decide +kernel
set_option maxRecDepth 20000 in
theorem k_X3_passBytes_3 : ∀ w ∈ u_ws RX3 TX3 7, w ∈ wsX3_passBytes := fun _ h => List.mem_cons_of_mem _ (List.mem_append_right _ h)
set_option maxRecDepth 20000 in
theorem f_X3_passBytes_15 : Cond.fieldLink RX3 15 (TX3 0).1 (TX3 0).2.1 (TX3 0).2.2.1 ∈ wsX3_passBytes := by decide +kernel
set_option maxRecDepth 20000 in
theorem f_X3_passBytes_9 : Cond.fieldLink RX3 9 (TX3 1).1 (TX3 1).2.1 (TX3 1).2.2.1 ∈ wsX3_passBytes := by decide +kernel
set_option maxRecDepth 100000 in
set_option maxHeartbeats 4000000 in
theorem S_X3_passBytes_50 {p : Program} {e : Env} {s : State} {m : MethodId} {args : Array Value} {below : List Frame} {meth : Method} {c : Code} {D : va_G} {cy : zY} {b n0 : Nat} {P : zPo} (la : Launch) (X : zX p la e (rm_X3_passBytes) s m args below meth c 3 D cy b n0 cX3_passBytes wsX3_passBytes RX3) (hr : meth.sig.returnType = none) : zS p la e (rm_X3_passBytes) s m args below meth c (MQ below (zQ D b (n0 + 0) P) args s 0 0 (fun q => b ≤ q)) 3 D b n0 50 (B_X3_passBytes_50 b n0 cy P (zAt p la e (rm_X3_passBytes) s m args below meth c (MQ below (zQ D b (n0 + 0) P) args s 0 0 (fun q => b ≤ q)) 3 D b n0)) := by
  unfold B_X3_passBytes_50
  exact (s_vret X dX3_passBytes_50 hr)
set_option maxRecDepth 100000 in
set_option maxHeartbeats 4000000 in
theorem S_X3_passBytes_0 {p : Program} {e : Env} {s : State} {m : MethodId} {args : Array Value} {below : List Frame} {meth : Method} {c : Code} {D : va_G} {cy : zY} {b n0 : Nat} {P : zPo} (la : Launch) (X : zX p la e (rm_X3_passBytes) s m args below meth c 3 D cy b n0 cX3_passBytes wsX3_passBytes RX3) (hr : meth.sig.returnType = none) : zS p la e (rm_X3_passBytes) s m args below meth c (MQ below (zQ D b (n0 + 0) P) args s 0 0 (fun q => b ≤ q)) 3 D b n0 0 (B_X3_passBytes_0 b n0 cy P (zAt p la e (rm_X3_passBytes) s m args below meth c (MQ below (zQ D b (n0 + 0) P) args s 0 0 (fun q => b ≤ q)) 3 D b n0)) := by
  unfold B_X3_passBytes_0
  exact (s_aload_n X dX3_passBytes_0 rfl (s_get X dX3_passBytes_1 rfl k_X3_passBytes_3 (by decide) f_X3_passBytes_19 (s_aload_n X dX3_passBytes_4 rfl (s_get X dX3_passBytes_5 rfl k_X3_passBytes_3 (by decide) f_X3_passBytes_15 (s_icmp_ge X dX3_passBytes_8 (by decide) (S_X3_passBytes_50 la X hr) (s_aload_n X dX3_passBytes_11 rfl (s_get X dX3_passBytes_12 rfl k_X3_passBytes_3 (by decide) f_X3_passBytes_9 (s_aload_n X dX3_passBytes_15 rfl (s_get X dX3_passBytes_16 rfl k_X3_passBytes_3 (by decide) f_X3_passBytes_19 (s_iald X dX3_passBytes_19 (s_iload_n X dX3_passBytes_20 rfl (s_icmp_lt X dX3_passBytes_21 (by decide) (S_X3_passBytes_50 la X hr) (s_aload_n X dX3_passBytes_24 rfl (s_get X dX3_passBytes_25 rfl k_X3_passBytes_3 (by decide) f_X3_passBytes_9 (s_aload_n X dX3_passBytes_28 rfl (s_get X dX3_passBytes_29 rfl k_X3_passBytes_3 (by decide) f_X3_passBytes_19 (s_iald X dX3_passBytes_32 (s_iload_n X dX3_passBytes_33 rfl (s_icmp_gt X dX3_passBytes_34 (by decide) (S_X3_passBytes_50 la X hr) (s_aload_n X dX3_passBytes_37 rfl (s_dup X dX3_passBytes_38 (s_get X dX3_passBytes_39 rfl k_X3_passBytes_3 (by decide) f_X3_passBytes_19 (s_iconst X dX3_passBytes_42 (by decide) (s_iadd X dX3_passBytes_43 (s_put X dX3_passBytes_44 rfl k_X3_passBytes_3 tyX3_ok nmX3 (by decide) f_X3_passBytes_19 rfl (tyX3_ok 2 (by decide)) zok_int (s_goto X dX3_passBytes_47 (by decide) (s_cut (by decide) zS_at)))))))))))))))))))))))))))
theorem w_X3_passBytes (la : Launch) (sp : zSp) (vc : zVC_X3_passBytes sp) : zMet la yX3_passBytes wsX3_passBytes (rm_X3_passBytes) 0 0 sp :=
  z_of (cc := cX3_passBytes) (maxL := 3) (ret := none) (by decide +kernel) rfl (fun p e s m args below meth c D cy b n as E P hsp X hr hin => by
    obtain ⟨h1, h2⟩ := vc b cy n as E P (zAt p la e (rm_X3_passBytes) s m args below meth c (MQ below (zQ D b (n + 0) P) args s 0 0 (fun q => b ≤ q)) 3 D b n) (fun _ _ _ _ _ q => S_X3_passBytes_0 la X hr _ _ _ _ _ q) hsp
    exact ⟨h1, S_X3_passBytes_0 la X hr _ _ _ _ _ h2⟩)

theorem m_X3_passBytes (la : Launch) : zMet la yX3_passBytes wsX3_passBytes rm_X3_passBytes 0 0 sp_X3_passBytes := w_X3_passBytes la _ vc_X3_passBytes
def sp_X3_takeLetters : zSp := fun b cy as N E P => ∃ (len q st c : Nat) (s3 s5 s6 : Int32), as = [.ref (b + 1), .int (nI c)] ∧ E 1 = zTc b len q s3 (nI st) s5 s6 ∧ q ≤ 120 ∧ st ≤ q ∧ 3 ≤ N ∧ (∀ E', E' 1 = zTc b len q 1 (nI st) (nI (if q - st = 1 then c else 0)) s6 → (∀ j, j ≠ 1 → E' j = E j) → P none E')
abbrev rm_X3_takeLetters : Room := { frames := 1, cells := 0, slots := 0, locals := 40 }
def B_X3_takeLetters_24 (b n0 : Nat) (cy : zY) (P : zPo) (A : Nat → zC) : zC :=
  z_put b n0 3 5 0 (z_vret 0 0 P)
def B_X3_takeLetters_0 (b n0 : Nat) (cy : zY) (P : zPo) (A : Nat → zC) : zC :=
  z_aload 0 (z_const (1) (z_put b n0 3 3 0 (z_aload 0 (z_aload 0 (z_get b n0 3 2 (z_aload 0 (z_get b n0 3 4 (z_bin (fun x y => x - y) (z_const (1) (z_icmp (fun x y => x = y) (z_iload 1 (B_X3_takeLetters_24 b n0 cy P A)) (z_const (0) (B_X3_takeLetters_24 b n0 cy P A))))))))))))
def zVC_X3_takeLetters (sp : zSp) : Prop := ∀ (b : Nat) (cy : zY) (n : Nat) (as : List Value) (E : zE) (P : zPo) (A : Nat → zC), sp b cy as n E P → zgood as 2 ∧ B_X3_takeLetters_0 b n cy P A (lv_args 0 as) [] 0 0 E

set_option maxRecDepth 100000 in
set_option maxHeartbeats 4000000 in
theorem vc_X3_takeLetters : zVC_X3_takeLetters sp_X3_takeLetters := by
  intro b cy N as E P A hsp
  obtain ⟨len, e, st, c, s3, s5, s6, rfl, h1, hq, hst, hN, hP⟩ := hsp
  refine ⟨⟨Nat.le_of_ble_eq_true rfl, zg1 rfl (zg1 rfl (zg0))⟩, ?_⟩
  have N1 : 1 < N := by omega
  simp only [zTc] at h1
  simp only [B_X3_takeLetters_0, B_X3_takeLetters_24, e_cut, e_iload, e_aload, e_istore, e_astore, e_iinc, e_const, e_lconst, e_bin, e_bin0, e_un, e_ladd, e_dupi, e_dupr, e_dup2, e_pop, e_if, e_icmp, e_sw, e_sw0, e_sw1, e_get, e_put, e_ald, e_ast, e_aald, e_aast, e_copy, e_new, e_newa, e_anewa, e_min, e_abs, e_oinit, e_callI, e_callV, e_callS, e_iret, e_zret, e_lret, e_vret, e_tl1, e_tl0, e_tl2, e_tl3, z10, Bool.false_eq_true, e_argi, e_argr, e_argn, zld_c, zst_n, zst_c, zpick_n, zpick_c, List.drop_succ_cons, List.drop_zero, List.take_succ_cons, List.take_zero, List.length_cons, List.length_nil, List.reverse_cons, List.reverse_nil, List.nil_append, List.cons_append, List.append_nil, List.getElem?_cons_zero, List.getElem?_cons_succ, List.set_cons_zero, List.set_cons_succ, Nat.add_sub_cancel_left, Nat.sub_self, Nat.add_zero, Nat.zero_add, Nat.le_add_right, Nat.le_refl, true_and, and_true, va_rf, zok, Nat.add_left_cancel_iff, Nat.add_eq_left, Nat.left_eq_add, eq_self, if_true, if_false, not_false_eq_true, not_true_eq_false, false_implies, true_implies, Nat.reduceEqDiff, Nat.reduceAdd, Nat.reduceLT, Nat.reduceLeDiff, reduceIte, h1, N1, e_up, List.set_cons_zero, pk_sub (show st ≤ e by omega), nI_1, nI_eq (show e - st < 2 ^ 31 by omega) (show 1 < 2 ^ 31 by omega)]
  have k1 : (1 : Int32) = nI 1 := rfl
  refine ⟨fun c1 => ?_, fun c1 => ?_⟩
  · rw [k1, nI_eq (by omega) (by omega)] at c1
    refine hP _ (by simp [e_up, zTc, c1]) (fun j hj => by simp only [e_up]; rw [if_neg hj, if_neg hj])
  · rw [k1, nI_eq (by omega) (by omega)] at c1
    refine hP _ (by simp [e_up, zTc, c1]; rfl) (fun j hj => by simp only [e_up]; rw [if_neg hj, if_neg hj])
set_option maxRecDepth 20000 in
theorem f_X3_takeLetters_44 : Cond.fieldLink RX3 44 (TX3 5).1 (TX3 5).2.1 (TX3 5).2.2.1 ∈ wsX3_takeLetters := by decide +kernel
set_option maxRecDepth 20000 in
theorem k_X3_takeLetters_3 : ∀ w ∈ u_ws RX3 TX3 7, w ∈ wsX3_takeLetters := fun _ h => List.mem_cons_of_mem _ (List.mem_append_right _ h)
set_option maxRecDepth 20000 in
theorem f_X3_takeLetters_34 : Cond.fieldLink RX3 34 (TX3 3).1 (TX3 3).2.1 (TX3 3).2.2.1 ∈ wsX3_takeLetters := by decide +kernel
set_option maxRecDepth 20000 in
theorem f_X3_takeLetters_19 : Cond.fieldLink RX3 19 (TX3 2).1 (TX3 2).2.1 (TX3 2).2.2.1 ∈ wsX3_takeLetters := by decide +kernel
set_option maxRecDepth 20000 in
theorem f_X3_takeLetters_41 : Cond.fieldLink RX3 41 (TX3 4).1 (TX3 4).2.1 (TX3 4).2.2.1 ∈ wsX3_takeLetters := by decide +kernel
set_option maxRecDepth 100000 in
set_option maxHeartbeats 4000000 in
theorem S_X3_takeLetters_24 {p : Program} {e : Env} {s : State} {m : MethodId} {args : Array Value} {below : List Frame} {meth : Method} {c : Code} {D : va_G} {cy : zY} {b n0 : Nat} {P : zPo} (la : Launch) (X : zX p la e (rm_X3_takeLetters) s m args below meth c 2 D cy b n0 cX3_takeLetters wsX3_takeLetters RX3) (hr : meth.sig.returnType = none) : zS p la e (rm_X3_takeLetters) s m args below meth c (MQ below (zQ D b (n0 + 0) P) args s 0 0 (fun q => b ≤ q)) 2 D b n0 24 (B_X3_takeLetters_24 b n0 cy P (zAt p la e (rm_X3_takeLetters) s m args below meth c (MQ below (zQ D b (n0 + 0) P) args s 0 0 (fun q => b ≤ q)) 2 D b n0)) := by
  unfold B_X3_takeLetters_24
  exact (s_put X dX3_takeLetters_24 rfl k_X3_takeLetters_3 tyX3_ok nmX3 (by decide) f_X3_takeLetters_44 rfl (tyX3_ok 5 (by decide)) zok_int (s_vret X dX3_takeLetters_27 hr))
set_option maxRecDepth 100000 in
set_option maxHeartbeats 4000000 in
theorem S_X3_takeLetters_0 {p : Program} {e : Env} {s : State} {m : MethodId} {args : Array Value} {below : List Frame} {meth : Method} {c : Code} {D : va_G} {cy : zY} {b n0 : Nat} {P : zPo} (la : Launch) (X : zX p la e (rm_X3_takeLetters) s m args below meth c 2 D cy b n0 cX3_takeLetters wsX3_takeLetters RX3) (hr : meth.sig.returnType = none) : zS p la e (rm_X3_takeLetters) s m args below meth c (MQ below (zQ D b (n0 + 0) P) args s 0 0 (fun q => b ≤ q)) 2 D b n0 0 (B_X3_takeLetters_0 b n0 cy P (zAt p la e (rm_X3_takeLetters) s m args below meth c (MQ below (zQ D b (n0 + 0) P) args s 0 0 (fun q => b ≤ q)) 2 D b n0)) := by
  unfold B_X3_takeLetters_0
  exact (s_aload_n X dX3_takeLetters_0 rfl (s_iconst X dX3_takeLetters_1 (by decide) (s_put X dX3_takeLetters_2 rfl k_X3_takeLetters_3 tyX3_ok nmX3 (by decide) f_X3_takeLetters_34 rfl (tyX3_ok 3 (by decide)) zok_int (s_aload_n X dX3_takeLetters_5 rfl (s_aload_n X dX3_takeLetters_6 rfl (s_get X dX3_takeLetters_7 rfl k_X3_takeLetters_3 (by decide) f_X3_takeLetters_19 (s_aload_n X dX3_takeLetters_10 rfl (s_get X dX3_takeLetters_11 rfl k_X3_takeLetters_3 (by decide) f_X3_takeLetters_41 (s_isub X dX3_takeLetters_14 (s_iconst X dX3_takeLetters_15 (by decide) (s_icmp_ne X dX3_takeLetters_16 (by decide) (s_iconst X dX3_takeLetters_23 (by decide) (S_X3_takeLetters_24 la X hr)) (s_iload_n X dX3_takeLetters_19 rfl (s_goto X dX3_takeLetters_20 (by decide) (S_X3_takeLetters_24 la X hr))))))))))))))
theorem w_X3_takeLetters (la : Launch) (sp : zSp) (vc : zVC_X3_takeLetters sp) : zMet la yX3_takeLetters wsX3_takeLetters (rm_X3_takeLetters) 0 0 sp :=
  z_of (cc := cX3_takeLetters) (maxL := 2) (ret := none) (by decide +kernel) rfl (fun p e s m args below meth c D cy b n as E P hsp X hr hin => by
    obtain ⟨h1, h2⟩ := vc b cy n as E P (zAt p la e (rm_X3_takeLetters) s m args below meth c (MQ below (zQ D b (n + 0) P) args s 0 0 (fun q => b ≤ q)) 2 D b n) hsp
    exact ⟨h1, S_X3_takeLetters_0 la X hr _ _ _ _ _ h2⟩)

theorem m_X3_takeLetters (la : Launch) : zMet la yX3_takeLetters wsX3_takeLetters rm_X3_takeLetters 0 0 sp_X3_takeLetters := w_X3_takeLetters la _ vc_X3_takeLetters
def sp_X3_takeNumber : zSp := fun b cy as N E P => ∃ (len st c : Nat) (tx : Nat → Nat) (s3 s6 : Int32), as = [.ref (b + 1), .int (nI c)] ∧ E 1 = zTc b len (zs (zokr 48 57) tx len st) s3 (nI st) 0 s6 ∧ zTb cy E len tx ∧ st ≤ len ∧ c < 256 ∧ 3 ≤ N ∧ (∀ E', E' 1 = zTc b len (zs (zokr 48 57) tx len st) (nI (if (c = 48 ∧ 1 < zs (zokr 48 57) tx len st - st) ∨ 99 < zval tx st (zs (zokr 48 57) tx len st - st) then 4 else 2)) (nI st) (nI (zval tx st (zs (zokr 48 57) tx len st - st))) s6 → (∀ j, j ≠ 1 → E' j = E j) → P none E')
abbrev rm_X3_takeNumber : Room := { frames := 1, cells := 0, slots := 0, locals := 40 }
def B_X3_takeNumber_89 (b n0 : Nat) (cy : zY) (P : zPo) (A : Nat → zC) : zC :=
  z_put b n0 3 3 0 (z_vret 0 0 P)
def B_X3_takeNumber_84 (b n0 : Nat) (cy : zY) (P : zPo) (A : Nat → zC) : zC :=
  z_const (4) (B_X3_takeNumber_89 b n0 cy P A)
def B_X3_takeNumber_30 (b n0 : Nat) (cy : zY) (P : zPo) (A : Nat → zC) : zC :=
  z_iload 3 (z_aload 0 (z_get b n0 3 2 (z_icmp (fun x y => y ≤ x) (z_aload 0 (z_iload 2 (z_if (fun x => x = 0) (z_aload 0 (z_get b n0 3 5 (z_const (99) (z_icmp (fun x y => x ≤ y) (z_const (2) (B_X3_takeNumber_89 b n0 cy P A)) (B_X3_takeNumber_84 b n0 cy P A))))) (B_X3_takeNumber_84 b n0 cy P A)))) (z_aload 0 (z_aload 0 (z_get b n0 3 5 (z_const (10) (z_bin (fun x y => x * y) (z_aload 0 (z_get b n0 3 1 (z_iload 3 (z_ald b n0 (cy 1) (z_bin (fun x y => x + y) (z_const (48) (z_bin (fun x y => x - y) (z_const (100) (z_min 0 0 (z_put b n0 3 5 0 (z_iinc 3 (1) (z_cut [0, 2, 3] (A 30)))))))))))))))))))))
def B_X3_takeNumber_24 (b n0 : Nat) (cy : zY) (P : zPo) (A : Nat → zC) : zC :=
  z_istore 2 (z_aload 0 (z_get b n0 3 4 (z_istore 3 (z_cut [0, 2, 3] (A 30)))))
def B_X3_takeNumber_23 (b n0 : Nat) (cy : zY) (P : zPo) (A : Nat → zC) : zC :=
  z_const (0) (B_X3_takeNumber_24 b n0 cy P A)
def B_X3_takeNumber_0 (b n0 : Nat) (cy : zY) (P : zPo) (A : Nat → zC) : zC :=
  z_iload 1 (z_const (48) (z_icmp (fun x y => x = y) (z_aload 0 (z_get b n0 3 2 (z_aload 0 (z_get b n0 3 4 (z_bin (fun x y => x - y) (z_const (1) (z_icmp (fun x y => x ≤ y) (B_X3_takeNumber_23 b n0 cy P A) (z_const (1) (B_X3_takeNumber_24 b n0 cy P A))))))))) (B_X3_takeNumber_23 b n0 cy P A)))
def zVC_X3_takeNumber (sp : zSp) : Prop := ∀ (b : Nat) (cy : zY) (n : Nat) (as : List Value) (E : zE) (P : zPo) (A : Nat → zC), (∀ l st k u E, B_X3_takeNumber_30 b n cy P A l st k u E → A 30 l st k u E) → sp b cy as n E P → zgood as 4 ∧ B_X3_takeNumber_0 b n cy P A (lv_args 0 as) [] 0 0 E

set_option maxRecDepth 100000 in
set_option maxHeartbeats 4000000 in
theorem vc_X3_takeNumber : zVC_X3_takeNumber sp_X3_takeNumber := by
  intro b cy N as E P A hA hsp
  obtain ⟨len, st, c, tx, s3, s6, rfl, h1, hTb, hst, hc, hN, hP⟩ := hsp
  refine ⟨⟨Nat.le_of_ble_eq_true rfl, zg1 rfl (zg1 rfl (zg0))⟩, ?_⟩
  have N1 : 1 < N := by omega
  have N2 : 2 < N := by omega
  have k1 : (1 : Int32) = nI 1 := rfl
  have k48 : (48 : Int32) = nI 48 := rfl
  have k10 : (10 : Int32) = nI 10 := rfl
  have k100 : (100 : Int32) = nI 100 := rfl
  have k99 : (99 : Int32) = nI 99 := rfl
  obtain ⟨z1, z2, z3, -⟩ := zs_all (ok := zokr 48 57) (tx := tx) (len := len) (len - st) st rfl hst
  have hTb2 := hTb
  obtain ⟨hl, f, h2, hf⟩ := hTb2
  generalize zs (zokr 48 57) tx len st = e at *
  have loop : ∀ (d k : Nat) (w : Int32) (E2 : zE), d + k = e - st → (w = 0 ↔ ¬ (c = 48 ∧ 1 < e - st)) → E2 1 = zTc b len e s3 (nI st) (nI (zval tx st k)) s6 → (∀ j, j ≠ 1 → E2 j = E j) → A 30 [(0, .ref (b + 1)), (2, .int w), (3, .int (nI (st + k)))] [] 0 0 E2 := by
    intro d
    induction d with
    | zero =>
      intro k w E2 hd hw g2 gk2
      obtain rfl : k = e - st := by omega
      apply hA
      have hv := zval_le (tx := tx) (s := st) (k := e - st)
      have cle : nI e ≤ nI (st + (e - st)) := nI_le (by omega) (by omega)
      simp only [zTc] at g2
      simp only [B_X3_takeNumber_0, B_X3_takeNumber_23, B_X3_takeNumber_24, B_X3_takeNumber_30, B_X3_takeNumber_84, B_X3_takeNumber_89, e_cut, e_iload, e_aload, e_istore, e_astore, e_iinc, e_const, e_lconst, e_bin, e_bin0, e_un, e_ladd, e_dupi, e_dupr, e_dup2, e_pop, e_if, e_icmp, e_sw, e_sw0, e_sw1, e_get, e_put, e_ald, e_ast, e_aald, e_aast, e_copy, e_new, e_newa, e_anewa, e_min, e_abs, e_oinit, e_callI, e_callV, e_callS, e_iret, e_zret, e_lret, e_vret, e_tl1, e_tl0, e_tl2, e_tl3, z10, Bool.false_eq_true, e_argi, e_argr, e_argn, zld_c, zst_n, zst_c, zpick_n, zpick_c, List.drop_succ_cons, List.drop_zero, List.take_succ_cons, List.take_zero, List.length_cons, List.length_nil, List.reverse_cons, List.reverse_nil, List.nil_append, List.cons_append, List.append_nil, List.getElem?_cons_zero, List.getElem?_cons_succ, List.set_cons_zero, List.set_cons_succ, Nat.add_sub_cancel_left, Nat.sub_self, Nat.add_zero, Nat.zero_add, Nat.le_add_right, Nat.le_refl, true_and, and_true, va_rf, zok, Nat.add_left_cancel_iff, Nat.add_eq_left, Nat.left_eq_add, eq_self, if_true, if_false, not_false_eq_true, not_true_eq_false, false_implies, true_implies, Nat.reduceEqDiff, Nat.reduceAdd, Nat.reduceLT, Nat.reduceLeDiff, reduceIte, g2, N1, cle, k99, nI_leI (show zval tx st (e - st) < 2 ^ 31 by omega) (show 99 < 2 ^ 31 by omega), e_up]
      refine ⟨fun c1 => ⟨fun c2 => ?_, fun c2 => ?_⟩, fun c1 => ?_⟩
      · rw [hw] at c1
        refine hP _ (by simp only [e_up, if_true, zTc]; rw [if_neg (by omega)]; rfl) (fun j hj => by simp only [e_up]; rw [if_neg hj]; exact gk2 j hj)
      · refine hP _ (by simp only [e_up, if_true, zTc]; rw [if_pos (by omega)]; rfl) (fun j hj => by simp only [e_up]; rw [if_neg hj]; exact gk2 j hj)
      · rw [hw] at c1
        refine hP _ (by simp only [e_up, if_true, zTc]; rw [if_pos (by omega)]; rfl) (fun j hj => by simp only [e_up]; rw [if_neg hj]; exact gk2 j hj)
    | succ d ih =>
      intro k w E2 hd hw g2 gk2
      have hk : st + k < e := by omega
      have hke : st + k < len := by omega
      apply hA
      have cle : ¬ nI e ≤ nI (st + k) := nI_ge hk (by omega)
      have hin : vp_in (nI (st + k)) 120 := vp_in_nI (by omega) (by omega)
      have hcl : (nI (st + k)).toNatClampNeg = st + k := nI_clamp (by omega)
      have ht := (hf _ hke).1
      have hdg := z3 (st + k) (by omega) hk
      simp [zokr] at hdg
      have hv := zval_le (tx := tx) (s := st) (k := k)
      have h22 : E2 2 = .inl (cy 1, 120, .inl f) := by rw [gk2 2 (by omega)]; exact h2
      simp only [zTc] at g2
      simp only [B_X3_takeNumber_0, B_X3_takeNumber_23, B_X3_takeNumber_24, B_X3_takeNumber_30, B_X3_takeNumber_84, B_X3_takeNumber_89, e_cut, e_iload, e_aload, e_istore, e_astore, e_iinc, e_const, e_lconst, e_bin, e_bin0, e_un, e_ladd, e_dupi, e_dupr, e_dup2, e_pop, e_if, e_icmp, e_sw, e_sw0, e_sw1, e_get, e_put, e_ald, e_ast, e_aald, e_aast, e_copy, e_new, e_newa, e_anewa, e_min, e_abs, e_oinit, e_callI, e_callV, e_callS, e_iret, e_zret, e_lret, e_vret, e_tl1, e_tl0, e_tl2, e_tl3, z10, Bool.false_eq_true, e_argi, e_argr, e_argn, zld_c, zst_n, zst_c, zpick_n, zpick_c, List.drop_succ_cons, List.drop_zero, List.take_succ_cons, List.take_zero, List.length_cons, List.length_nil, List.reverse_cons, List.reverse_nil, List.nil_append, List.cons_append, List.append_nil, List.getElem?_cons_zero, List.getElem?_cons_succ, List.set_cons_zero, List.set_cons_succ, Nat.add_sub_cancel_left, Nat.sub_self, Nat.add_zero, Nat.zero_add, Nat.le_add_right, Nat.le_refl, true_and, and_true, va_rf, zok, Nat.add_left_cancel_iff, Nat.add_eq_left, Nat.left_eq_add, eq_self, if_true, if_false, not_false_eq_true, not_true_eq_false, false_implies, true_implies, Nat.reduceEqDiff, Nat.reduceAdd, Nat.reduceLT, Nat.reduceLeDiff, reduceIte, g2, h22, N1, N2, cle, hin, hcl, (hf _ hke).2, k10, k48, k100, pk_mul, nI_add, pk_sub (show 48 ≤ zval tx st k * 10 + tx (st + k) by omega), e_up, k1]
      refine ih (k + 1) w _ (by omega) hw ?_ (fun j hj => by simp only [e_up]; rw [if_neg hj]; exact gk2 j hj)
      simp only [e_up, if_true, zTc, zval]
      congr 6
      rw [show zval tx st k * 10 + tx (st + k) - 48 = zval tx st k * 10 + (tx (st + k) - 48) by omega]
      by_cases c9 : 100 < zval tx st k * 10 + (tx (st + k) - 48)
      · rw [if_pos (nI_lt c9 (by omega)), Nat.min_eq_right (by omega)]
      · rw [if_neg (by rw [nI_ltI (by omega) (by omega)]; exact c9), Nat.min_eq_left (by omega)]
  simp only [zTc] at h1
  simp only [B_X3_takeNumber_0, B_X3_takeNumber_23, B_X3_takeNumber_24, B_X3_takeNumber_30, B_X3_takeNumber_84, B_X3_takeNumber_89, e_cut, e_iload, e_aload, e_istore, e_astore, e_iinc, e_const, e_lconst, e_bin, e_bin0, e_un, e_ladd, e_dupi, e_dupr, e_dup2, e_pop, e_if, e_icmp, e_sw, e_sw0, e_sw1, e_get, e_put, e_ald, e_ast, e_aald, e_aast, e_copy, e_new, e_newa, e_anewa, e_min, e_abs, e_oinit, e_callI, e_callV, e_callS, e_iret, e_zret, e_lret, e_vret, e_tl1, e_tl0, e_tl2, e_tl3, z10, Bool.false_eq_true, e_argi, e_argr, e_argn, zld_c, zst_n, zst_c, zpick_n, zpick_c, List.drop_succ_cons, List.drop_zero, List.take_succ_cons, List.take_zero, List.length_cons, List.length_nil, List.reverse_cons, List.reverse_nil, List.nil_append, List.cons_append, List.append_nil, List.getElem?_cons_zero, List.getElem?_cons_succ, List.set_cons_zero, List.set_cons_succ, Nat.add_sub_cancel_left, Nat.sub_self, Nat.add_zero, Nat.zero_add, Nat.le_add_right, Nat.le_refl, true_and, and_true, va_rf, zok, Nat.add_left_cancel_iff, Nat.add_eq_left, Nat.left_eq_add, eq_self, if_true, if_false, not_false_eq_true, not_true_eq_false, false_implies, true_implies, Nat.reduceEqDiff, Nat.reduceAdd, Nat.reduceLT, Nat.reduceLeDiff, reduceIte, h1, N1, k48, k1, nI_eq (show c < 2 ^ 31 by omega) (show 48 < 2 ^ 31 by omega), pk_sub (show st ≤ e by omega), nI_leI (show e - st < 2 ^ 31 by omega) (show 1 < 2 ^ 31 by omega)]
  have b0 := fun w hw => loop (e - st) 0 w E (by omega) hw h1 (fun _ _ => rfl)
  refine ⟨fun c1 => ⟨fun c2 => ?_, fun c2 => ?_⟩, fun c1 => ?_⟩
  · exact b0 _ ⟨fun _ => by omega, fun _ => rfl⟩
  · exact b0 _ ⟨fun h => absurd h (by decide), fun h => absurd h (by omega)⟩
  · exact b0 _ ⟨fun _ => by omega, fun _ => rfl⟩
set_option maxRecDepth 20000 in
theorem f_X3_takeNumber_34 : Cond.fieldLink RX3 34 (TX3 3).1 (TX3 3).2.1 (TX3 3).2.2.1 ∈ wsX3_takeNumber := by decide +kernel
set_option maxRecDepth 20000 in
theorem k_X3_takeNumber_3 : ∀ w ∈ u_ws RX3 TX3 7, w ∈ wsX3_takeNumber := fun _ h => List.mem_cons_of_mem _ (List.mem_append_right _ h)
set_option maxRecDepth 20000 in
theorem f_X3_takeNumber_19 : Cond.fieldLink RX3 19 (TX3 2).1 (TX3 2).2.1 (TX3 2).2.2.1 ∈ wsX3_takeNumber := by decide +kernel
set_option maxRecDepth 20000 in
theorem f_X3_takeNumber_44 : Cond.fieldLink RX3 44 (TX3 5).1 (TX3 5).2.1 (TX3 5).2.2.1 ∈ wsX3_takeNumber := by decide +kernel
set_option maxRecDepth 20000 in
theorem f_X3_takeNumber_9 : Cond.fieldLink RX3 9 (TX3 1).1 (TX3 1).2.1 (TX3 1).2.2.1 ∈ wsX3_takeNumber := by decide +kernel
set_option maxRecDepth 20000 in
theorem f_X3_takeNumber_m90 : Cond.methodLink RX3 90 Lib.Math.min.name ∈ wsX3_takeNumber := by decide +kernel
set_option maxRecDepth 20000 in
theorem f_X3_takeNumber_mins : Cond.static Lib.Math.min.name ∈ wsX3_takeNumber := by decide +kernel
set_option maxRecDepth 20000 in
theorem f_X3_takeNumber_mi : Cond.initialized "java/lang/Math" ∈ wsX3_takeNumber := by decide +kernel
set_option maxRecDepth 20000 in
theorem f_X3_takeNumber_minc : Cond.code Lib.Math.min.name Lib.Math.min.code 2 (some .int) ∈ wsX3_takeNumber := by decide +kernel
set_option maxRecDepth 20000 in
theorem f_X3_takeNumber_41 : Cond.fieldLink RX3 41 (TX3 4).1 (TX3 4).2.1 (TX3 4).2.2.1 ∈ wsX3_takeNumber := by decide +kernel
set_option maxRecDepth 100000 in
set_option maxHeartbeats 4000000 in
theorem S_X3_takeNumber_89 {p : Program} {e : Env} {s : State} {m : MethodId} {args : Array Value} {below : List Frame} {meth : Method} {c : Code} {D : va_G} {cy : zY} {b n0 : Nat} {P : zPo} (la : Launch) (X : zX p la e (rm_X3_takeNumber) s m args below meth c 4 D cy b n0 cX3_takeNumber wsX3_takeNumber RX3) (hr : meth.sig.returnType = none) : zS p la e (rm_X3_takeNumber) s m args below meth c (MQ below (zQ D b (n0 + 0) P) args s 0 0 (fun q => b ≤ q)) 4 D b n0 89 (B_X3_takeNumber_89 b n0 cy P (zAt p la e (rm_X3_takeNumber) s m args below meth c (MQ below (zQ D b (n0 + 0) P) args s 0 0 (fun q => b ≤ q)) 4 D b n0)) := by
  unfold B_X3_takeNumber_89
  exact (s_put X dX3_takeNumber_89 rfl k_X3_takeNumber_3 tyX3_ok nmX3 (by decide) f_X3_takeNumber_34 rfl (tyX3_ok 3 (by decide)) zok_int (s_vret X dX3_takeNumber_92 hr))
set_option maxRecDepth 100000 in
set_option maxHeartbeats 4000000 in
theorem S_X3_takeNumber_84 {p : Program} {e : Env} {s : State} {m : MethodId} {args : Array Value} {below : List Frame} {meth : Method} {c : Code} {D : va_G} {cy : zY} {b n0 : Nat} {P : zPo} (la : Launch) (X : zX p la e (rm_X3_takeNumber) s m args below meth c 4 D cy b n0 cX3_takeNumber wsX3_takeNumber RX3) (hr : meth.sig.returnType = none) : zS p la e (rm_X3_takeNumber) s m args below meth c (MQ below (zQ D b (n0 + 0) P) args s 0 0 (fun q => b ≤ q)) 4 D b n0 84 (B_X3_takeNumber_84 b n0 cy P (zAt p la e (rm_X3_takeNumber) s m args below meth c (MQ below (zQ D b (n0 + 0) P) args s 0 0 (fun q => b ≤ q)) 4 D b n0)) := by
  unfold B_X3_takeNumber_84
  exact (s_iconst X dX3_takeNumber_84 (by decide) (s_goto X dX3_takeNumber_85 (by decide) (S_X3_takeNumber_89 la X hr)))
set_option maxRecDepth 100000 in
set_option maxHeartbeats 4000000 in
theorem S_X3_takeNumber_30 {p : Program} {e : Env} {s : State} {m : MethodId} {args : Array Value} {below : List Frame} {meth : Method} {c : Code} {D : va_G} {cy : zY} {b n0 : Nat} {P : zPo} (la : Launch) (X : zX p la e (rm_X3_takeNumber) s m args below meth c 4 D cy b n0 cX3_takeNumber wsX3_takeNumber RX3) (hr : meth.sig.returnType = none) : zS p la e (rm_X3_takeNumber) s m args below meth c (MQ below (zQ D b (n0 + 0) P) args s 0 0 (fun q => b ≤ q)) 4 D b n0 30 (B_X3_takeNumber_30 b n0 cy P (zAt p la e (rm_X3_takeNumber) s m args below meth c (MQ below (zQ D b (n0 + 0) P) args s 0 0 (fun q => b ≤ q)) 4 D b n0)) := by
  unfold B_X3_takeNumber_30
  exact (s_iload_n X dX3_takeNumber_30 rfl (s_aload_n X dX3_takeNumber_31 rfl (s_get X dX3_takeNumber_32 rfl k_X3_takeNumber_3 (by decide) f_X3_takeNumber_19 (s_icmp_ge X dX3_takeNumber_35 (by decide) (s_aload_n X dX3_takeNumber_70 rfl (s_iload_n X dX3_takeNumber_71 rfl (s_if_ne X dX3_takeNumber_72 (by decide) (S_X3_takeNumber_84 la X hr) (s_aload_n X dX3_takeNumber_75 rfl (s_get X dX3_takeNumber_76 rfl k_X3_takeNumber_3 (by decide) f_X3_takeNumber_44 (s_bipush X dX3_takeNumber_79 (by decide) (s_icmp_le X dX3_takeNumber_81 (by decide) (s_iconst X dX3_takeNumber_88 (by decide) (S_X3_takeNumber_89 la X hr)) (S_X3_takeNumber_84 la X hr)))))))) (s_aload_n X dX3_takeNumber_38 rfl (s_aload_n X dX3_takeNumber_39 rfl (s_get X dX3_takeNumber_40 rfl k_X3_takeNumber_3 (by decide) f_X3_takeNumber_44 (s_bipush X dX3_takeNumber_43 (by decide) (s_imul X dX3_takeNumber_45 (s_aload_n X dX3_takeNumber_46 rfl (s_get X dX3_takeNumber_47 rfl k_X3_takeNumber_3 (by decide) f_X3_takeNumber_9 (s_iload_n X dX3_takeNumber_50 rfl (s_iald X dX3_takeNumber_51 (s_iadd X dX3_takeNumber_52 (s_bipush X dX3_takeNumber_53 (by decide) (s_isub X dX3_takeNumber_55 (s_bipush X dX3_takeNumber_56 (by decide) (s_min X dX3_takeNumber_58 f_X3_takeNumber_m90 f_X3_takeNumber_mins f_X3_takeNumber_mi f_X3_takeNumber_minc (by decide) (by decide) (s_put X dX3_takeNumber_61 rfl k_X3_takeNumber_3 tyX3_ok nmX3 (by decide) f_X3_takeNumber_44 rfl (tyX3_ok 5 (by decide)) zok_int (s_iinc X dX3_takeNumber_64 (by decide) (by decide) (s_goto X dX3_takeNumber_67 (by decide) (s_cut (by decide) zS_at))))))))))))))))))))))
set_option maxRecDepth 100000 in
set_option maxHeartbeats 4000000 in
theorem S_X3_takeNumber_24 {p : Program} {e : Env} {s : State} {m : MethodId} {args : Array Value} {below : List Frame} {meth : Method} {c : Code} {D : va_G} {cy : zY} {b n0 : Nat} {P : zPo} (la : Launch) (X : zX p la e (rm_X3_takeNumber) s m args below meth c 4 D cy b n0 cX3_takeNumber wsX3_takeNumber RX3) (hr : meth.sig.returnType = none) : zS p la e (rm_X3_takeNumber) s m args below meth c (MQ below (zQ D b (n0 + 0) P) args s 0 0 (fun q => b ≤ q)) 4 D b n0 24 (B_X3_takeNumber_24 b n0 cy P (zAt p la e (rm_X3_takeNumber) s m args below meth c (MQ below (zQ D b (n0 + 0) P) args s 0 0 (fun q => b ≤ q)) 4 D b n0)) := by
  unfold B_X3_takeNumber_24
  exact (s_istore_n X dX3_takeNumber_24 rfl (by decide) (s_aload_n X dX3_takeNumber_25 rfl (s_get X dX3_takeNumber_26 rfl k_X3_takeNumber_3 (by decide) f_X3_takeNumber_41 (s_istore_n X dX3_takeNumber_29 rfl (by decide) (s_cut (by decide) zS_at)))))
set_option maxRecDepth 100000 in
set_option maxHeartbeats 4000000 in
theorem S_X3_takeNumber_23 {p : Program} {e : Env} {s : State} {m : MethodId} {args : Array Value} {below : List Frame} {meth : Method} {c : Code} {D : va_G} {cy : zY} {b n0 : Nat} {P : zPo} (la : Launch) (X : zX p la e (rm_X3_takeNumber) s m args below meth c 4 D cy b n0 cX3_takeNumber wsX3_takeNumber RX3) (hr : meth.sig.returnType = none) : zS p la e (rm_X3_takeNumber) s m args below meth c (MQ below (zQ D b (n0 + 0) P) args s 0 0 (fun q => b ≤ q)) 4 D b n0 23 (B_X3_takeNumber_23 b n0 cy P (zAt p la e (rm_X3_takeNumber) s m args below meth c (MQ below (zQ D b (n0 + 0) P) args s 0 0 (fun q => b ≤ q)) 4 D b n0)) := by
  unfold B_X3_takeNumber_23
  exact (s_iconst X dX3_takeNumber_23 (by decide) (S_X3_takeNumber_24 la X hr))
set_option maxRecDepth 100000 in
set_option maxHeartbeats 4000000 in
theorem S_X3_takeNumber_0 {p : Program} {e : Env} {s : State} {m : MethodId} {args : Array Value} {below : List Frame} {meth : Method} {c : Code} {D : va_G} {cy : zY} {b n0 : Nat} {P : zPo} (la : Launch) (X : zX p la e (rm_X3_takeNumber) s m args below meth c 4 D cy b n0 cX3_takeNumber wsX3_takeNumber RX3) (hr : meth.sig.returnType = none) : zS p la e (rm_X3_takeNumber) s m args below meth c (MQ below (zQ D b (n0 + 0) P) args s 0 0 (fun q => b ≤ q)) 4 D b n0 0 (B_X3_takeNumber_0 b n0 cy P (zAt p la e (rm_X3_takeNumber) s m args below meth c (MQ below (zQ D b (n0 + 0) P) args s 0 0 (fun q => b ≤ q)) 4 D b n0)) := by
  unfold B_X3_takeNumber_0
  exact (s_iload_n X dX3_takeNumber_0 rfl (s_bipush X dX3_takeNumber_1 (by decide) (s_icmp_ne X dX3_takeNumber_3 (by decide) (S_X3_takeNumber_23 la X hr) (s_aload_n X dX3_takeNumber_6 rfl (s_get X dX3_takeNumber_7 rfl k_X3_takeNumber_3 (by decide) f_X3_takeNumber_19 (s_aload_n X dX3_takeNumber_10 rfl (s_get X dX3_takeNumber_11 rfl k_X3_takeNumber_3 (by decide) f_X3_takeNumber_41 (s_isub X dX3_takeNumber_14 (s_iconst X dX3_takeNumber_15 (by decide) (s_icmp_le X dX3_takeNumber_16 (by decide) (S_X3_takeNumber_23 la X hr) (s_iconst X dX3_takeNumber_19 (by decide) (s_goto X dX3_takeNumber_20 (by decide) (S_X3_takeNumber_24 la X hr)))))))))))))
theorem w_X3_takeNumber (la : Launch) (sp : zSp) (vc : zVC_X3_takeNumber sp) : zMet la yX3_takeNumber wsX3_takeNumber (rm_X3_takeNumber) 0 0 sp :=
  z_of (cc := cX3_takeNumber) (maxL := 4) (ret := none) (by decide +kernel) rfl (fun p e s m args below meth c D cy b n as E P hsp X hr hin => by
    obtain ⟨h1, h2⟩ := vc b cy n as E P (zAt p la e (rm_X3_takeNumber) s m args below meth c (MQ below (zQ D b (n + 0) P) args s 0 0 (fun q => b ≤ q)) 4 D b n) (fun _ _ _ _ _ q => S_X3_takeNumber_30 la X hr _ _ _ _ _ q) hsp
    exact ⟨h1, S_X3_takeNumber_0 la X hr _ _ _ _ _ h2⟩)

theorem m_X3_takeNumber (la : Launch) : zMet la yX3_takeNumber wsX3_takeNumber rm_X3_takeNumber 0 0 sp_X3_takeNumber := w_X3_takeNumber la _ vc_X3_takeNumber
def zTk1 (b len : Nat) (k : zTk) (s6 : Int32) : va_E := zTc b len k.1 (nI k.2.1) (nI k.2.2.1) (nI k.2.2.2) s6
def sp_X3_advance : zSp := fun b cy as N E P => ∃ (len q : Nat) (tx : Nat → Nat) (s3 s4 s5 s6 : Int32), as = [.ref (b + 1)] ∧ E 1 = zTc b len q s3 s4 s5 s6 ∧ zTb cy E len tx ∧ q ≤ len ∧ 3 ≤ N ∧ (∀ E', E' 1 = zTk1 b len (ztk len tx q) s6 → (∀ j, j ≠ 1 → E' j = E j) → P none E')
abbrev rm_X3_advance : Room := { frames := 2, cells := 0, slots := 0, locals := 63 }
def B_X3_advance_146 (b n0 : Nat) (cy : zY) (P : zPo) (A : Nat → zC) : zC :=
  z_vret 0 0 P
def B_X3_advance_133 (b n0 : Nat) (cy : zY) (P : zPo) (A : Nat → zC) : zC :=
  z_put b n0 3 3 0 (z_aload 0 (z_dup (z_get b n0 3 2 (z_const (1) (z_bin (fun x y => x + y) (z_put b n0 3 2 0 (B_X3_advance_146 b n0 cy P A)))))))
def B_X3_advance_121 (b n0 : Nat) (cy : zY) (P : zPo) (A : Nat → zC) : zC :=
  z_aload 0 (z_iload 1 (z_const (59) (z_icmp (fun x y => x = y) (z_const (3) (B_X3_advance_133 b n0 cy P A)) (z_const (4) (B_X3_advance_133 b n0 cy P A)))))
def B_X3_advance_93 (b n0 : Nat) (cy : zY) (P : zPo) (A : Nat → zC) : zC :=
  z_iload 1 (z_const (48) (z_icmp (fun x y => x < y) (B_X3_advance_121 b n0 cy P A) (z_iload 1 (z_const (57) (z_icmp (fun x y => y < x) (B_X3_advance_121 b n0 cy P A) (z_aload 0 (z_const (48) (z_const (57) (z_callV b n0 0 0 cy 3 2 0 0 sp_X3_passBytes (z_aload 0 (z_iload 1 (z_callV b n0 0 0 cy 3 1 0 0 sp_X3_takeNumber (B_X3_advance_146 b n0 cy P A)))))))))))))
def B_X3_advance_45 (b n0 : Nat) (cy : zY) (P : zPo) (A : Nat → zC) : zC :=
  z_istore 1 (z_aload 0 (z_get b n0 3 2 (z_aload 0 (z_get b n0 3 0 (z_icmp (fun x y => x < y) (z_iload 1 (z_const (97) (z_icmp (fun x y => x < y) (B_X3_advance_93 b n0 cy P A) (z_iload 1 (z_const (122) (z_icmp (fun x y => y < x) (B_X3_advance_93 b n0 cy P A) (z_aload 0 (z_const (97) (z_const (122) (z_callV b n0 0 0 cy 3 2 0 0 sp_X3_passBytes (z_aload 0 (z_iload 1 (z_callV b n0 0 0 cy 3 1 0 0 sp_X3_takeLetters (B_X3_advance_146 b n0 cy P A)))))))))))))) (z_aload 0 (z_const (0) (z_put b n0 3 3 0 (B_X3_advance_146 b n0 cy P A)))))))))
def B_X3_advance_0 (b n0 : Nat) (cy : zY) (P : zPo) (A : Nat → zC) : zC :=
  z_aload 0 (z_const (32) (z_const (32) (z_callV b n0 0 0 cy 3 2 0 0 sp_X3_passBytes (z_aload 0 (z_aload 0 (z_get b n0 3 2 (z_put b n0 3 4 0 (z_aload 0 (z_const (0) (z_put b n0 3 5 0 (z_aload 0 (z_get b n0 3 2 (z_aload 0 (z_get b n0 3 0 (z_icmp (fun x y => y ≤ x) (z_const (0) (B_X3_advance_45 b n0 cy P A)) (z_aload 0 (z_get b n0 3 1 (z_aload 0 (z_get b n0 3 2 (z_ald b n0 (cy 1) (B_X3_advance_45 b n0 cy P A)))))))))))))))))))))
def zVC_X3_advance (sp : zSp) : Prop := ∀ (b : Nat) (cy : zY) (n : Nat) (as : List Value) (E : zE) (P : zPo) (A : Nat → zC), sp b cy as n E P → zgood as 2 ∧ B_X3_advance_0 b n cy P A (lv_args 0 as) [] 0 0 E

set_option maxRecDepth 100000 in
set_option maxHeartbeats 4000000 in
theorem vc_X3_advance : zVC_X3_advance sp_X3_advance := by
  intro b cy N as E P A hsp
  obtain ⟨len, q, tx, s3, s4, s5, s6, rfl, h1, hTb, hq, hN, hP⟩ := hsp
  refine ⟨⟨Nat.le_of_ble_eq_true rfl, zg1 rfl (zg0)⟩, ?_⟩
  have N1 : 1 < N := by omega
  have N2 : 2 < N := by omega
  have k1 : (1 : Int32) = nI 1 := rfl
  have k48 : (48 : Int32) = nI 48 := rfl
  have k57 : (57 : Int32) = nI 57 := rfl
  have k97 : (97 : Int32) = nI 97 := rfl
  have k122 : (122 : Int32) = nI 122 := rfl
  have k59 : (59 : Int32) = nI 59 := rfl
  have hTb2 := hTb
  obtain ⟨hl, f, h2, hf⟩ := hTb2
  obtain ⟨z1, z2, -, -⟩ := zs_all (ok := zokr 32 32) (tx := tx) (len := len) (len - q) q rfl hq
  simp only [zTc] at h1
  simp only [B_X3_advance_0, B_X3_advance_45, B_X3_advance_93, B_X3_advance_121, B_X3_advance_133, B_X3_advance_146, e_cut, e_iload, e_aload, e_istore, e_astore, e_iinc, e_const, e_lconst, e_bin, e_bin0, e_un, e_ladd, e_dupi, e_dupr, e_dup2, e_pop, e_if, e_icmp, e_sw, e_sw0, e_sw1, e_get, e_put, e_ald, e_ast, e_aald, e_aast, e_copy, e_new, e_newa, e_anewa, e_min, e_abs, e_oinit, e_callI, e_callV, e_callS, e_iret, e_zret, e_lret, e_vret, e_tl1, e_tl0, e_tl2, e_tl3, z10, Bool.false_eq_true, e_argi, e_argr, e_argn, zld_c, zst_n, zst_c, zpick_n, zpick_c, List.drop_succ_cons, List.drop_zero, List.take_succ_cons, List.take_zero, List.length_cons, List.length_nil, List.reverse_cons, List.reverse_nil, List.nil_append, List.cons_append, List.append_nil, List.getElem?_cons_zero, List.getElem?_cons_succ, List.set_cons_zero, List.set_cons_succ, Nat.add_sub_cancel_left, Nat.sub_self, Nat.add_zero, Nat.zero_add, Nat.le_add_right, Nat.le_refl, true_and, and_true, va_rf, zok, Nat.add_left_cancel_iff, Nat.add_eq_left, Nat.left_eq_add, eq_self, if_true, if_false, not_false_eq_true, not_true_eq_false, false_implies, true_implies, Nat.reduceEqDiff, Nat.reduceAdd, Nat.reduceLT, Nat.reduceLeDiff, reduceIte, h1, N1]
  refine ⟨len, q, 32, 32, tx, s3, s4, s5, s6, rfl, h1, hTb, hq, by omega, by omega, hN, fun E1 g1 gk => ?_⟩
  unfold ztk at hP
  generalize zs (zokr 32 32) tx len q = s at *
  simp only [zTk1] at hP
  have g2 : E1 2 = .inl (cy 1, 120, .inl f) := by rw [gk 2 (by omega)]; exact h2
  simp only [zTc] at g1
  have e12 : ((2 : Nat) = 1) = False := by simp
  have hsI : s < 2 ^ 31 := by omega
  have hlI : len < 2 ^ 31 := by omega
  simp only [e_cut, e_iload, e_aload, e_istore, e_astore, e_iinc, e_const, e_lconst, e_bin, e_bin0, e_un, e_ladd, e_dupi, e_dupr, e_dup2, e_pop, e_if, e_icmp, e_sw, e_sw0, e_sw1, e_get, e_put, e_ald, e_ast, e_aald, e_aast, e_copy, e_new, e_newa, e_anewa, e_min, e_abs, e_oinit, e_callI, e_callV, e_callS, e_iret, e_zret, e_lret, e_vret, e_tl1, e_tl0, e_tl2, e_tl3, z10, Bool.false_eq_true, e_argi, e_argr, e_argn, zld_c, zst_n, zst_c, zpick_n, zpick_c, List.drop_succ_cons, List.drop_zero, List.take_succ_cons, List.take_zero, List.length_cons, List.length_nil, List.reverse_cons, List.reverse_nil, List.nil_append, List.cons_append, List.append_nil, List.getElem?_cons_zero, List.getElem?_cons_succ, List.set_cons_zero, List.set_cons_succ, Nat.add_sub_cancel_left, Nat.sub_self, Nat.add_zero, Nat.zero_add, Nat.le_add_right, Nat.le_refl, true_and, and_true, va_rf, zok, Nat.add_left_cancel_iff, Nat.add_eq_left, Nat.left_eq_add, eq_self, if_true, if_false, not_false_eq_true, not_true_eq_false, false_implies, true_implies, Nat.reduceEqDiff, Nat.reduceAdd, Nat.reduceLT, Nat.reduceLeDiff, reduceIte, g1, g2, N1, N2, e_up, nI_leI hlI hsI, nI_ltI hsI hlI, e12]
  refine ⟨fun c1 => ⟨fun c2 => absurd c2 (by omega), fun c2 => ?_⟩, fun c1 => ?_⟩
  · rw [if_neg (by omega)] at hP
    exact hP _ (by simp [e_up, zTc]; rfl) (fun j hj => by simp only [e_up]; rw [if_neg hj, if_neg hj, if_neg hj]; exact gk j hj)
  · have hsl : s < len := by omega
    have hin : vp_in (nI s) 120 := vp_in_nI (by omega) (by omega)
    have hcl : (nI s).toNatClampNeg = s := nI_clamp (by omega)
    have ht := (hf s hsl).1
    have htI : tx s < 2 ^ 31 := by omega
    simp only [e_cut, e_iload, e_aload, e_istore, e_astore, e_iinc, e_const, e_lconst, e_bin, e_bin0, e_un, e_ladd, e_dupi, e_dupr, e_dup2, e_pop, e_if, e_icmp, e_sw, e_sw0, e_sw1, e_get, e_put, e_ald, e_ast, e_aald, e_aast, e_copy, e_new, e_newa, e_anewa, e_min, e_abs, e_oinit, e_callI, e_callV, e_callS, e_iret, e_zret, e_lret, e_vret, e_tl1, e_tl0, e_tl2, e_tl3, z10, Bool.false_eq_true, e_argi, e_argr, e_argn, zld_c, zst_n, zst_c, zpick_n, zpick_c, List.drop_succ_cons, List.drop_zero, List.take_succ_cons, List.take_zero, List.length_cons, List.length_nil, List.reverse_cons, List.reverse_nil, List.nil_append, List.cons_append, List.append_nil, List.getElem?_cons_zero, List.getElem?_cons_succ, List.set_cons_zero, List.set_cons_succ, Nat.add_sub_cancel_left, Nat.sub_self, Nat.add_zero, Nat.zero_add, Nat.le_add_right, Nat.le_refl, true_and, and_true, va_rf, zok, Nat.add_left_cancel_iff, Nat.add_eq_left, Nat.left_eq_add, eq_self, if_true, if_false, not_false_eq_true, not_true_eq_false, false_implies, true_implies, Nat.reduceEqDiff, Nat.reduceAdd, Nat.reduceLT, Nat.reduceLeDiff, reduceIte, hin, hcl, (hf s hsl).2, k97, k122, k48, k57, k59, nI_ltI htI (show 97 < 2 ^ 31 by omega), nI_ltI (show 122 < 2 ^ 31 by omega) htI, nI_ltI htI (show 48 < 2 ^ 31 by omega), nI_ltI (show 57 < 2 ^ 31 by omega) htI, nI_eq htI (show 59 < 2 ^ 31 by omega), e_up, g1, N1, k1, nI_add]
    rw [if_pos hsl] at hP
    have hTb3 : ∀ x y, zTb cy (va_up (va_up E1 1 x) 1 y) len tx := fun x y => hTb.congr (by simp only [e_up]; rw [if_neg (by omega), if_neg (by omega)]; exact gk 2 (by omega))
    have gk3 : ∀ x y j, j ≠ 1 → va_up (va_up E1 1 x) 1 y j = E j := fun x y j hj => by simp only [e_up]; rw [if_neg hj, if_neg hj]; exact gk j hj
    refine ⟨fun _ => ?_, fun c2 => absurd hsl c2⟩
    refine ⟨fun c3 => ?_, fun c3 => ⟨fun c4 => ?_, fun c4 => ?_⟩⟩
    rotate_left 2
    · have a1 : zokr 97 122 (tx s) = true := by simp [zokr]; omega
      rw [if_pos a1] at hP
      refine ⟨len, s, 97, 122, tx, s3, nI s, 0, s6, rfl, by simp [e_up, zTc], hTb3 _ _, by omega, by omega, by omega, hN, fun E2 g3 gk4 => ?_⟩
      obtain ⟨y1, y2, -, -⟩ := zs_all (ok := zokr 97 122) (tx := tx) (len := len) (len - s) s rfl (by omega)
      have g4 := g3
      simp only [zTc] at g4
      simp only [e_cut, e_iload, e_aload, e_istore, e_astore, e_iinc, e_const, e_lconst, e_bin, e_bin0, e_un, e_ladd, e_dupi, e_dupr, e_dup2, e_pop, e_if, e_icmp, e_sw, e_sw0, e_sw1, e_get, e_put, e_ald, e_ast, e_aald, e_aast, e_copy, e_new, e_newa, e_anewa, e_min, e_abs, e_oinit, e_callI, e_callV, e_callS, e_iret, e_zret, e_lret, e_vret, e_tl1, e_tl0, e_tl2, e_tl3, z10, Bool.false_eq_true, e_argi, e_argr, e_argn, zld_c, zst_n, zst_c, zpick_n, zpick_c, List.drop_succ_cons, List.drop_zero, List.take_succ_cons, List.take_zero, List.length_cons, List.length_nil, List.reverse_cons, List.reverse_nil, List.nil_append, List.cons_append, List.append_nil, List.getElem?_cons_zero, List.getElem?_cons_succ, List.set_cons_zero, List.set_cons_succ, Nat.add_sub_cancel_left, Nat.sub_self, Nat.add_zero, Nat.zero_add, Nat.le_add_right, Nat.le_refl, true_and, and_true, va_rf, zok, Nat.add_left_cancel_iff, Nat.add_eq_left, Nat.left_eq_add, eq_self, if_true, if_false, not_false_eq_true, not_true_eq_false, false_implies, true_implies, Nat.reduceEqDiff, Nat.reduceAdd, Nat.reduceLT, Nat.reduceLeDiff, reduceIte, g4, N1]
      refine ⟨len, zs (zokr 97 122) tx len s, s, tx s, s3, 0, s6, rfl, g3, by omega, y1, hN, fun E3 g5 gk5 => ?_⟩
      simp only [e_cut, e_iload, e_aload, e_istore, e_astore, e_iinc, e_const, e_lconst, e_bin, e_bin0, e_un, e_ladd, e_dupi, e_dupr, e_dup2, e_pop, e_if, e_icmp, e_sw, e_sw0, e_sw1, e_get, e_put, e_ald, e_ast, e_aald, e_aast, e_copy, e_new, e_newa, e_anewa, e_min, e_abs, e_oinit, e_callI, e_callV, e_callS, e_iret, e_zret, e_lret, e_vret, e_tl1, e_tl0, e_tl2, e_tl3, z10, Bool.false_eq_true, e_argi, e_argr, e_argn, zld_c, zst_n, zst_c, zpick_n, zpick_c, List.drop_succ_cons, List.drop_zero, List.take_succ_cons, List.take_zero, List.length_cons, List.length_nil, List.reverse_cons, List.reverse_nil, List.nil_append, List.cons_append, List.append_nil, List.getElem?_cons_zero, List.getElem?_cons_succ, List.set_cons_zero, List.set_cons_succ, Nat.add_sub_cancel_left, Nat.sub_self, Nat.add_zero, Nat.zero_add, Nat.le_add_right, Nat.le_refl, true_and, and_true, va_rf, zok, Nat.add_left_cancel_iff, Nat.add_eq_left, Nat.left_eq_add, eq_self, if_true, if_false, not_false_eq_true, not_true_eq_false, false_implies, true_implies, Nat.reduceEqDiff, Nat.reduceAdd, Nat.reduceLT, Nat.reduceLeDiff, reduceIte]
      exact hP _ g5 (fun j hj => by rw [gk5 j hj, gk4 j hj]; exact gk3 _ _ j hj)
    all_goals
      have a1 : ¬ zokr 97 122 (tx s) = true := by simp [zokr]; omega
      rw [if_neg a1] at hP
      refine ⟨fun c5 => ?_, fun c5 => ⟨fun c6 => ?_, fun c6 => ?_⟩⟩
      rotate_left 2
      · have a2 : zokr 48 57 (tx s) = true := by simp [zokr]; omega
        rw [if_pos a2] at hP
        refine ⟨len, s, 48, 57, tx, s3, nI s, 0, s6, rfl, by simp [e_up, zTc], hTb3 _ _, by omega, by omega, by omega, hN, fun E2 g3 gk4 => ?_⟩
        have g4 := g3
        simp only [zTc] at g4
        simp only [e_cut, e_iload, e_aload, e_istore, e_astore, e_iinc, e_const, e_lconst, e_bin, e_bin0, e_un, e_ladd, e_dupi, e_dupr, e_dup2, e_pop, e_if, e_icmp, e_sw, e_sw0, e_sw1, e_get, e_put, e_ald, e_ast, e_aald, e_aast, e_copy, e_new, e_newa, e_anewa, e_min, e_abs, e_oinit, e_callI, e_callV, e_callS, e_iret, e_zret, e_lret, e_vret, e_tl1, e_tl0, e_tl2, e_tl3, z10, Bool.false_eq_true, e_argi, e_argr, e_argn, zld_c, zst_n, zst_c, zpick_n, zpick_c, List.drop_succ_cons, List.drop_zero, List.take_succ_cons, List.take_zero, List.length_cons, List.length_nil, List.reverse_cons, List.reverse_nil, List.nil_append, List.cons_append, List.append_nil, List.getElem?_cons_zero, List.getElem?_cons_succ, List.set_cons_zero, List.set_cons_succ, Nat.add_sub_cancel_left, Nat.sub_self, Nat.add_zero, Nat.zero_add, Nat.le_add_right, Nat.le_refl, true_and, and_true, va_rf, zok, Nat.add_left_cancel_iff, Nat.add_eq_left, Nat.left_eq_add, eq_self, if_true, if_false, not_false_eq_true, not_true_eq_false, false_implies, true_implies, Nat.reduceEqDiff, Nat.reduceAdd, Nat.reduceLT, Nat.reduceLeDiff, reduceIte, g4, N1]
        refine ⟨len, s, tx s, tx, s3, s6, rfl, g3, (hTb3 _ _).congr (gk4 2 (by omega)), by omega, by omega, hN, fun E3 g5 gk5 => ?_⟩
        simp only [e_cut, e_iload, e_aload, e_istore, e_astore, e_iinc, e_const, e_lconst, e_bin, e_bin0, e_un, e_ladd, e_dupi, e_dupr, e_dup2, e_pop, e_if, e_icmp, e_sw, e_sw0, e_sw1, e_get, e_put, e_ald, e_ast, e_aald, e_aast, e_copy, e_new, e_newa, e_anewa, e_min, e_abs, e_oinit, e_callI, e_callV, e_callS, e_iret, e_zret, e_lret, e_vret, e_tl1, e_tl0, e_tl2, e_tl3, z10, Bool.false_eq_true, e_argi, e_argr, e_argn, zld_c, zst_n, zst_c, zpick_n, zpick_c, List.drop_succ_cons, List.drop_zero, List.take_succ_cons, List.take_zero, List.length_cons, List.length_nil, List.reverse_cons, List.reverse_nil, List.nil_append, List.cons_append, List.append_nil, List.getElem?_cons_zero, List.getElem?_cons_succ, List.set_cons_zero, List.set_cons_succ, Nat.add_sub_cancel_left, Nat.sub_self, Nat.add_zero, Nat.zero_add, Nat.le_add_right, Nat.le_refl, true_and, and_true, va_rf, zok, Nat.add_left_cancel_iff, Nat.add_eq_left, Nat.left_eq_add, eq_self, if_true, if_false, not_false_eq_true, not_true_eq_false, false_implies, true_implies, Nat.reduceEqDiff, Nat.reduceAdd, Nat.reduceLT, Nat.reduceLeDiff, reduceIte]
        exact hP _ g5 (fun j hj => by rw [gk5 j hj, gk4 j hj]; exact gk3 _ _ j hj)
      all_goals
        have a2 : ¬ zokr 48 57 (tx s) = true := by simp [zokr]; omega
        rw [if_neg a2] at hP
        refine ⟨fun c7 => ?_, fun c7 => ?_⟩
        · exact hP _ (by simp [e_up, zTc, c7]; exact ⟨rfl, rfl⟩) (fun j hj => by simp only [e_up]; rw [if_neg hj, if_neg hj, if_neg hj, if_neg hj]; exact gk j hj)
        · exact hP _ (by simp [e_up, zTc, c7]; exact ⟨rfl, rfl⟩) (fun j hj => by simp only [e_up]; rw [if_neg hj, if_neg hj, if_neg hj, if_neg hj]; exact gk j hj)
set_option maxRecDepth 20000 in
theorem f_X3_advance_34 : Cond.fieldLink RX3 34 (TX3 3).1 (TX3 3).2.1 (TX3 3).2.2.1 ∈ wsX3_advance := by decide +kernel
set_option maxRecDepth 20000 in
theorem k_X3_advance_3 : ∀ w ∈ u_ws RX3 TX3 7, w ∈ wsX3_advance := fun _ h => List.mem_cons_of_mem _ (List.mem_append_right _ h)
set_option maxRecDepth 20000 in
theorem f_X3_advance_19 : Cond.fieldLink RX3 19 (TX3 2).1 (TX3 2).2.1 (TX3 2).2.2.1 ∈ wsX3_advance := by decide +kernel
set_option maxRecDepth 20000 in
theorem f_X3_advance_15 : Cond.fieldLink RX3 15 (TX3 0).1 (TX3 0).2.1 (TX3 0).2.2.1 ∈ wsX3_advance := by decide +kernel
set_option maxRecDepth 20000 in
theorem f_X3_advance_41 : Cond.fieldLink RX3 41 (TX3 4).1 (TX3 4).2.1 (TX3 4).2.2.1 ∈ wsX3_advance := by decide +kernel
set_option maxRecDepth 20000 in
theorem f_X3_advance_44 : Cond.fieldLink RX3 44 (TX3 5).1 (TX3 5).2.1 (TX3 5).2.2.1 ∈ wsX3_advance := by decide +kernel
set_option maxRecDepth 20000 in
theorem f_X3_advance_9 : Cond.fieldLink RX3 9 (TX3 1).1 (TX3 1).2.1 (TX3 1).2.2.1 ∈ wsX3_advance := by decide +kernel
set_option maxRecDepth 100000 in
set_option maxHeartbeats 4000000 in
theorem S_X3_advance_146 {p : Program} {e : Env} {s : State} {m : MethodId} {args : Array Value} {below : List Frame} {meth : Method} {c : Code} {D : va_G} {cy : zY} {b n0 : Nat} {P : zPo} (la : Launch) (X : zX p la e (rm_X3_advance) s m args below meth c 2 D cy b n0 cX3_advance wsX3_advance RX3) (hr : meth.sig.returnType = none) (h_X3_passBytes : zMet la yX3_passBytes wsX3_passBytes rm_X3_passBytes 0 0 sp_X3_passBytes) (h_X3_takeLetters : zMet la yX3_takeLetters wsX3_takeLetters rm_X3_takeLetters 0 0 sp_X3_takeLetters) (h_X3_takeNumber : zMet la yX3_takeNumber wsX3_takeNumber rm_X3_takeNumber 0 0 sp_X3_takeNumber) : zS p la e (rm_X3_advance) s m args below meth c (MQ below (zQ D b (n0 + 0) P) args s 0 0 (fun q => b ≤ q)) 2 D b n0 146 (B_X3_advance_146 b n0 cy P (zAt p la e (rm_X3_advance) s m args below meth c (MQ below (zQ D b (n0 + 0) P) args s 0 0 (fun q => b ≤ q)) 2 D b n0)) := by
  unfold B_X3_advance_146
  exact (s_vret X dX3_advance_146 hr)
set_option maxRecDepth 100000 in
set_option maxHeartbeats 4000000 in
theorem S_X3_advance_133 {p : Program} {e : Env} {s : State} {m : MethodId} {args : Array Value} {below : List Frame} {meth : Method} {c : Code} {D : va_G} {cy : zY} {b n0 : Nat} {P : zPo} (la : Launch) (X : zX p la e (rm_X3_advance) s m args below meth c 2 D cy b n0 cX3_advance wsX3_advance RX3) (hr : meth.sig.returnType = none) (h_X3_passBytes : zMet la yX3_passBytes wsX3_passBytes rm_X3_passBytes 0 0 sp_X3_passBytes) (h_X3_takeLetters : zMet la yX3_takeLetters wsX3_takeLetters rm_X3_takeLetters 0 0 sp_X3_takeLetters) (h_X3_takeNumber : zMet la yX3_takeNumber wsX3_takeNumber rm_X3_takeNumber 0 0 sp_X3_takeNumber) : zS p la e (rm_X3_advance) s m args below meth c (MQ below (zQ D b (n0 + 0) P) args s 0 0 (fun q => b ≤ q)) 2 D b n0 133 (B_X3_advance_133 b n0 cy P (zAt p la e (rm_X3_advance) s m args below meth c (MQ below (zQ D b (n0 + 0) P) args s 0 0 (fun q => b ≤ q)) 2 D b n0)) := by
  unfold B_X3_advance_133
  exact (s_put X dX3_advance_133 rfl k_X3_advance_3 tyX3_ok nmX3 (by decide) f_X3_advance_34 rfl (tyX3_ok 3 (by decide)) zok_int (s_aload_n X dX3_advance_136 rfl (s_dup X dX3_advance_137 (s_get X dX3_advance_138 rfl k_X3_advance_3 (by decide) f_X3_advance_19 (s_iconst X dX3_advance_141 (by decide) (s_iadd X dX3_advance_142 (s_put X dX3_advance_143 rfl k_X3_advance_3 tyX3_ok nmX3 (by decide) f_X3_advance_19 rfl (tyX3_ok 2 (by decide)) zok_int (S_X3_advance_146 la X hr h_X3_passBytes h_X3_takeLetters h_X3_takeNumber))))))))
set_option maxRecDepth 100000 in
set_option maxHeartbeats 4000000 in
theorem S_X3_advance_121 {p : Program} {e : Env} {s : State} {m : MethodId} {args : Array Value} {below : List Frame} {meth : Method} {c : Code} {D : va_G} {cy : zY} {b n0 : Nat} {P : zPo} (la : Launch) (X : zX p la e (rm_X3_advance) s m args below meth c 2 D cy b n0 cX3_advance wsX3_advance RX3) (hr : meth.sig.returnType = none) (h_X3_passBytes : zMet la yX3_passBytes wsX3_passBytes rm_X3_passBytes 0 0 sp_X3_passBytes) (h_X3_takeLetters : zMet la yX3_takeLetters wsX3_takeLetters rm_X3_takeLetters 0 0 sp_X3_takeLetters) (h_X3_takeNumber : zMet la yX3_takeNumber wsX3_takeNumber rm_X3_takeNumber 0 0 sp_X3_takeNumber) : zS p la e (rm_X3_advance) s m args below meth c (MQ below (zQ D b (n0 + 0) P) args s 0 0 (fun q => b ≤ q)) 2 D b n0 121 (B_X3_advance_121 b n0 cy P (zAt p la e (rm_X3_advance) s m args below meth c (MQ below (zQ D b (n0 + 0) P) args s 0 0 (fun q => b ≤ q)) 2 D b n0)) := by
  unfold B_X3_advance_121
  exact (s_aload_n X dX3_advance_121 rfl (s_iload_n X dX3_advance_122 rfl (s_bipush X dX3_advance_123 (by decide) (s_icmp_ne X dX3_advance_125 (by decide) (s_iconst X dX3_advance_132 (by decide) (S_X3_advance_133 la X hr h_X3_passBytes h_X3_takeLetters h_X3_takeNumber)) (s_iconst X dX3_advance_128 (by decide) (s_goto X dX3_advance_129 (by decide) (S_X3_advance_133 la X hr h_X3_passBytes h_X3_takeLetters h_X3_takeNumber)))))))
set_option maxRecDepth 100000 in
set_option maxHeartbeats 4000000 in
theorem S_X3_advance_93 {p : Program} {e : Env} {s : State} {m : MethodId} {args : Array Value} {below : List Frame} {meth : Method} {c : Code} {D : va_G} {cy : zY} {b n0 : Nat} {P : zPo} (la : Launch) (X : zX p la e (rm_X3_advance) s m args below meth c 2 D cy b n0 cX3_advance wsX3_advance RX3) (hr : meth.sig.returnType = none) (h_X3_passBytes : zMet la yX3_passBytes wsX3_passBytes rm_X3_passBytes 0 0 sp_X3_passBytes) (h_X3_takeLetters : zMet la yX3_takeLetters wsX3_takeLetters rm_X3_takeLetters 0 0 sp_X3_takeLetters) (h_X3_takeNumber : zMet la yX3_takeNumber wsX3_takeNumber rm_X3_takeNumber 0 0 sp_X3_takeNumber) : zS p la e (rm_X3_advance) s m args below meth c (MQ below (zQ D b (n0 + 0) P) args s 0 0 (fun q => b ≤ q)) 2 D b n0 93 (B_X3_advance_93 b n0 cy P (zAt p la e (rm_X3_advance) s m args below meth c (MQ below (zQ D b (n0 + 0) P) args s 0 0 (fun q => b ≤ q)) 2 D b n0)) := by
  unfold B_X3_advance_93
  exact (s_iload_n X dX3_advance_93 rfl (s_bipush X dX3_advance_94 (by decide) (s_icmp_lt X dX3_advance_96 (by decide) (S_X3_advance_121 la X hr h_X3_passBytes h_X3_takeLetters h_X3_takeNumber) (s_iload_n X dX3_advance_99 rfl (s_bipush X dX3_advance_100 (by decide) (s_icmp_gt X dX3_advance_102 (by decide) (S_X3_advance_121 la X hr h_X3_passBytes h_X3_takeLetters h_X3_takeNumber) (s_aload_n X dX3_advance_105 rfl (s_bipush X dX3_advance_106 (by decide) (s_bipush X dX3_advance_108 (by decide) (s_callV X h_X3_passBytes dX3_advance_110 rfl gX3_advance_X3_passBytes rfl rfl rfl (by decide +kernel) ⟨by decide, by decide⟩ (s_aload_n X dX3_advance_113 rfl (s_iload_n X dX3_advance_114 rfl (s_callV X h_X3_takeNumber dX3_advance_115 rfl gX3_advance_X3_takeNumber rfl rfl rfl (by decide +kernel) ⟨by decide, by decide⟩ (s_goto X dX3_advance_118 (by decide) (S_X3_advance_146 la X hr h_X3_passBytes h_X3_takeLetters h_X3_takeNumber)))))))))))))))
set_option maxRecDepth 100000 in
set_option maxHeartbeats 4000000 in
theorem S_X3_advance_45 {p : Program} {e : Env} {s : State} {m : MethodId} {args : Array Value} {below : List Frame} {meth : Method} {c : Code} {D : va_G} {cy : zY} {b n0 : Nat} {P : zPo} (la : Launch) (X : zX p la e (rm_X3_advance) s m args below meth c 2 D cy b n0 cX3_advance wsX3_advance RX3) (hr : meth.sig.returnType = none) (h_X3_passBytes : zMet la yX3_passBytes wsX3_passBytes rm_X3_passBytes 0 0 sp_X3_passBytes) (h_X3_takeLetters : zMet la yX3_takeLetters wsX3_takeLetters rm_X3_takeLetters 0 0 sp_X3_takeLetters) (h_X3_takeNumber : zMet la yX3_takeNumber wsX3_takeNumber rm_X3_takeNumber 0 0 sp_X3_takeNumber) : zS p la e (rm_X3_advance) s m args below meth c (MQ below (zQ D b (n0 + 0) P) args s 0 0 (fun q => b ≤ q)) 2 D b n0 45 (B_X3_advance_45 b n0 cy P (zAt p la e (rm_X3_advance) s m args below meth c (MQ below (zQ D b (n0 + 0) P) args s 0 0 (fun q => b ≤ q)) 2 D b n0)) := by
  unfold B_X3_advance_45
  exact (s_istore_n X dX3_advance_45 rfl (by decide) (s_aload_n X dX3_advance_46 rfl (s_get X dX3_advance_47 rfl k_X3_advance_3 (by decide) f_X3_advance_19 (s_aload_n X dX3_advance_50 rfl (s_get X dX3_advance_51 rfl k_X3_advance_3 (by decide) f_X3_advance_15 (s_icmp_lt X dX3_advance_54 (by decide) (s_iload_n X dX3_advance_65 rfl (s_bipush X dX3_advance_66 (by decide) (s_icmp_lt X dX3_advance_68 (by decide) (S_X3_advance_93 la X hr h_X3_passBytes h_X3_takeLetters h_X3_takeNumber) (s_iload_n X dX3_advance_71 rfl (s_bipush X dX3_advance_72 (by decide) (s_icmp_gt X dX3_advance_74 (by decide) (S_X3_advance_93 la X hr h_X3_passBytes h_X3_takeLetters h_X3_takeNumber) (s_aload_n X dX3_advance_77 rfl (s_bipush X dX3_advance_78 (by decide) (s_bipush X dX3_advance_80 (by decide) (s_callV X h_X3_passBytes dX3_advance_82 rfl gX3_advance_X3_passBytes rfl rfl rfl (by decide +kernel) ⟨by decide, by decide⟩ (s_aload_n X dX3_advance_85 rfl (s_iload_n X dX3_advance_86 rfl (s_callV X h_X3_takeLetters dX3_advance_87 rfl gX3_advance_X3_takeLetters rfl rfl rfl (by decide +kernel) ⟨by decide, by decide⟩ (s_goto X dX3_advance_90 (by decide) (S_X3_advance_146 la X hr h_X3_passBytes h_X3_takeLetters h_X3_takeNumber))))))))))))))) (s_aload_n X dX3_advance_57 rfl (s_iconst X dX3_advance_58 (by decide) (s_put X dX3_advance_59 rfl k_X3_advance_3 tyX3_ok nmX3 (by decide) f_X3_advance_34 rfl (tyX3_ok 3 (by decide)) zok_int (s_goto X dX3_advance_62 (by decide) (S_X3_advance_146 la X hr h_X3_passBytes h_X3_takeLetters h_X3_takeNumber)))))))))))
set_option maxRecDepth 100000 in
set_option maxHeartbeats 4000000 in
theorem S_X3_advance_0 {p : Program} {e : Env} {s : State} {m : MethodId} {args : Array Value} {below : List Frame} {meth : Method} {c : Code} {D : va_G} {cy : zY} {b n0 : Nat} {P : zPo} (la : Launch) (X : zX p la e (rm_X3_advance) s m args below meth c 2 D cy b n0 cX3_advance wsX3_advance RX3) (hr : meth.sig.returnType = none) (h_X3_passBytes : zMet la yX3_passBytes wsX3_passBytes rm_X3_passBytes 0 0 sp_X3_passBytes) (h_X3_takeLetters : zMet la yX3_takeLetters wsX3_takeLetters rm_X3_takeLetters 0 0 sp_X3_takeLetters) (h_X3_takeNumber : zMet la yX3_takeNumber wsX3_takeNumber rm_X3_takeNumber 0 0 sp_X3_takeNumber) : zS p la e (rm_X3_advance) s m args below meth c (MQ below (zQ D b (n0 + 0) P) args s 0 0 (fun q => b ≤ q)) 2 D b n0 0 (B_X3_advance_0 b n0 cy P (zAt p la e (rm_X3_advance) s m args below meth c (MQ below (zQ D b (n0 + 0) P) args s 0 0 (fun q => b ≤ q)) 2 D b n0)) := by
  unfold B_X3_advance_0
  exact (s_aload_n X dX3_advance_0 rfl (s_bipush X dX3_advance_1 (by decide) (s_bipush X dX3_advance_3 (by decide) (s_callV X h_X3_passBytes dX3_advance_5 rfl gX3_advance_X3_passBytes rfl rfl rfl (by decide +kernel) ⟨by decide, by decide⟩ (s_aload_n X dX3_advance_8 rfl (s_aload_n X dX3_advance_9 rfl (s_get X dX3_advance_10 rfl k_X3_advance_3 (by decide) f_X3_advance_19 (s_put X dX3_advance_13 rfl k_X3_advance_3 tyX3_ok nmX3 (by decide) f_X3_advance_41 rfl (tyX3_ok 4 (by decide)) zok_int (s_aload_n X dX3_advance_16 rfl (s_iconst X dX3_advance_17 (by decide) (s_put X dX3_advance_18 rfl k_X3_advance_3 tyX3_ok nmX3 (by decide) f_X3_advance_44 rfl (tyX3_ok 5 (by decide)) zok_int (s_aload_n X dX3_advance_21 rfl (s_get X dX3_advance_22 rfl k_X3_advance_3 (by decide) f_X3_advance_19 (s_aload_n X dX3_advance_25 rfl (s_get X dX3_advance_26 rfl k_X3_advance_3 (by decide) f_X3_advance_15 (s_icmp_ge X dX3_advance_29 (by decide) (s_iconst X dX3_advance_44 (by decide) (S_X3_advance_45 la X hr h_X3_passBytes h_X3_takeLetters h_X3_takeNumber)) (s_aload_n X dX3_advance_32 rfl (s_get X dX3_advance_33 rfl k_X3_advance_3 (by decide) f_X3_advance_9 (s_aload_n X dX3_advance_36 rfl (s_get X dX3_advance_37 rfl k_X3_advance_3 (by decide) f_X3_advance_19 (s_iald X dX3_advance_40 (s_goto X dX3_advance_41 (by decide) (S_X3_advance_45 la X hr h_X3_passBytes h_X3_takeLetters h_X3_takeNumber)))))))))))))))))))))))
theorem w_X3_advance (la : Launch) (h_X3_passBytes : zMet la yX3_passBytes wsX3_passBytes rm_X3_passBytes 0 0 sp_X3_passBytes) (h_X3_takeLetters : zMet la yX3_takeLetters wsX3_takeLetters rm_X3_takeLetters 0 0 sp_X3_takeLetters) (h_X3_takeNumber : zMet la yX3_takeNumber wsX3_takeNumber rm_X3_takeNumber 0 0 sp_X3_takeNumber) (sp : zSp) (vc : zVC_X3_advance sp) : zMet la yX3_advance wsX3_advance (rm_X3_advance) 0 0 sp :=
  z_of (cc := cX3_advance) (maxL := 2) (ret := none) (by decide +kernel) rfl (fun p e s m args below meth c D cy b n as E P hsp X hr hin => by
    obtain ⟨h1, h2⟩ := vc b cy n as E P (zAt p la e (rm_X3_advance) s m args below meth c (MQ below (zQ D b (n + 0) P) args s 0 0 (fun q => b ≤ q)) 2 D b n) hsp
    exact ⟨h1, S_X3_advance_0 la X hr h_X3_passBytes h_X3_takeLetters h_X3_takeNumber _ _ _ _ _ h2⟩)

theorem m_X3_advance (la : Launch) : zMet la yX3_advance wsX3_advance rm_X3_advance 0 0 sp_X3_advance := w_X3_advance la (m_X3_passBytes la) (m_X3_takeLetters la) (m_X3_takeNumber la) _ vc_X3_advance
def sp_X3_comesNumber : zSp := fun b cy as N E P => ∃ (len lo hi : Nat) (tx : Nat → Nat) (k : zTk) (s6 : Int32), as = [.ref (b + 1), .int (nI lo), .int (nI hi)] ∧ E 1 = zTk1 b len k s6 ∧ zTb cy E len tx ∧ k.1 ≤ len ∧ lo < 256 ∧ hi < 256 ∧ 3 ≤ N ∧ (∀ E', E' 1 = zTk1 b len (ztk len tx k.1) s6 → (∀ j, j ≠ 1 → E' j = E j) → P (some (.int (if znum lo hi (ztk len tx k.1) = true then 1 else 0))) E')
abbrev rm_X3_comesNumber : Room := { frames := 3, cells := 0, slots := 0, locals := 84 }
def B_X3_comesNumber_33 (b n0 : Nat) (cy : zY) (P : zPo) (A : Nat → zC) : zC :=
  z_zret 0 0 P
def B_X3_comesNumber_32 (b n0 : Nat) (cy : zY) (P : zPo) (A : Nat → zC) : zC :=
  z_const (0) (B_X3_comesNumber_33 b n0 cy P A)
def B_X3_comesNumber_0 (b n0 : Nat) (cy : zY) (P : zPo) (A : Nat → zC) : zC :=
  z_aload 0 (z_callV b n0 0 0 cy 3 0 0 0 sp_X3_advance (z_aload 0 (z_get b n0 3 3 (z_const (2) (z_icmp (fun x y => x = y) (z_aload 0 (z_get b n0 3 5 (z_iload 1 (z_icmp (fun x y => x < y) (B_X3_comesNumber_32 b n0 cy P A) (z_aload 0 (z_get b n0 3 5 (z_iload 2 (z_icmp (fun x y => y < x) (B_X3_comesNumber_32 b n0 cy P A) (z_const (1) (B_X3_comesNumber_33 b n0 cy P A)))))))))) (B_X3_comesNumber_32 b n0 cy P A))))))
def zVC_X3_comesNumber (sp : zSp) : Prop := ∀ (b : Nat) (cy : zY) (n : Nat) (as : List Value) (E : zE) (P : zPo) (A : Nat → zC), sp b cy as n E P → zgood as 3 ∧ B_X3_comesNumber_0 b n cy P A (lv_args 0 as) [] 0 0 E

set_option maxRecDepth 100000 in
set_option maxHeartbeats 4000000 in
theorem vc_X3_comesNumber : zVC_X3_comesNumber sp_X3_comesNumber := by
  intro b cy N as E P A hsp
  obtain ⟨len, lo, hi, tx, k, s6, rfl, h1, hTb, hk, hlo, hhi, hN, hP⟩ := hsp
  refine ⟨⟨Nat.le_of_ble_eq_true rfl, zg1 rfl (zg1 rfl (zg1 rfl (zg0)))⟩, ?_⟩
  have N1 : 1 < N := by omega
  have k2 : (2 : Int32) = nI 2 := rfl
  simp only [zTk1, zTc] at h1
  simp only [B_X3_comesNumber_0, B_X3_comesNumber_32, B_X3_comesNumber_33, e_cut, e_iload, e_aload, e_istore, e_astore, e_iinc, e_const, e_lconst, e_bin, e_bin0, e_un, e_ladd, e_dupi, e_dupr, e_dup2, e_pop, e_if, e_icmp, e_sw, e_sw0, e_sw1, e_get, e_put, e_ald, e_ast, e_aald, e_aast, e_copy, e_new, e_newa, e_anewa, e_min, e_abs, e_oinit, e_callI, e_callV, e_callS, e_iret, e_zret, e_lret, e_vret, e_tl1, e_tl0, e_tl2, e_tl3, z10, Bool.false_eq_true, e_argi, e_argr, e_argn, zld_c, zst_n, zst_c, zpick_n, zpick_c, List.drop_succ_cons, List.drop_zero, List.take_succ_cons, List.take_zero, List.length_cons, List.length_nil, List.reverse_cons, List.reverse_nil, List.nil_append, List.cons_append, List.append_nil, List.getElem?_cons_zero, List.getElem?_cons_succ, List.set_cons_zero, List.set_cons_succ, Nat.add_sub_cancel_left, Nat.sub_self, Nat.add_zero, Nat.zero_add, Nat.le_add_right, Nat.le_refl, true_and, and_true, va_rf, zok, Nat.add_left_cancel_iff, Nat.add_eq_left, Nat.left_eq_add, eq_self, if_true, if_false, not_false_eq_true, not_true_eq_false, false_implies, true_implies, Nat.reduceEqDiff, Nat.reduceAdd, Nat.reduceLT, Nat.reduceLeDiff, reduceIte, h1, N1]
  refine ⟨len, k.1, tx, nI k.2.1, nI k.2.2.1, nI k.2.2.2, s6, rfl, h1, hTb, hk, hN, fun E1 g1 gk => ?_⟩
  obtain ⟨w1, w2, w3, w4, w5, w6⟩ := ztk_b hk (fun j hj => (hTb.2.choose_spec.2 j hj).1)
  replace hP := hP E1 g1 gk
  generalize ztk len tx k.1 = k' at *
  simp only [zTk1, zTc] at g1
  simp only [e_cut, e_iload, e_aload, e_istore, e_astore, e_iinc, e_const, e_lconst, e_bin, e_bin0, e_un, e_ladd, e_dupi, e_dupr, e_dup2, e_pop, e_if, e_icmp, e_sw, e_sw0, e_sw1, e_get, e_put, e_ald, e_ast, e_aald, e_aast, e_copy, e_new, e_newa, e_anewa, e_min, e_abs, e_oinit, e_callI, e_callV, e_callS, e_iret, e_zret, e_lret, e_vret, e_tl1, e_tl0, e_tl2, e_tl3, z10, Bool.false_eq_true, e_argi, e_argr, e_argn, zld_c, zst_n, zst_c, zpick_n, zpick_c, List.drop_succ_cons, List.drop_zero, List.take_succ_cons, List.take_zero, List.length_cons, List.length_nil, List.reverse_cons, List.reverse_nil, List.nil_append, List.cons_append, List.append_nil, List.getElem?_cons_zero, List.getElem?_cons_succ, List.set_cons_zero, List.set_cons_succ, Nat.add_sub_cancel_left, Nat.sub_self, Nat.add_zero, Nat.zero_add, Nat.le_add_right, Nat.le_refl, true_and, and_true, va_rf, zok, Nat.add_left_cancel_iff, Nat.add_eq_left, Nat.left_eq_add, eq_self, if_true, if_false, not_false_eq_true, not_true_eq_false, false_implies, true_implies, Nat.reduceEqDiff, Nat.reduceAdd, Nat.reduceLT, Nat.reduceLeDiff, reduceIte, g1, N1, k2, nI_eq (show k'.2.1 < 2 ^ 31 by omega) (show 2 < 2 ^ 31 by omega), nI_ltI (show k'.2.2.2 < 2 ^ 31 by omega) (show lo < 2 ^ 31 by omega), nI_ltI (show hi < 2 ^ 31 by omega) (show k'.2.2.2 < 2 ^ 31 by omega)]
  refine ⟨fun c1 => ⟨fun c2 => ?_, fun c2 => ⟨fun c3 => ?_, fun c3 => ?_⟩⟩, fun c1 => ?_⟩
  · rw [if_neg (by simp [znum, zokr]; omega)] at hP; exact ⟨Or.inl trivial, hP⟩
  · rw [if_neg (by simp [znum, zokr]; omega)] at hP; exact ⟨Or.inl trivial, hP⟩
  · rw [if_pos (by simp [znum, zokr]; omega)] at hP; exact ⟨Or.inr trivial, hP⟩
  · rw [if_neg (by simp [znum, zokr]; omega)] at hP; exact ⟨Or.inl trivial, hP⟩
set_option maxRecDepth 20000 in
theorem f_X3_comesNumber_34 : Cond.fieldLink RX3 34 (TX3 3).1 (TX3 3).2.1 (TX3 3).2.2.1 ∈ wsX3_comesNumber := by decide +kernel
set_option maxRecDepth 20000 in
theorem k_X3_comesNumber_3 : ∀ w ∈ u_ws RX3 TX3 7, w ∈ wsX3_comesNumber := fun _ h => List.mem_cons_of_mem _ (List.mem_append_right _ h)
set_option maxRecDepth 20000 in
theorem f_X3_comesNumber_44 : Cond.fieldLink RX3 44 (TX3 5).1 (TX3 5).2.1 (TX3 5).2.2.1 ∈ wsX3_comesNumber := by decide +kernel
set_option maxRecDepth 100000 in
set_option maxHeartbeats 4000000 in
theorem S_X3_comesNumber_33 {p : Program} {e : Env} {s : State} {m : MethodId} {args : Array Value} {below : List Frame} {meth : Method} {c : Code} {D : va_G} {cy : zY} {b n0 : Nat} {P : zPo} (la : Launch) (X : zX p la e (rm_X3_comesNumber) s m args below meth c 3 D cy b n0 cX3_comesNumber wsX3_comesNumber RX3) (hr : meth.sig.returnType = (some .boolean)) (h_X3_advance : zMet la yX3_advance wsX3_advance rm_X3_advance 0 0 sp_X3_advance) : zS p la e (rm_X3_comesNumber) s m args below meth c (MQ below (zQ D b (n0 + 0) P) args s 0 0 (fun q => b ≤ q)) 3 D b n0 33 (B_X3_comesNumber_33 b n0 cy P (zAt p la e (rm_X3_comesNumber) s m args below meth c (MQ below (zQ D b (n0 + 0) P) args s 0 0 (fun q => b ≤ q)) 3 D b n0)) := by
  unfold B_X3_comesNumber_33
  exact (s_zret X dX3_comesNumber_33 hr)
set_option maxRecDepth 100000 in
set_option maxHeartbeats 4000000 in
theorem S_X3_comesNumber_32 {p : Program} {e : Env} {s : State} {m : MethodId} {args : Array Value} {below : List Frame} {meth : Method} {c : Code} {D : va_G} {cy : zY} {b n0 : Nat} {P : zPo} (la : Launch) (X : zX p la e (rm_X3_comesNumber) s m args below meth c 3 D cy b n0 cX3_comesNumber wsX3_comesNumber RX3) (hr : meth.sig.returnType = (some .boolean)) (h_X3_advance : zMet la yX3_advance wsX3_advance rm_X3_advance 0 0 sp_X3_advance) : zS p la e (rm_X3_comesNumber) s m args below meth c (MQ below (zQ D b (n0 + 0) P) args s 0 0 (fun q => b ≤ q)) 3 D b n0 32 (B_X3_comesNumber_32 b n0 cy P (zAt p la e (rm_X3_comesNumber) s m args below meth c (MQ below (zQ D b (n0 + 0) P) args s 0 0 (fun q => b ≤ q)) 3 D b n0)) := by
  unfold B_X3_comesNumber_32
  exact (s_iconst X dX3_comesNumber_32 (by decide) (S_X3_comesNumber_33 la X hr h_X3_advance))
set_option maxRecDepth 100000 in
set_option maxHeartbeats 4000000 in
theorem S_X3_comesNumber_0 {p : Program} {e : Env} {s : State} {m : MethodId} {args : Array Value} {below : List Frame} {meth : Method} {c : Code} {D : va_G} {cy : zY} {b n0 : Nat} {P : zPo} (la : Launch) (X : zX p la e (rm_X3_comesNumber) s m args below meth c 3 D cy b n0 cX3_comesNumber wsX3_comesNumber RX3) (hr : meth.sig.returnType = (some .boolean)) (h_X3_advance : zMet la yX3_advance wsX3_advance rm_X3_advance 0 0 sp_X3_advance) : zS p la e (rm_X3_comesNumber) s m args below meth c (MQ below (zQ D b (n0 + 0) P) args s 0 0 (fun q => b ≤ q)) 3 D b n0 0 (B_X3_comesNumber_0 b n0 cy P (zAt p la e (rm_X3_comesNumber) s m args below meth c (MQ below (zQ D b (n0 + 0) P) args s 0 0 (fun q => b ≤ q)) 3 D b n0)) := by
  unfold B_X3_comesNumber_0
  exact (s_aload_n X dX3_comesNumber_0 rfl (s_callV X h_X3_advance dX3_comesNumber_1 rfl gX3_comesNumber_X3_advance rfl rfl rfl (by decide +kernel) ⟨by decide, by decide⟩ (s_aload_n X dX3_comesNumber_4 rfl (s_get X dX3_comesNumber_5 rfl k_X3_comesNumber_3 (by decide) f_X3_comesNumber_34 (s_iconst X dX3_comesNumber_8 (by decide) (s_icmp_ne X dX3_comesNumber_9 (by decide) (S_X3_comesNumber_32 la X hr h_X3_advance) (s_aload_n X dX3_comesNumber_12 rfl (s_get X dX3_comesNumber_13 rfl k_X3_comesNumber_3 (by decide) f_X3_comesNumber_44 (s_iload_n X dX3_comesNumber_16 rfl (s_icmp_lt X dX3_comesNumber_17 (by decide) (S_X3_comesNumber_32 la X hr h_X3_advance) (s_aload_n X dX3_comesNumber_20 rfl (s_get X dX3_comesNumber_21 rfl k_X3_comesNumber_3 (by decide) f_X3_comesNumber_44 (s_iload_n X dX3_comesNumber_24 rfl (s_icmp_gt X dX3_comesNumber_25 (by decide) (S_X3_comesNumber_32 la X hr h_X3_advance) (s_iconst X dX3_comesNumber_28 (by decide) (s_goto X dX3_comesNumber_29 (by decide) (S_X3_comesNumber_33 la X hr h_X3_advance)))))))))))))))))
theorem w_X3_comesNumber (la : Launch) (h_X3_advance : zMet la yX3_advance wsX3_advance rm_X3_advance 0 0 sp_X3_advance) (sp : zSp) (vc : zVC_X3_comesNumber sp) : zMet la yX3_comesNumber wsX3_comesNumber (rm_X3_comesNumber) 0 0 sp :=
  z_of (cc := cX3_comesNumber) (maxL := 3) (ret := (some .boolean)) (by decide +kernel) rfl (fun p e s m args below meth c D cy b n as E P hsp X hr hin => by
    obtain ⟨h1, h2⟩ := vc b cy n as E P (zAt p la e (rm_X3_comesNumber) s m args below meth c (MQ below (zQ D b (n + 0) P) args s 0 0 (fun q => b ≤ q)) 3 D b n) hsp
    exact ⟨h1, S_X3_comesNumber_0 la X hr h_X3_advance _ _ _ _ _ h2⟩)

theorem m_X3_comesNumber (la : Launch) : zMet la yX3_comesNumber wsX3_comesNumber rm_X3_comesNumber 0 0 sp_X3_comesNumber := w_X3_comesNumber la (m_X3_advance la) _ vc_X3_comesNumber
/-- the draft at 7 -/
def zDr (b : Nat) (cy : zY) (E : zE) : zTd → Prop := fun (n, seat, lo, la, line, _, items) => zTo b cy E 7 n lo la seat line (nI items)
def sp_X3_comesEnd : zSp := fun b cy as N E P => ∃ (len : Nat) (tx : Nat → Nat) (k : zTk) (s6 : Int32) (s0 s1 s2 : Int32), as = [.ref (b + 1), .ref (b + 7)] ∧ E 1 = zTk1 b len k s6 ∧ zTb cy E len tx ∧ k.1 ≤ len ∧ E 7 = .inr (4, [.int s0, .int s1, .int s2, .ref (b + 8), .ref (b + 9), .ref (b + 10)]) ∧ 11 ≤ N ∧ (if (ztk len tx k.1).2.1 = 3 then (∀ E', E' 1 = zTk1 b len (ztk len tx (ztk len tx k.1).1) s6 → E' 7 = .inr (4, [.int s0, .int (s1 + 1), .int s2, .ref (b + 8), .ref (b + 9), .ref (b + 10)]) → (∀ j, j ≠ 1 → j ≠ 7 → E' j = E j) → P (some (.int 1)) E') else (∀ E', E' 1 = zTk1 b len (ztk len tx k.1) s6 → (∀ j, j ≠ 1 → E' j = E j) → P (some (.int 0)) E'))
abbrev rm_X3_comesEnd : Room := { frames := 3, cells := 0, slots := 0, locals := 84 }
def B_X3_comesEnd_0 (b n0 : Nat) (cy : zY) (P : zPo) (A : Nat → zC) : zC :=
  z_aload 0 (z_callV b n0 0 0 cy 3 0 0 0 sp_X3_advance (z_aload 0 (z_get b n0 3 3 (z_const (3) (z_icmp (fun x y => x = y) (z_aload 1 (z_dup (z_get b n0 4 1 (z_const (1) (z_bin (fun x y => x + y) (z_put b n0 4 1 0 (z_aload 0 (z_callV b n0 0 0 cy 3 0 0 0 sp_X3_advance (z_const (1) (z_zret 0 0 P)))))))))) (z_const (0) (z_zret 0 0 P)))))))
def zVC_X3_comesEnd (sp : zSp) : Prop := ∀ (b : Nat) (cy : zY) (n : Nat) (as : List Value) (E : zE) (P : zPo) (A : Nat → zC), sp b cy as n E P → zgood as 2 ∧ B_X3_comesEnd_0 b n cy P A (lv_args 0 as) [] 0 0 E

set_option maxRecDepth 100000 in
set_option maxHeartbeats 4000000 in
theorem vc_X3_comesEnd : zVC_X3_comesEnd sp_X3_comesEnd := by
  intro b cy N as E P A hsp
  obtain ⟨len, tx, k, s6, s0, s1, s2, rfl, h1, hTb, hk, h7, hN, hP⟩ := hsp
  refine ⟨⟨Nat.le_of_ble_eq_true rfl, zg1 rfl (zg1 rfl (zg0))⟩, ?_⟩
  have N1 : 1 < N := by omega
  have N7 : 7 < N := by omega
  have k3 : (3 : Int32) = nI 3 := rfl
  simp only [zTk1, zTc] at h1
  simp only [B_X3_comesEnd_0, e_cut, e_iload, e_aload, e_istore, e_astore, e_iinc, e_const, e_lconst, e_bin, e_bin0, e_un, e_ladd, e_dupi, e_dupr, e_dup2, e_pop, e_if, e_icmp, e_sw, e_sw0, e_sw1, e_get, e_put, e_ald, e_ast, e_aald, e_aast, e_copy, e_new, e_newa, e_anewa, e_min, e_abs, e_oinit, e_callI, e_callV, e_callS, e_iret, e_zret, e_lret, e_vret, e_tl1, e_tl0, e_tl2, e_tl3, z10, Bool.false_eq_true, e_argi, e_argr, e_argn, zld_c, zst_n, zst_c, zpick_n, zpick_c, List.drop_succ_cons, List.drop_zero, List.take_succ_cons, List.take_zero, List.length_cons, List.length_nil, List.reverse_cons, List.reverse_nil, List.nil_append, List.cons_append, List.append_nil, List.getElem?_cons_zero, List.getElem?_cons_succ, List.set_cons_zero, List.set_cons_succ, Nat.add_sub_cancel_left, Nat.sub_self, Nat.add_zero, Nat.zero_add, Nat.le_add_right, Nat.le_refl, true_and, and_true, va_rf, zok, Nat.add_left_cancel_iff, Nat.add_eq_left, Nat.left_eq_add, eq_self, if_true, if_false, not_false_eq_true, not_true_eq_false, false_implies, true_implies, Nat.reduceEqDiff, Nat.reduceAdd, Nat.reduceLT, Nat.reduceLeDiff, reduceIte, h1, N1]
  refine ⟨len, k.1, tx, nI k.2.1, nI k.2.2.1, nI k.2.2.2, s6, rfl, h1, hTb, hk, by omega, fun E1 g1 gk => ?_⟩
  obtain ⟨w1, w2, w3, w4, w5, w6⟩ := ztk_b hk (fun j hj => (hTb.2.choose_spec.2 j hj).1)
  generalize ztk len tx k.1 = k' at *
  have g7 : E1 7 = .inr (4, [.int s0, .int s1, .int s2, .ref (b + 8), .ref (b + 9), .ref (b + 10)]) := by rw [gk 7 (by omega)]; exact h7
  have g1' := g1
  simp only [zTk1, zTc] at g1
  have e17 : ((1 : Nat) = 7) = False := by simp
  simp only [e_cut, e_iload, e_aload, e_istore, e_astore, e_iinc, e_const, e_lconst, e_bin, e_bin0, e_un, e_ladd, e_dupi, e_dupr, e_dup2, e_pop, e_if, e_icmp, e_sw, e_sw0, e_sw1, e_get, e_put, e_ald, e_ast, e_aald, e_aast, e_copy, e_new, e_newa, e_anewa, e_min, e_abs, e_oinit, e_callI, e_callV, e_callS, e_iret, e_zret, e_lret, e_vret, e_tl1, e_tl0, e_tl2, e_tl3, z10, Bool.false_eq_true, e_argi, e_argr, e_argn, zld_c, zst_n, zst_c, zpick_n, zpick_c, List.drop_succ_cons, List.drop_zero, List.take_succ_cons, List.take_zero, List.length_cons, List.length_nil, List.reverse_cons, List.reverse_nil, List.nil_append, List.cons_append, List.append_nil, List.getElem?_cons_zero, List.getElem?_cons_succ, List.set_cons_zero, List.set_cons_succ, Nat.add_sub_cancel_left, Nat.sub_self, Nat.add_zero, Nat.zero_add, Nat.le_add_right, Nat.le_refl, true_and, and_true, va_rf, zok, Nat.add_left_cancel_iff, Nat.add_eq_left, Nat.left_eq_add, eq_self, if_true, if_false, not_false_eq_true, not_true_eq_false, false_implies, true_implies, Nat.reduceEqDiff, Nat.reduceAdd, Nat.reduceLT, Nat.reduceLeDiff, reduceIte, g1, N1, N7, g7, k3, nI_eq (show k'.2.1 < 2 ^ 31 by omega) (show 3 < 2 ^ 31 by omega), e_up, e17]
  refine ⟨fun c1 => ?_, fun c1 => ?_⟩
  · rw [if_pos c1] at hP
    refine ⟨len, k'.1, tx, nI k'.2.1, nI k'.2.2.1, nI k'.2.2.2, s6, rfl, by simp only [e_up, e17, if_false]; exact g1, hTb.congr (by simp only [e_up]; rw [if_neg (by omega)]; exact gk 2 (by omega)), w2, by omega, fun E2 g2 gk2 => ?_⟩
    simp only [e_cut, e_iload, e_aload, e_istore, e_astore, e_iinc, e_const, e_lconst, e_bin, e_bin0, e_un, e_ladd, e_dupi, e_dupr, e_dup2, e_pop, e_if, e_icmp, e_sw, e_sw0, e_sw1, e_get, e_put, e_ald, e_ast, e_aald, e_aast, e_copy, e_new, e_newa, e_anewa, e_min, e_abs, e_oinit, e_callI, e_callV, e_callS, e_iret, e_zret, e_lret, e_vret, e_tl1, e_tl0, e_tl2, e_tl3, z10, Bool.false_eq_true, e_argi, e_argr, e_argn, zld_c, zst_n, zst_c, zpick_n, zpick_c, List.drop_succ_cons, List.drop_zero, List.take_succ_cons, List.take_zero, List.length_cons, List.length_nil, List.reverse_cons, List.reverse_nil, List.nil_append, List.cons_append, List.append_nil, List.getElem?_cons_zero, List.getElem?_cons_succ, List.set_cons_zero, List.set_cons_succ, Nat.add_sub_cancel_left, Nat.sub_self, Nat.add_zero, Nat.zero_add, Nat.le_add_right, Nat.le_refl, true_and, and_true, va_rf, zok, Nat.add_left_cancel_iff, Nat.add_eq_left, Nat.left_eq_add, eq_self, if_true, if_false, not_false_eq_true, not_true_eq_false, false_implies, true_implies, Nat.reduceEqDiff, Nat.reduceAdd, Nat.reduceLT, Nat.reduceLeDiff, reduceIte]
    exact ⟨Or.inr trivial, hP E2 g2 (by rw [gk2 7 (by omega)]; simp [e_up]) (fun j hj h7 => by rw [gk2 j hj]; simp only [e_up]; rw [if_neg h7]; exact gk j hj)⟩
  · rw [if_neg c1] at hP
    exact ⟨Or.inl trivial, hP E1 g1' gk⟩
set_option maxRecDepth 20000 in
theorem f_X3_comesEnd_34 : Cond.fieldLink RX3 34 (TX3 3).1 (TX3 3).2.1 (TX3 3).2.2.1 ∈ wsX3_comesEnd := by decide +kernel
set_option maxRecDepth 20000 in
theorem k_X3_comesEnd_3 : ∀ w ∈ u_ws RX3 TX3 7, w ∈ wsX3_comesEnd := fun _ h => List.mem_cons_of_mem _ (List.mem_append_left _ (List.mem_append_right _ h))
set_option maxRecDepth 20000 in
theorem f_X3_comesEnd_76 : Cond.fieldLink RX3 76 (TX4 1).1 (TX4 1).2.1 (TX4 1).2.2.1 ∈ wsX3_comesEnd := by decide +kernel
set_option maxRecDepth 20000 in
theorem k_X3_comesEnd_4 : ∀ w ∈ u_ws RX4 TX4 6, w ∈ wsX3_comesEnd := fun _ h => List.mem_cons_of_mem _ (List.mem_append_right _ h)
set_option maxRecDepth 100000 in
set_option maxHeartbeats 4000000 in
theorem S_X3_comesEnd_0 {p : Program} {e : Env} {s : State} {m : MethodId} {args : Array Value} {below : List Frame} {meth : Method} {c : Code} {D : va_G} {cy : zY} {b n0 : Nat} {P : zPo} (la : Launch) (X : zX p la e (rm_X3_comesEnd) s m args below meth c 2 D cy b n0 cX3_comesEnd wsX3_comesEnd RX3) (hr : meth.sig.returnType = (some .boolean)) (h_X3_advance : zMet la yX3_advance wsX3_advance rm_X3_advance 0 0 sp_X3_advance) : zS p la e (rm_X3_comesEnd) s m args below meth c (MQ below (zQ D b (n0 + 0) P) args s 0 0 (fun q => b ≤ q)) 2 D b n0 0 (B_X3_comesEnd_0 b n0 cy P (zAt p la e (rm_X3_comesEnd) s m args below meth c (MQ below (zQ D b (n0 + 0) P) args s 0 0 (fun q => b ≤ q)) 2 D b n0)) := by
  unfold B_X3_comesEnd_0
  exact (s_aload_n X dX3_comesEnd_0 rfl (s_callV X h_X3_advance dX3_comesEnd_1 rfl gX3_comesEnd_X3_advance rfl rfl rfl (by decide +kernel) ⟨by decide, by decide⟩ (s_aload_n X dX3_comesEnd_4 rfl (s_get X dX3_comesEnd_5 rfl k_X3_comesEnd_3 (by decide) f_X3_comesEnd_34 (s_iconst X dX3_comesEnd_8 (by decide) (s_icmp_eq X dX3_comesEnd_9 (by decide) (s_aload_n X dX3_comesEnd_14 rfl (s_dup X dX3_comesEnd_15 (s_get X dX3_comesEnd_16 rfl k_X3_comesEnd_4 (by decide) f_X3_comesEnd_76 (s_iconst X dX3_comesEnd_19 (by decide) (s_iadd X dX3_comesEnd_20 (s_put X dX3_comesEnd_21 rfl k_X3_comesEnd_4 tyX4_ok nmX4 (by decide) f_X3_comesEnd_76 rfl (tyX4_ok 1 (by decide)) zok_int (s_aload_n X dX3_comesEnd_24 rfl (s_callV X h_X3_advance dX3_comesEnd_25 rfl gX3_comesEnd_X3_advance rfl rfl rfl (by decide +kernel) ⟨by decide, by decide⟩ (s_iconst X dX3_comesEnd_28 (by decide) (s_zret X dX3_comesEnd_29 hr)))))))))) (s_iconst X dX3_comesEnd_12 (by decide) (s_zret X dX3_comesEnd_13 hr))))))))
theorem w_X3_comesEnd (la : Launch) (h_X3_advance : zMet la yX3_advance wsX3_advance rm_X3_advance 0 0 sp_X3_advance) (sp : zSp) (vc : zVC_X3_comesEnd sp) : zMet la yX3_comesEnd wsX3_comesEnd (rm_X3_comesEnd) 0 0 sp :=
  z_of (cc := cX3_comesEnd) (maxL := 2) (ret := (some .boolean)) (by decide +kernel) rfl (fun p e s m args below meth c D cy b n as E P hsp X hr hin => by
    obtain ⟨h1, h2⟩ := vc b cy n as E P (zAt p la e (rm_X3_comesEnd) s m args below meth c (MQ below (zQ D b (n + 0) P) args s 0 0 (fun q => b ≤ q)) 2 D b n) hsp
    exact ⟨h1, S_X3_comesEnd_0 la X hr h_X3_advance _ _ _ _ _ h2⟩)

theorem m_X3_comesEnd (la : Launch) : zMet la yX3_comesEnd wsX3_comesEnd rm_X3_comesEnd 0 0 sp_X3_comesEnd := w_X3_comesEnd la (m_X3_advance la) _ vc_X3_comesEnd

