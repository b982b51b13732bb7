theorem zwhom_congr {n : Nat} {lo c c' : Nat → Nat} {r by0 : Nat} (hr : r < 6) (hn : n ≤ 6) (h1 : c' 1 = c 1) (h2 : ∀ j, j < 6 → c' (4 + j) = c (4 + j)) : zwhom n lo c' r by0 = zwhom n lo c r by0 := by
  unfold zwhom zwho
  rw [h1, h2 r hr]
  rw [zfo_congr (fun q _ => rfl) (fun q f hq hf _ _ => ?_)]
  rw [h2 q (by omega), h2 f (by omega)]
/-- how many think, of those below k -/
def zkn (n : Nat) (lo la c : Nat → Nat) : Nat → Nat := zsum (fun a => if (zwhom n lo c a (la a)).isSome = true then 1 else 0)
theorem zrideL_all {n : Nat} {lo la c : Nat → Nat} (hn : n ≤ 6) : ∀ k, k ≤ n → (zrideL n lo la k c) 2 = c 2 + zkn n lo la c k ∧ (∀ j, j < 16 → j ≠ 2 → (zrideL n lo la k c) j = c j) ∧ ∀ a q, a < 6 → q < 6 → (zrideL n lo la k c) (16 + 6 * a + q) = if a < k ∧ zwhom n lo c a (la a) = some q then c 2 + zkn n lo la c a + 1 else c (16 + 6 * a + q) := by
  intro k
  induction k with
  | zero => intro _; exact ⟨rfl, fun _ _ _ => rfl, fun a q _ _ => by rw [if_neg (fun h => absurd h.1 (Nat.not_lt_zero _))]; rfl⟩
  | succ k ih =>
    intro hk
    obtain ⟨i1, i2, i3⟩ := ih (by omega)
    have hw : zwhom n lo (zrideL n lo la k c) k (la k) = zwhom n lo c k (la k) := zwhom_congr (by omega) hn (i2 1 (by omega) (by omega)) (fun j hj => i2 (4 + j) (by omega) (by omega))
    rw [zrideL_s, hw]
    have hs : zkn n lo la c (k + 1) = zkn n lo la c k + (if (zwhom n lo c k (la k)).isSome = true then 1 else 0) := rfl
    rw [hs]
    cases hz : zwhom n lo c k (la k) with
    | none =>
      refine ⟨i1, i2, fun a q ha hq => ?_⟩
      simp only
      rw [i3 a q ha hq]
      by_cases e : a = k
      · subst e
        rw [if_neg (fun h => absurd h.1 (Nat.lt_irrefl _)), if_neg (fun h => by rw [hz] at h; cases h.2)]
      · by_cases e2 : a < k ∧ zwhom n lo c a (la a) = some q
        · rw [if_pos e2, if_pos ⟨by omega, e2.2⟩]
        · rw [if_neg e2, if_neg (fun h => e2 ⟨by omega, h.2⟩)]
    | some w =>
      have hw6 := (zwhom_lt hz).1
      refine ⟨?_, fun j hj hj2 => ?_, fun a q ha hq => ?_⟩
      · simp only; rw [zthink_2, i1]; simp only [Option.isSome_some, if_true]; omega
      · simp only; rw [zthink_lo hj hj2]; exact i2 j hj hj2
      · simp only
        have e0 := zthink_hi (c := zrideL n lo la k c) (r := k) (q := w) (j := 6 * a + q)
        rw [← Nat.add_assoc] at e0
        rw [e0, i3 a q ha hq, i1]
        by_cases e : 6 * a + q = 6 * k + w
        · have ea : a = k := by omega
          have eq : q = w := by omega
          rw [if_pos e, if_pos ⟨by omega, by rw [ea, eq]; exact hz⟩, ea]
        · rw [if_neg e]
          by_cases e3 : a = k
          · have hne : ¬ zwhom n lo c a (la a) = some q := fun h => by
              rw [e3, hz] at h; cases h; omega
            rw [if_neg (fun h => hne h.2), if_neg (fun h => hne h.2)]
          · by_cases e2 : a < k ∧ zwhom n lo c a (la a) = some q
            · rw [if_pos e2, if_pos ⟨by omega, e2.2⟩]
            · rw [if_neg e2, if_neg (fun h => e2 ⟨by omega, h.2⟩)]
theorem zride_all {n : Nat} {lo la c : Nat → Nat} (hn : n ≤ 6) : (zride n lo la c) 2 = c 2 + zkn n lo la c n ∧ (zride n lo la c) 0 = c 0 + 1 ∧ (∀ j, j < 16 → j ≠ 2 → j ≠ 0 → (zride n lo la c) j = c j) ∧ ∀ a q, a < 6 → q < 6 → (zride n lo la c) (16 + 6 * a + q) = if a < n ∧ zwhom n lo c a (la a) = some q then c 2 + zkn n lo la c a + 1 else c (16 + 6 * a + q) := by
  obtain ⟨h1, h2, h3⟩ := zrideL_all (lo := lo) (la := la) (c := zup c 0 (c 0 + 1)) hn n (Nat.le_refl _)
  have e : ∀ k, k ≠ 0 → zup c 0 (c 0 + 1) k = c k := fun k hk => by unfold zup; rw [if_neg hk]
  have hw : ∀ a, a < 6 → zwhom n lo (zup c 0 (c 0 + 1)) a (la a) = zwhom n lo c a (la a) := fun a ha => zwhom_congr ha hn (e 1 (by omega)) (fun j _ => e _ (by omega))
  have hk : ∀ a, a ≤ 6 → zkn n lo la (zup c 0 (c 0 + 1)) a = zkn n lo la c a := fun a ha => zsum_congr (fun k hk => by rw [hw k (by omega)])
  unfold zride
  refine ⟨by rw [h1, e 2 (by omega), hk n hn], by rw [h2 0 (by omega) (by omega)]; unfold zup; rw [if_pos rfl], fun j hj a1 a2 => by rw [h2 j hj a1, e j a2], fun a q ha hq => ?_⟩
  rw [h3 a q ha hq, hw a ha, e 2 (by omega), hk a (by omega), e _ (by omega)]
/-- one stop further brings the same order -/
theorem zring_again {n : Nat} {lo la c : Nat → Nat} (h : zMok n c) {M r : Nat} (hr : r < 6) : zring n (zride n lo la (zride n lo la c)) M r = zring n (zride n lo la c) M r := by
  have hn := h.1
  obtain ⟨a1, a2, a3, a4⟩ := zride_all (lo := lo) (la := la) (c := c) hn
  obtain ⟨b1, b2, b3, b4⟩ := zride_all (lo := lo) (la := la) (c := zride n lo la c) hn
  have hw : ∀ a, a < 6 → zwhom n lo (zride n lo la c) a (la a) = zwhom n lo c a (la a) := fun a ha => zwhom_congr ha hn (a3 1 (by omega) (by omega) (by omega)) (fun j _ => a3 _ (by omega) (by omega) (by omega))
  have hk : ∀ a, a ≤ 6 → zkn n lo la (zride n lo la c) a = zkn n lo la c a := fun a ha => zsum_congr (fun k hk => by rw [hw k (by omega)])
  have l36 : ∀ a, a < 6 → c (16 + 6 * a + r) ≤ c 2 := fun a ha => by have := h.2.2.2.2.2.1 (6 * a + r) (by omega); rwa [← Nat.add_assoc] at this
  have v1 : ∀ a, a < n → (zride n lo la c) (16 + 6 * a + r) = if zwhom n lo c a (la a) = some r then c 2 + zkn n lo la c a + 1 else c (16 + 6 * a + r) := fun a ha => by
    rw [a4 a r (by omega) hr]
    by_cases e : zwhom n lo c a (la a) = some r
    · rw [if_pos e, if_pos ⟨ha, e⟩]
    · rw [if_neg e, if_neg (fun h => e h.2)]
  have v2 : ∀ a, a < n → (zride n lo la (zride n lo la c)) (16 + 6 * a + r) = if zwhom n lo c a (la a) = some r then c 2 + zkn n lo la c n + zkn n lo la c a + 1 else c (16 + 6 * a + r) := fun a ha => by
    rw [b4 a r (by omega) hr, hw a (by omega), a1, hk a (by omega), v1 a ha]
    by_cases e : zwhom n lo c a (la a) = some r
    · rw [if_pos ⟨ha, e⟩, if_pos e]
    · rw [if_neg e, if_neg (fun h => e h.2), if_neg e]
  unfold zring
  refine zfo_congr (fun q hq => ?_) (fun q f hq hf _ _ => ?_)
  · rw [v1 q hq, v2 q hq]
    by_cases e : zwhom n lo c q (la q) = some r
    · rw [if_pos e, if_pos e, decide_eq_true (show 0 < c 2 + zkn n lo la c n + zkn n lo la c q + 1 by omega), decide_eq_true (show 0 < c 2 + zkn n lo la c q + 1 by omega)]
    · rw [if_neg e, if_neg e]
  · have lq := l36 q (by omega)
    have lf := l36 f (by omega)
    rw [v1 q hq, v2 q hq, v1 f hf, v2 f hf]
    apply decide_eq_decide.mpr
    by_cases e : zwhom n lo c q (la q) = some r <;> by_cases e2 : zwhom n lo c f (la f) = some r
    · rw [if_pos e, if_pos e, if_pos e2, if_pos e2]; omega
    · rw [if_pos e, if_pos e, if_neg e2, if_neg e2]; omega
    · rw [if_neg e, if_neg e, if_pos e2, if_pos e2]; omega
    · rw [if_neg e, if_neg e, if_neg e2, if_neg e2]
theorem zrows_congr {n : Nat} {c c' : Nat → Nat} {S : Nat} (hn : n ≤ 6) (h : ∀ M r, r < 6 → zring n c' M r = zring n c M r) : ∀ f M G, zrows n c' S f M G = zrows n c S f M G := by
  have hd : ∀ M G r, r < n → zdir n c' S M G r = zdir n c S M G r := fun M G r hr => by unfold zdir; rw [h M r (by omega)]
  intro f
  induction f with
  | zero => intro M G; rfl
  | succ f ih =>
    intro M G
    rw [zrows, zrows]
    have e : zsum (fun r => match zdir n c' S M G r with | none => 0 | some q => zrows n c' S f (zclr M q) (zset G r)) n = zsum (fun r => match zdir n c S M G r with | none => 0 | some q => zrows n c S f (zclr M q) (zset G r)) n := by
      refine zsum_congr (fun r hr => ?_)
      rw [hd M G r hr]
      cases zdir n c S M G r with
      | none => rfl
      | some q => exact ih _ _
    by_cases q : S &&& M = 0
    · rw [if_pos q, if_pos q]
    · rw [if_neg q, if_neg q]; exact e
def zrideN (n : Nat) (lo la c : Nat → Nat) : Nat → (Nat → Nat)
  | 0 => c
  | k + 1 => zride n lo la (zrideN n lo la c k)
theorem zrideN_b {n : Nat} {lo la c : Nat → Nat} (h : zMok n c) (h0 : c 0 ≤ 99) (h2 : c 2 < 900000) : ∀ k, k ≤ 21 → zMok n (zrideN n lo la c k) ∧ (zrideN n lo la c k) 0 = c 0 + k ∧ (zrideN n lo la c k) 1 = c 1 ∧ (zrideN n lo la c k) 2 ≤ c 2 + 6 * k := by
  intro k
  induction k with
  | zero => intro _; exact ⟨h, rfl, rfl, Nat.le_refl _⟩
  | succ k ih =>
    intro hk
    obtain ⟨i1, i2, i3, i4⟩ := ih (by omega)
    obtain ⟨j1, j2⟩ := i1.ride (lo := lo) (la := la) (by omega) (by omega)
    obtain ⟨a1, a2, a3, a4⟩ := zride_all (lo := lo) (la := la) (c := zrideN n lo la c k) h.1
    exact ⟨j1, by rw [zrideN, a2, i2]; omega, by rw [zrideN, a3 1 (by omega) (by omega) (by omega), i3], by rw [zrideN]; omega⟩
theorem zrideN_rows {n : Nat} {lo la c : Nat → Nat} {S M G : Nat} (h : zMok n c) (h0 : c 0 ≤ 99) (h2 : c 2 < 900000) : ∀ k, k ≤ 20 → zrows n (zrideN n lo la c (k + 1)) S 6 M G = zrows n (zride n lo la c) S 6 M G := by
  intro k
  induction k with
  | zero => intro _; rfl
  | succ k ih =>
    intro hk
    rw [← ih (by omega)]
    have hb := (zrideN_b (lo := lo) (la := la) h h0 h2 k (by omega)).1
    exact zrows_congr h.1 (fun M r hr => zring_again hb hr) 6 M G
def sp_X6_soon : zSp := fun b cy as N E P => ∃ x : Int32, zPM (op_soon x) [.int x] b cy as N E P
abbrev rm_X6_soon : Room := { frames := 5, cells := 0, slots := 0, locals := 135 }
def B_X6_soon_16 (b n0 : Nat) (cy : zY) (P : zPo) (A : Nat → zC) : zC :=
  z_iload 2 (z_const (20) (z_icmp (fun x y => y < x) (z_const (-9) (z_iret 0 0 P)) (z_aload 0 (z_aload 0 (z_get b n0 6 16 (z_iload 1 (z_callV b n0 0 0 cy 6 2 0 0 sp_X6_rowsOf (z_if (fun x => x ≤ 0) (z_aload 0 (z_aload 0 (z_get b n0 6 16 (z_callV b n0 0 0 cy 6 1 0 0 sp_X6_ride (z_iinc 2 (1) (z_cut [0, 1, 2] (A 16))))))) (z_iload 2 (z_iret 0 0 P))))))))))
def B_X6_soon_0 (b n0 : Nat) (cy : zY) (P : zPo) (A : Nat → zC) : zC :=
  z_aload 0 (z_iload 1 (z_callV b n0 0 0 cy 6 1 0 0 sp_X6_isSet (z_if (fun x => x = 0) (z_const (-1) (z_iret 0 0 P)) (z_aload 0 (z_callV b n0 0 0 cy 6 0 0 0 sp_X6_take (z_const (0) (z_istore 2 (z_cut [0, 1, 2] (A 16)))))))))
def zVC_X6_soon (sp : zSp) : Prop := ∀ (b : Nat) (cy : zY) (n : Nat) (as : List Value) (E : zE) (P : zPo) (A : Nat → zC), (∀ l st k u E, B_X6_soon_16 b n cy P A l st k u E → A 16 l st k u E) → sp b cy as n E P → zgood as 3 ∧ B_X6_soon_0 b n cy P A (lv_args 0 as) [] 0 0 E

set_option maxRecDepth 100000 in
set_option maxHeartbeats 4000000 in
theorem vc_X6_soon : zVC_X6_soon sp_X6_soon := by
  intro b cy N as E P A hA hsp
  obtain ⟨x, K, ⟨T, D, C, I, S, tr⟩, rfl, hmd, hok, hK, hN, hP⟩ := hsp
  refine ⟨⟨Nat.le_of_ble_eq_true rfl, zg1 rfl (zg1 rfl (zg0))⟩, ?_⟩
  have N0 : 159 < N := by omega
  have N6 : 166 < N := by omega
  obtain ⟨lt, q, st, so, va, fa, e0⟩ := hmd.o
  replace e0 : E 159 = zM0 b tr (nI T.1) lt q st so va fa (nI S.1) := e0
  have hR := hmd.mr hok hN
  obtain ⟨f, hW, hCa⟩ := hmd.wr
  have hE := hW.2.2.1
  obtain ⟨h8, h9⟩ : (∃ g : Nat → Int32, E 168 = .inl (cy 1, 52, .inl g)) ∧ (∃ g : Nat → Int32, E 169 = .inl (cy 1, 6, .inl g)) := by obtain ⟨_, _, _, _, _, _, _, _, _, a, c, _⟩ := hmd; exact ⟨a, c⟩
  obtain ⟨hn, hlo, _, _, _, ⟨hmk, hs99, hth, hm10, _⟩, _⟩ := id hok
  replace hn : D.1 ≤ 6 := hn
  obtain ⟨v0, v4, v10, v16⟩ := zCm0 hW.2.2.2
  have N8 : 168 < N := by omega
  have N9 : 169 < N := by omega
  have h99 : C.1 0 ≤ 99 := hs99
  have hth' : C.1 2 ≤ K := hth
  simp only [op_soon] at hP
  simp -implicitDefEqProofs only [B_X6_soon_0, e_cut, e_iload, e_aload, e_istore, e_astore, e_iinc, e_const, e_lconst, e_bin, e_bin0, e_un, e_ladd, e_dupi, e_dupr, e_dup2, e_pop, e_sw, e_sw0, e_sw1, e_get, e_put, e_ald, e_ast, e_aald, e_aast, e_copy, e_new, e_newa, e_anewa, e_min, e_abs, e_oinit, e_callI, e_callV, e_callS, e_iret, e_zret, e_lret, e_vret, e_tl1, e_tl0, e_tl2, e_tl3, z10, Bool.false_eq_true, e_argi, e_argr, e_argn, zld_c, zst_n, zst_c, zpick_n, zpick_c, List.drop_succ_cons, List.drop_zero, List.take_succ_cons, List.take_zero, List.length_cons, List.length_nil, List.reverse_cons, List.reverse_nil, List.nil_append, List.cons_append, List.append_nil, List.getElem?_cons_zero, List.getElem?_cons_succ, List.set_cons_zero, List.set_cons_succ, Nat.add_sub_cancel_left, Nat.sub_self, Nat.add_zero, Nat.zero_add, Nat.le_add_right, Nat.le_refl, true_and, and_true, va_rf, zok, Nat.add_left_cancel_iff, Nat.add_eq_left, Nat.left_eq_add, eq_self, if_true, if_false, not_false_eq_true, not_true_eq_false, false_implies, true_implies, Nat.reduceEqDiff, Nat.reduceAdd, Nat.reduceLT, Nat.reduceLeDiff, reduceIte, zM0, e0, N0]
  refine ⟨_, _, _, C.1, x, rfl, hR, hW.ar, hmk.2.1, ?_⟩
  by_cases q1 : zsub (C.1 1) x = true
  · rw [if_pos q1] at hP ⊢
    obtain ⟨s, hs, rfl, hsM⟩ := zsub_t hmk.l64 q1
    rw [zcl_i (show s < 2 ^ 31 by omega)] at hP
    simp -implicitDefEqProofs only [e_cut, e_iload, e_aload, e_istore, e_astore, e_iinc, e_const, e_lconst, e_bin, e_bin0, e_un, e_ladd, e_dupi, e_dupr, e_dup2, e_pop, e_sw, e_sw0, e_sw1, e_get, e_put, e_ald, e_ast, e_aald, e_aast, e_copy, e_new, e_newa, e_anewa, e_min, e_abs, e_oinit, e_callI, e_callV, e_callS, e_iret, e_zret, e_lret, e_vret, e_tl1, e_tl0, e_tl2, e_tl3, z10, Bool.false_eq_true, e_argi, e_argr, e_argn, zld_c, zst_n, zst_c, zpick_n, zpick_c, List.drop_succ_cons, List.drop_zero, List.take_succ_cons, List.take_zero, List.length_cons, List.length_nil, List.reverse_cons, List.reverse_nil, List.nil_append, List.cons_append, List.append_nil, List.getElem?_cons_zero, List.getElem?_cons_succ, List.set_cons_zero, List.set_cons_succ, Nat.add_sub_cancel_left, Nat.sub_self, Nat.add_zero, Nat.zero_add, Nat.le_add_right, Nat.le_refl, true_and, and_true, va_rf, zok, Nat.add_left_cancel_iff, Nat.add_eq_left, Nat.left_eq_add, eq_self, if_true, if_false, not_false_eq_true, not_true_eq_false, false_implies, true_implies, Nat.reduceEqDiff, Nat.reduceAdd, Nat.reduceLT, Nat.reduceLeDiff, reduceIte, e_iff (c1 := fun x => x = 0) (x := 1) (by decide), zM0, e0, N0]
    obtain ⟨h, hh⟩ := h8
    refine ⟨D.1, 1719, D.2.1, D.2.2.1, C.1, f, h, rfl, hR, hW, hh, fun E1 f1 hw1 hk1 => ?_⟩
    simp -implicitDefEqProofs only [e_cut, e_iload, e_aload, e_istore, e_astore, e_iinc, e_const, e_lconst, e_bin, e_bin0, e_un, e_ladd, e_dupi, e_dupr, e_dup2, e_pop, e_sw, e_sw0, e_sw1, e_get, e_put, e_ald, e_ast, e_aald, e_aast, e_copy, e_new, e_newa, e_anewa, e_min, e_abs, e_oinit, e_callI, e_callV, e_callS, e_iret, e_zret, e_lret, e_vret, e_tl1, e_tl0, e_tl2, e_tl3, z10, Bool.false_eq_true, e_argi, e_argr, e_argn, zld_c, zst_n, zst_c, zpick_n, zpick_c, List.drop_succ_cons, List.drop_zero, List.take_succ_cons, List.take_zero, List.length_cons, List.length_nil, List.reverse_cons, List.reverse_nil, List.nil_append, List.cons_append, List.append_nil, List.getElem?_cons_zero, List.getElem?_cons_succ, List.set_cons_zero, List.set_cons_succ, Nat.add_sub_cancel_left, Nat.sub_self, Nat.add_zero, Nat.zero_add, Nat.le_add_right, Nat.le_refl, true_and, and_true, va_rf, zok, Nat.add_left_cancel_iff, Nat.add_eq_left, Nat.left_eq_add, eq_self, if_true, if_false, not_false_eq_true, not_true_eq_false, false_implies, true_implies, Nat.reduceEqDiff, Nat.reduceAdd, Nat.reduceLT, Nat.reduceLeDiff, reduceIte]
    have hNb := zrideN_b (lo := D.2.1) (la := D.2.2.1) hmk h99 (by omega)
    have hNr : ∀ k, k ≤ 20 → zrows D.1 (zrideN D.1 D.2.1 D.2.2.1 C.1 (k + 1)) s 6 (C.1 1) 0 = zrows D.1 (zride D.1 D.2.1 D.2.2.1 C.1) s 6 (C.1 1) 0 := fun k hk => zrideN_rows (lo := D.2.1) (la := D.2.2.1) hmk h99 (by omega) k hk
    have hb31 : ∀ c : Nat → Nat, zrows D.1 c s 6 (C.1 1) 0 < 2 ^ 31 := fun c => zrows_lt hn (by omega)
    have fin : ∀ E' : zE, (∃ g : Nat → Int32, E' 168 = .inl (cy 1, 52, .inl g)) → (∃ g : Nat → Int32, E' 169 = .inl (cy 1, 6, .inl g)) → (∀ j, j ≠ 168 → j ≠ 169 → E' j = E j) → P (some (.int (if 0 < zrows D.1 C.1 s 6 (C.1 1) 0 then 0 else if 0 < zrows D.1 (zride D.1 D.2.1 D.2.2.1 C.1) s 6 (C.1 1) 0 then 1 else -9))) E' := fun E' g8 g9 hk => hP E' (hmd.cur hE hn ((hk 166 (by omega) (by omega)).trans hE) hCa (fun _ _ => rfl) (fun j a c d => hk j c d) g8 g9) (fun j hj => hk j (by omega) (by omega))
    have loop : ∀ (d k : Nat) (g : Nat → Int32) (E2 : zE), d + k = 21 → (∀ j, j < k → zrows D.1 (zrideN D.1 D.2.1 D.2.2.1 C.1 j) s 6 (C.1 1) 0 = 0) → zWr cy E2 168 52 D.1 g (zrideN D.1 D.2.1 D.2.2.1 C.1 k) → (∃ h : Nat → Int32, E2 169 = .inl (cy 1, 6, .inl h)) → (∀ j, j ≠ 168 → j ≠ 169 → E2 j = E j) → A 16 [(0, .ref (b + 159)), (1, .int (nI s)), (2, .int (nI k))] [] 0 0 E2 := by
      intro d
      induction d with
      | zero =>
        intro k g E2 hd hz hw g9 hk
        obtain rfl : k = 21 := by omega
        apply hA
        have cle : (20 : Int32) < nI 21 := by decide
        have r0 := hz 0 (by omega)
        have r1 := hz 1 (by omega)
        have := fin E2 ⟨g, hw.2.2.1⟩ g9 hk
        rw [if_neg (by have : zrows D.1 C.1 s 6 (C.1 1) 0 = 0 := r0; omega), if_neg (by have : zrows D.1 (zride D.1 D.2.1 D.2.2.1 C.1) s 6 (C.1 1) 0 = 0 := r1; omega)] at this
        simp -implicitDefEqProofs only [B_X6_soon_16, e_cut, e_iload, e_aload, e_istore, e_astore, e_iinc, e_const, e_lconst, e_bin, e_bin0, e_un, e_ladd, e_dupi, e_dupr, e_dup2, e_pop, e_sw, e_sw0, e_sw1, e_get, e_put, e_ald, e_ast, e_aald, e_aast, e_copy, e_new, e_newa, e_anewa, e_min, e_abs, e_oinit, e_callI, e_callV, e_callS, e_iret, e_zret, e_lret, e_vret, e_tl1, e_tl0, e_tl2, e_tl3, z10, Bool.false_eq_true, e_argi, e_argr, e_argn, zld_c, zst_n, zst_c, zpick_n, zpick_c, List.drop_succ_cons, List.drop_zero, List.take_succ_cons, List.take_zero, List.length_cons, List.length_nil, List.reverse_cons, List.reverse_nil, List.nil_append, List.cons_append, List.append_nil, List.getElem?_cons_zero, List.getElem?_cons_succ, List.set_cons_zero, List.set_cons_succ, Nat.add_sub_cancel_left, Nat.sub_self, Nat.add_zero, Nat.zero_add, Nat.le_add_right, Nat.le_refl, true_and, and_true, va_rf, zok, Nat.add_left_cancel_iff, Nat.add_eq_left, Nat.left_eq_add, eq_self, if_true, if_false, not_false_eq_true, not_true_eq_false, false_implies, true_implies, Nat.reduceEqDiff, Nat.reduceAdd, Nat.reduceLT, Nat.reduceLeDiff, reduceIte, e_icmpt (c2 := fun x y => y < x) cle]
        exact this
      | succ d ih =>
        intro k g E2 hd hz hw g9 hk
        apply hA
        have cle : ¬ (20 : Int32) < nI k := fun h => by have := (nI_ltI (a := 20) (b := k) (by omega) (by omega)).mp h; omega
        have f0 := (hk 159 (by omega) (by omega)).trans e0
        obtain ⟨m1, m2, m3, m4⟩ := hNb k (by omega)
        have hRk : ∀ E' : zE, (∀ j, j ≠ 168 → j ≠ 169 → E' j = E j) → zMR b cy N E' D.1 D.2.1 D.2.2.1 := fun E' h => hR.congr (h _ (by omega) (by omega)) (h _ (by omega) (by omega)) (h _ (by omega) (by omega)) (h _ (by omega) (by omega))
        simp -implicitDefEqProofs only [B_X6_soon_16, e_cut, e_iload, e_aload, e_istore, e_astore, e_iinc, e_const, e_lconst, e_bin, e_bin0, e_un, e_ladd, e_dupi, e_dupr, e_dup2, e_pop, e_sw, e_sw0, e_sw1, e_get, e_put, e_ald, e_ast, e_aald, e_aast, e_copy, e_new, e_newa, e_anewa, e_min, e_abs, e_oinit, e_callI, e_callV, e_callS, e_iret, e_zret, e_lret, e_vret, e_tl1, e_tl0, e_tl2, e_tl3, z10, Bool.false_eq_true, e_argi, e_argr, e_argn, zld_c, zst_n, zst_c, zpick_n, zpick_c, List.drop_succ_cons, List.drop_zero, List.take_succ_cons, List.take_zero, List.length_cons, List.length_nil, List.reverse_cons, List.reverse_nil, List.nil_append, List.cons_append, List.append_nil, List.getElem?_cons_zero, List.getElem?_cons_succ, List.set_cons_zero, List.set_cons_succ, Nat.add_sub_cancel_left, Nat.sub_self, Nat.add_zero, Nat.zero_add, Nat.le_add_right, Nat.le_refl, true_and, and_true, va_rf, zok, Nat.add_left_cancel_iff, Nat.add_eq_left, Nat.left_eq_add, eq_self, if_true, if_false, not_false_eq_true, not_true_eq_false, false_implies, true_implies, Nat.reduceEqDiff, Nat.reduceAdd, Nat.reduceLT, Nat.reduceLeDiff, reduceIte, e_icmpf (c2 := fun x y => y < x) cle, zM0, f0, N0]
        refine ⟨168, D.1, _, _, zrideN D.1 D.2.1 D.2.2.1 C.1 k, s, rfl, hRk E2 hk, hw.ar, m1, N8, by omega, hs, by rw [m3]; exact hsM, g9, fun E3 g3 h39 _ hk3 => ?_⟩
        rw [m3]
        have hk' : ∀ j, j ≠ 168 → j ≠ 169 → E3 j = E j := fun j a c => (hk3 j c).trans (hk j a c)
        have f03 := (hk' 159 (by omega) (by omega)).trans e0
        have h38 := (hk3 168 (by omega)).trans hw.2.2.1
        have kz : (nI (zrows D.1 (zrideN D.1 D.2.1 D.2.2.1 C.1 k) s 6 (C.1 1) 0) ≤ 0) = (zrows D.1 (zrideN D.1 D.2.1 D.2.2.1 C.1 k) s 6 (C.1 1) 0 ≤ 0) := propext (nI_leI (b := 0) (hb31 _) (by omega))
        by_cases c2 : zrows D.1 (zrideN D.1 D.2.1 D.2.2.1 C.1 k) s 6 (C.1 1) 0 ≤ 0
        · simp -implicitDefEqProofs only [e_cut, e_iload, e_aload, e_istore, e_astore, e_iinc, e_const, e_lconst, e_bin, e_bin0, e_un, e_ladd, e_dupi, e_dupr, e_dup2, e_pop, e_sw, e_sw0, e_sw1, e_get, e_put, e_ald, e_ast, e_aald, e_aast, e_copy, e_new, e_newa, e_anewa, e_min, e_abs, e_oinit, e_callI, e_callV, e_callS, e_iret, e_zret, e_lret, e_vret, e_tl1, e_tl0, e_tl2, e_tl3, z10, Bool.false_eq_true, e_argi, e_argr, e_argn, zld_c, zst_n, zst_c, zpick_n, zpick_c, List.drop_succ_cons, List.drop_zero, List.take_succ_cons, List.take_zero, List.length_cons, List.length_nil, List.reverse_cons, List.reverse_nil, List.nil_append, List.cons_append, List.append_nil, List.getElem?_cons_zero, List.getElem?_cons_succ, List.set_cons_zero, List.set_cons_succ, Nat.add_sub_cancel_left, Nat.sub_self, Nat.add_zero, Nat.zero_add, Nat.le_add_right, Nat.le_refl, true_and, and_true, va_rf, zok, Nat.add_left_cancel_iff, Nat.add_eq_left, Nat.left_eq_add, eq_self, if_true, if_false, not_false_eq_true, not_true_eq_false, false_implies, true_implies, Nat.reduceEqDiff, Nat.reduceAdd, Nat.reduceLT, Nat.reduceLeDiff, reduceIte, e_ift (c1 := fun x => x ≤ 0) (x := nI (zrows D.1 (zrideN D.1 D.2.1 D.2.2.1 C.1 k) s 6 (C.1 1) 0)) (kz.mpr c2), zM0, f03, N0]
          refine ⟨168, 52, D.1, D.2.1, D.2.2.1, _, g, rfl, hRk E3 hk', ⟨by omega, by omega, h38, hw.2.2.2⟩, m1, by omega, N8, by omega, by omega, fun E4 g4 hw4 _ hk4 => ?_⟩
          simp -implicitDefEqProofs only [e_cut, e_iload, e_aload, e_istore, e_astore, e_iinc, e_const, e_lconst, e_bin, e_bin0, e_un, e_ladd, e_dupi, e_dupr, e_dup2, e_pop, e_sw, e_sw0, e_sw1, e_get, e_put, e_ald, e_ast, e_aald, e_aast, e_copy, e_new, e_newa, e_anewa, e_min, e_abs, e_oinit, e_callI, e_callV, e_callS, e_iret, e_zret, e_lret, e_vret, e_tl1, e_tl0, e_tl2, e_tl3, z10, Bool.false_eq_true, e_argi, e_argr, e_argn, zld_c, zst_n, zst_c, zpick_n, zpick_c, List.drop_succ_cons, List.drop_zero, List.take_succ_cons, List.take_zero, List.length_cons, List.length_nil, List.reverse_cons, List.reverse_nil, List.nil_append, List.cons_append, List.append_nil, List.getElem?_cons_zero, List.getElem?_cons_succ, List.set_cons_zero, List.set_cons_succ, Nat.add_sub_cancel_left, Nat.sub_self, Nat.add_zero, Nat.zero_add, Nat.le_add_right, Nat.le_refl, true_and, and_true, va_rf, zok, Nat.add_left_cancel_iff, Nat.add_eq_left, Nat.left_eq_add, eq_self, if_true, if_false, not_false_eq_true, not_true_eq_false, false_implies, true_implies, Nat.reduceEqDiff, Nat.reduceAdd, Nat.reduceLT, Nat.reduceLeDiff, reduceIte, nI_1]
          refine ih (k + 1) g4 E4 (by omega) (fun j hj => ?_) hw4 ⟨g3, (hk4 169 (by omega)).trans h39⟩ (fun j a c => (hk4 j a).trans (hk' j a c))
          by_cases e : j = k
          · rw [e]; omega
          · exact hz j (by omega)
        · simp -implicitDefEqProofs only [e_cut, e_iload, e_aload, e_istore, e_astore, e_iinc, e_const, e_lconst, e_bin, e_bin0, e_un, e_ladd, e_dupi, e_dupr, e_dup2, e_pop, e_sw, e_sw0, e_sw1, e_get, e_put, e_ald, e_ast, e_aald, e_aast, e_copy, e_new, e_newa, e_anewa, e_min, e_abs, e_oinit, e_callI, e_callV, e_callS, e_iret, e_zret, e_lret, e_vret, e_tl1, e_tl0, e_tl2, e_tl3, z10, Bool.false_eq_true, e_argi, e_argr, e_argn, zld_c, zst_n, zst_c, zpick_n, zpick_c, List.drop_succ_cons, List.drop_zero, List.take_succ_cons, List.take_zero, List.length_cons, List.length_nil, List.reverse_cons, List.reverse_nil, List.nil_append, List.cons_append, List.append_nil, List.getElem?_cons_zero, List.getElem?_cons_succ, List.set_cons_zero, List.set_cons_succ, Nat.add_sub_cancel_left, Nat.sub_self, Nat.add_zero, Nat.zero_add, Nat.le_add_right, Nat.le_refl, true_and, and_true, va_rf, zok, Nat.add_left_cancel_iff, Nat.add_eq_left, Nat.left_eq_add, eq_self, if_true, if_false, not_false_eq_true, not_true_eq_false, false_implies, true_implies, Nat.reduceEqDiff, Nat.reduceAdd, Nat.reduceLT, Nat.reduceLeDiff, reduceIte, e_iff (c1 := fun x => x ≤ 0) (x := nI (zrows D.1 (zrideN D.1 D.2.1 D.2.2.1 C.1 k) s 6 (C.1 1) 0)) (fun h => c2 (kz.mp h))]
          have hf := fin E3 ⟨g, h38⟩ ⟨g3, h39⟩ hk'
          match k, hz, c2 with
          | 0, _, c2 =>
            rw [if_pos (by have : zrows D.1 (zrideN D.1 D.2.1 D.2.2.1 C.1 0) s 6 (C.1 1) 0 = zrows D.1 C.1 s 6 (C.1 1) 0 := rfl; omega)] at hf
            exact hf
          | 1, hz, c2 =>
            have r0 : zrows D.1 C.1 s 6 (C.1 1) 0 = 0 := hz 0 (by omega)
            rw [if_neg (by omega), if_pos (by have : zrows D.1 (zrideN D.1 D.2.1 D.2.2.1 C.1 1) s 6 (C.1 1) 0 = zrows D.1 (zride D.1 D.2.1 D.2.2.1 C.1) s 6 (C.1 1) 0 := rfl; omega)] at hf
            exact hf
          | k + 2, hz, c2 =>
            have r1 : zrows D.1 (zride D.1 D.2.1 D.2.2.1 C.1) s 6 (C.1 1) 0 = 0 := hz 1 (by omega)
            exact absurd (Nat.le_of_eq ((hNr (k + 1) (by omega)).trans r1)) c2
    exact loop 21 0 f1 E1 rfl (fun j hj => absurd hj (Nat.not_lt_zero _)) hw1 (by rw [hk1 169 (by omega)]; exact h9) (fun j a _ => hk1 j a)
  · rw [if_neg q1] at hP ⊢
    simp -implicitDefEqProofs only [e_cut, e_iload, e_aload, e_istore, e_astore, e_iinc, e_const, e_lconst, e_bin, e_bin0, e_un, e_ladd, e_dupi, e_dupr, e_dup2, e_pop, e_sw, e_sw0, e_sw1, e_get, e_put, e_ald, e_ast, e_aald, e_aast, e_copy, e_new, e_newa, e_anewa, e_min, e_abs, e_oinit, e_callI, e_callV, e_callS, e_iret, e_zret, e_lret, e_vret, e_tl1, e_tl0, e_tl2, e_tl3, z10, Bool.false_eq_true, e_argi, e_argr, e_argn, zld_c, zst_n, zst_c, zpick_n, zpick_c, List.drop_succ_cons, List.drop_zero, List.take_succ_cons, List.take_zero, List.length_cons, List.length_nil, List.reverse_cons, List.reverse_nil, List.nil_append, List.cons_append, List.append_nil, List.getElem?_cons_zero, List.getElem?_cons_succ, List.set_cons_zero, List.set_cons_succ, Nat.add_sub_cancel_left, Nat.sub_self, Nat.add_zero, Nat.zero_add, Nat.le_add_right, Nat.le_refl, true_and, and_true, va_rf, zok, Nat.add_left_cancel_iff, Nat.add_eq_left, Nat.left_eq_add, eq_self, if_true, if_false, not_false_eq_true, not_true_eq_false, false_implies, true_implies, Nat.reduceEqDiff, Nat.reduceAdd, Nat.reduceLT, Nat.reduceLeDiff, reduceIte, e_ift (c1 := fun x => x = 0) (x := 0) rfl]
    exact hP E hmd (fun _ _ => rfl)
set_option maxRecDepth 20000 in
theorem f_X6_soon_36 : Cond.fieldLink RX6 36 (TX6 16).1 (TX6 16).2.1 (TX6 16).2.2.1 ∈ wsX6_soon := by decide +kernel
set_option maxRecDepth 20000 in
theorem k_X6_soon_6 : ∀ w ∈ u_ws RX6 TX6 21, w ∈ wsX6_soon := fun _ h => List.mem_cons_of_mem _ (List.mem_append_right _ h)
set_option maxRecDepth 100000 in
set_option maxHeartbeats 4000000 in
theorem S_X6_soon_16 {p : Program} {e : Env} {s : State} {m : MethodId} {args : Array Value} {below : List Frame} {meth : Method} {c : Code} {D : va_G} {cy : zY} {b n0 : Nat} {P : zPo} (la : Launch) (X : zX p la e (rm_X6_soon) s m args below meth c 3 D cy b n0 cX6_soon wsX6_soon RX6) (hr : meth.sig.returnType = (some .int)) (h_X6_isSet : zMet la yX6_isSet wsX6_isSet rm_X6_isSet 0 0 sp_X6_isSet) (h_X6_ride : zMet la yX6_ride wsX6_ride rm_X6_ride 0 0 sp_X6_ride) (h_X6_rowsOf : zMet la yX6_rowsOf wsX6_rowsOf rm_X6_rowsOf 0 0 sp_X6_rowsOf) (h_X6_take : zMet la yX6_take wsX6_take rm_X6_take 0 0 sp_X6_take) : zS p la e (rm_X6_soon) s m args below meth c (MQ below (zQ D b (n0 + 0) P) args s 0 0 (fun q => b ≤ q)) 3 D b n0 16 (B_X6_soon_16 b n0 cy P (zAt p la e (rm_X6_soon) s m args below meth c (MQ below (zQ D b (n0 + 0) P) args s 0 0 (fun q => b ≤ q)) 3 D b n0)) := by
  unfold B_X6_soon_16
  exact (s_iload_n X dX6_soon_16 rfl (s_bipush X dX6_soon_17 (by decide) (s_icmp_gt X dX6_soon_19 (by decide) (s_bipush X dX6_soon_50 (by decide) (s_iret X dX6_soon_52 hr)) (s_aload_n X dX6_soon_22 rfl (s_aload_n X dX6_soon_23 rfl (s_get X dX6_soon_24 rfl k_X6_soon_6 (by decide) f_X6_soon_36 (s_iload_n X dX6_soon_27 rfl (s_callV X h_X6_rowsOf dX6_soon_28 rfl gX6_soon_X6_rowsOf rfl rfl rfl (by decide +kernel) ⟨by decide, by decide⟩ (s_if_le X dX6_soon_31 (by decide) (s_aload_n X dX6_soon_36 rfl (s_aload_n X dX6_soon_37 rfl (s_get X dX6_soon_38 rfl k_X6_soon_6 (by decide) f_X6_soon_36 (s_callV X h_X6_ride dX6_soon_41 rfl gX6_soon_X6_ride rfl rfl rfl (by decide +kernel) ⟨by decide, by decide⟩ (s_iinc X dX6_soon_44 (by decide) (by decide) (s_goto X dX6_soon_47 (by decide) (s_cut (by decide) zS_at))))))) (s_iload_n X dX6_soon_34 rfl (s_iret X dX6_soon_35 hr)))))))))))
set_option maxRecDepth 100000 in
set_option maxHeartbeats 4000000 in
theorem S_X6_soon_0 {p : Program} {e : Env} {s : State} {m : MethodId} {args : Array Value} {below : List Frame} {meth : Method} {c : Code} {D : va_G} {cy : zY} {b n0 : Nat} {P : zPo} (la : Launch) (X : zX p la e (rm_X6_soon) s m args below meth c 3 D cy b n0 cX6_soon wsX6_soon RX6) (hr : meth.sig.returnType = (some .int)) (h_X6_isSet : zMet la yX6_isSet wsX6_isSet rm_X6_isSet 0 0 sp_X6_isSet) (h_X6_ride : zMet la yX6_ride wsX6_ride rm_X6_ride 0 0 sp_X6_ride) (h_X6_rowsOf : zMet la yX6_rowsOf wsX6_rowsOf rm_X6_rowsOf 0 0 sp_X6_rowsOf) (h_X6_take : zMet la yX6_take wsX6_take rm_X6_take 0 0 sp_X6_take) : zS p la e (rm_X6_soon) s m args below meth c (MQ below (zQ D b (n0 + 0) P) args s 0 0 (fun q => b ≤ q)) 3 D b n0 0 (B_X6_soon_0 b n0 cy P (zAt p la e (rm_X6_soon) s m args below meth c (MQ below (zQ D b (n0 + 0) P) args s 0 0 (fun q => b ≤ q)) 3 D b n0)) := by
  unfold B_X6_soon_0
  exact (s_aload_n X dX6_soon_0 rfl (s_iload_n X dX6_soon_1 rfl (s_callV X h_X6_isSet dX6_soon_2 rfl gX6_soon_X6_isSet rfl rfl rfl (by decide +kernel) ⟨by decide, by decide⟩ (s_if_ne X dX6_soon_5 (by decide) (s_aload_n X dX6_soon_10 rfl (s_callV X h_X6_take dX6_soon_11 rfl gX6_soon_X6_take rfl rfl rfl (by decide +kernel) ⟨by decide, by decide⟩ (s_iconst X dX6_soon_14 (by decide) (s_istore_n X dX6_soon_15 rfl (by decide) (s_cut (by decide) zS_at))))) (s_iconst X dX6_soon_8 (by decide) (s_iret X dX6_soon_9 hr))))))
theorem w_X6_soon (la : Launch) (h_X6_isSet : zMet la yX6_isSet wsX6_isSet rm_X6_isSet 0 0 sp_X6_isSet) (h_X6_ride : zMet la yX6_ride wsX6_ride rm_X6_ride 0 0 sp_X6_ride) (h_X6_rowsOf : zMet la yX6_rowsOf wsX6_rowsOf rm_X6_rowsOf 0 0 sp_X6_rowsOf) (h_X6_take : zMet la yX6_take wsX6_take rm_X6_take 0 0 sp_X6_take) (sp : zSp) (vc : zVC_X6_soon sp) : zMet la yX6_soon wsX6_soon (rm_X6_soon) 0 0 sp :=
  z_of (cc := cX6_soon) (maxL := 3) (ret := (some .int)) (by decide +kernel) rfl (fun p e s m args below meth c D cy b n as E P hsp X hr hin => by
    obtain ⟨h1, h2⟩ := vc b cy n as E P (zAt p la e (rm_X6_soon) s m args below meth c (MQ below (zQ D b (n + 0) P) args s 0 0 (fun q => b ≤ q)) 3 D b n) (fun _ _ _ _ _ q => S_X6_soon_16 la X hr h_X6_isSet h_X6_ride h_X6_rowsOf h_X6_take _ _ _ _ _ q) hsp
    exact ⟨h1, S_X6_soon_0 la X hr h_X6_isSet h_X6_ride h_X6_rowsOf h_X6_take _ _ _ _ _ h2⟩)

theorem m_X6_soon (la : Launch) : zMet la yX6_soon wsX6_soon rm_X6_soon 0 0 sp_X6_soon := w_X6_soon la (m_X6_isSet la) (m_X6_ride la) (m_X6_rowsOf la) (m_X6_take la) _ vc_X6_soon

