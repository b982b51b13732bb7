theorem zms_cases {k : zTk} (h : k.2.1 ≤ 4) : (k.2.1 = 0 ∧ zms k = 3) ∨ (k.2.1 = 1 ∧ k.2.2.2 = 0 ∧ zms k = 4) ∨ (k.2.1 = 1 ∧ ¬ k.2.2.2 = 0 ∧ zms k = nI k.2.2.2) ∨ (k.2.1 = 2 ∧ zms k = 1) ∨ (k.2.1 = 3 ∧ zms k = 2) ∨ (k.2.1 = 4 ∧ zms k = 4) := by
  unfold zms
  rcases (show k.2.1 = 0 ∨ k.2.1 = 1 ∨ k.2.1 = 2 ∨ k.2.1 = 3 ∨ k.2.1 = 4 by omega) with h | h | h | h | h <;> rw [h]
  · exact Or.inl ⟨rfl, rfl⟩
  · by_cases e : k.2.2.2 = 0
    · exact Or.inr (Or.inl ⟨rfl, e, by rw [if_neg (by omega), if_pos rfl, if_pos e]⟩)
    · exact Or.inr (Or.inr (Or.inl ⟨rfl, e, by rw [if_neg (by omega), if_pos rfl, if_neg e]⟩))
  · exact Or.inr (Or.inr (Or.inr (Or.inl ⟨rfl, rfl⟩)))
  · exact Or.inr (Or.inr (Or.inr (Or.inr (Or.inl ⟨rfl, rfl⟩))))
  · exact Or.inr (Or.inr (Or.inr (Or.inr (Or.inr ⟨rfl, rfl⟩))))
theorem zms_c {len : Nat} {k : zTk} (h : zKo len k) {c : Nat} (h1 : 97 ≤ c) (h2 : c < 256) : (zms k = nI c) = (k.2.1 = 1 ∧ k.2.2.2 = c) := by
  obtain ⟨_, o2, _, o4, o5⟩ := h
  have n3 : ¬ (3 : Int32) = nI c := fun h => by have := (nI_eq (a := 3) (b := c) (by omega) (by omega)).mp h; omega
  have n4 : ¬ (4 : Int32) = nI c := fun h => by have := (nI_eq (a := 4) (b := c) (by omega) (by omega)).mp h; omega
  have n1 : ¬ (1 : Int32) = nI c := fun h => by have := (nI_eq (a := 1) (b := c) (by omega) (by omega)).mp h; omega
  have n2 : ¬ (2 : Int32) = nI c := fun h => by have := (nI_eq (a := 2) (b := c) (by omega) (by omega)).mp h; omega
  rcases zms_cases o2 with ⟨a, e⟩ | ⟨a, a2, e⟩ | ⟨a, a2, e⟩ | ⟨a, e⟩ | ⟨a, e⟩ | ⟨a, e⟩ <;> rw [e]
  · exact propext ⟨fun h => absurd h n3, fun h => by omega⟩
  · exact propext ⟨fun h => absurd h n4, fun h => by omega⟩
  · rw [propext (nI_eq (show k.2.2.2 < 2 ^ 31 by omega) (show c < 2 ^ 31 by omega))]
    exact propext ⟨fun h => ⟨a, h⟩, fun h => h.2⟩
  · exact propext ⟨fun h => absurd h n1, fun h => by omega⟩
  · exact propext ⟨fun h => absurd h n2, fun h => by omega⟩
  · exact propext ⟨fun h => absurd h n4, fun h => by omega⟩
theorem zms_3 {len : Nat} {k : zTk} (h : zKo len k) : (zms k = 3) = (k.2.1 = 0) := by
  obtain ⟨_, o2, _, o4, o5⟩ := h
  rcases zms_cases o2 with ⟨a, e⟩ | ⟨a, a2, e⟩ | ⟨a, a2, e⟩ | ⟨a, e⟩ | ⟨a, e⟩ | ⟨a, e⟩ <;> rw [e]
  · exact propext ⟨fun _ => a, fun _ => rfl⟩
  · exact propext ⟨fun h => absurd h (by decide), fun h => by omega⟩
  · exact propext ⟨fun h => by have := (nI_eq (a := k.2.2.2) (b := 3) (by omega) (by omega)).mp h; have := o5 a; omega, fun h => by omega⟩
  · exact propext ⟨fun h => absurd h (by decide), fun h => by omega⟩
  · exact propext ⟨fun h => absurd h (by decide), fun h => by omega⟩
  · exact propext ⟨fun h => absurd h (by decide), fun h => by omega⟩
theorem zms_2 {len : Nat} {k : zTk} (h : zKo len k) : (zms k = 2) = (k.2.1 = 3) := by
  obtain ⟨_, o2, _, o4, o5⟩ := h
  rcases zms_cases o2 with ⟨a, e⟩ | ⟨a, a2, e⟩ | ⟨a, a2, e⟩ | ⟨a, e⟩ | ⟨a, e⟩ | ⟨a, e⟩ <;> rw [e]
  · exact propext ⟨fun h => absurd h (by decide), fun h => by omega⟩
  · exact propext ⟨fun h => absurd h (by decide), fun h => by omega⟩
  · exact propext ⟨fun h => by have := (nI_eq (a := k.2.2.2) (b := 2) (by omega) (by omega)).mp h; have := o5 a; omega, fun h => by omega⟩
  · exact propext ⟨fun h => absurd h (by decide), fun h => by omega⟩
  · exact propext ⟨fun _ => a, fun _ => rfl⟩
  · exact propext ⟨fun h => absurd h (by decide), fun h => by omega⟩
def sp_X6_car : zSp := fun b cy as N E P => zPM op_car [] b cy as N E P
abbrev rm_X6_car : Room := { frames := 6, cells := 0, slots := 0, locals := 148 }
def B_X6_car_91 (b n0 : Nat) (cy : zY) (P : zPo) (A : Nat → zC) : zC :=
  z_aload 0 (z_get b n0 6 13 (z_const (-9) (z_icmp (fun x y => x = y) (z_aload 0 (z_callV b n0 0 0 cy 6 0 0 0 sp_X6_takeDraft (z_aload 0 (z_const (0) (z_put b n0 6 2 0 (z_iload 1 (z_iret 0 0 P))))))) (z_const (-10) (z_aload 0 (z_get b n0 6 13 (z_bin (fun x y => x - y) (z_iret 0 0 P))))))))
def B_X6_car_88 (b n0 : Nat) (cy : zY) (P : zPo) (A : Nat → zC) : zC :=
  z_cut [0, 1] (A 21)
def B_X6_car_81 (b n0 : Nat) (cy : zY) (P : zPo) (A : Nat → zC) : zC :=
  z_callV b n0 0 0 cy 6 1 0 0 sp_X6_due (z_pop (z_iinc 1 (1) (B_X6_car_88 b n0 cy P A)))
def B_X6_car_21 (b n0 : Nat) (cy : zY) (P : zPo) (A : Nat → zC) : zC :=
  z_aload 0 (z_get b n0 6 13 (z_const (-9) (z_icmp (fun x y => x = y) (z_aload 0 (z_get b n0 6 11 (z_const (3) (z_icmp (fun x y => x = y) (B_X6_car_91 b n0 cy P A) (z_aload 0 (z_get b n0 6 11 (z_istore 2 (z_aload 0 (z_aload 0 (z_iload 2 (z_callV b n0 0 0 cy 6 1 0 0 sp_X6_mayBe (z_callV b n0 0 0 cy 6 1 0 0 sp_X6_due (z_pop (z_aload 0 (z_get b n0 6 13 (z_const (-9) (z_icmp (fun x y => x = y) (z_aload 0 (z_iload 2 (z_callV b n0 0 0 cy 6 1 0 0 sp_X6_readRow (z_aload 0 (z_aload 0 (z_get b n0 6 11 (z_const (2) (z_icmp (fun x y => x = y) (z_const (1) (B_X6_car_81 b n0 cy P A)) (z_const (0) (B_X6_car_81 b n0 cy P A)))))))))) (B_X6_car_88 b n0 cy P A)))))))))))))))))) (B_X6_car_91 b n0 cy P A))))
def B_X6_car_0 (b n0 : Nat) (cy : zY) (P : zPo) (A : Nat → zC) : zC :=
  z_aload 0 (z_const (0) (z_put b n0 6 9 0 (z_aload 0 (z_const (-9) (z_put b n0 6 13 0 (z_aload 0 (z_callV b n0 0 0 cy 6 0 0 0 sp_X6_plain (z_const (0) (z_istore 1 (z_aload 0 (z_callV b n0 0 0 cy 6 0 0 0 sp_X6_step (z_cut [0, 1] (A 21)))))))))))))
def zVC_X6_car (sp : zSp) : Prop := ∀ (b : Nat) (cy : zY) (n : Nat) (as : List Value) (E : zE) (P : zPo) (A : Nat → zC), (∀ l st k u E, B_X6_car_21 b n cy P A l st k u E → A 21 l st k u E) → sp b cy as n E P → zgood as 3 ∧ B_X6_car_0 b n cy P A (lv_args 0 as) [] 0 0 E

set_option maxRecDepth 100000 in
set_option maxHeartbeats 4000000 in
theorem vc_X6_car : zVC_X6_car sp_X6_car := by
  intro b cy N as E P A hA hsp
  obtain ⟨K, ⟨T, D, C, I, S, tr⟩, rfl, hmd, hok, hK, hN, hP⟩ := hsp
  refine ⟨⟨Nat.le_of_ble_eq_true rfl, zg1 rfl (zg0)⟩, ?_⟩
  have N0 : 159 < N := by omega
  have N6 : 166 < N := by omega
  obtain ⟨lt, q, st, so, va, fa, e0⟩ := hmd.o
  replace e0 : E 159 = zM0 b tr (nI T.1) lt q st so va fa (nI S.1) := e0
  have hR := hmd.mr hok hN
  obtain ⟨f, hW, hCa⟩ := hmd.wr
  have hE := hW.2.2.1
  obtain ⟨h8, h9⟩ : (∃ g : Nat → Int32, E 168 = .inl (cy 1, 52, .inl g)) ∧ (∃ g : Nat → Int32, E 169 = .inl (cy 1, 6, .inl g)) := by obtain ⟨_, _, _, _, _, _, _, _, _, a, c, _⟩ := hmd; exact ⟨a, c⟩
  obtain ⟨hn, hlo, _, _, _, ⟨hmk, hs99, hth, hm10, _⟩, _⟩ := id hok
  replace hn : D.1 ≤ 6 := hn
  obtain ⟨v0, v4, v10, v16⟩ := zCm0 hW.2.2.2
  have N1 : 161 < N := by omega
  obtain ⟨_, a1, ⟨rf, a2, a2'⟩, a3, ⟨lf, a4, a4'⟩, ⟨wf, a5, a5'⟩, ⟨xf, a6, a6'⟩, a7, a8, a9, a10, a11, a12⟩ := id hmd
  have hMt : zMt cy E T.1 T.2 := ⟨hok.2.2.2.1, hok.2.2.2.2.1, a1⟩
  have ht := hMt.2.1
  have hl := hMt.1
  have hDg : zDg cy E D := ⟨⟨rf, a2, a2'⟩, a3, ⟨lf, a4, a4'⟩, ⟨wf, a5, a5'⟩, ⟨xf, a6, a6'⟩⟩
  have e166 : ∃ g : Nat → Int32, E 166 = .inl (cy 1, 1719, .inl g) := ⟨f, hE⟩
  have e167 : ∃ g : Nat → Int32, E 167 = .inl (cy 2, 2, .inl g) := by obtain ⟨g, h, _⟩ := a8; exact ⟨g, h⟩
  have e170 : ∃ g : Nat → Int32, E 170 = .inl (cy 1, 6, .inl g) := by obtain ⟨g, h, _⟩ := a11; exact ⟨g, h⟩
  have e171 : ∃ g : Nat → Int32, E 171 = .inl (cy 1, 6, .inl g) := by obtain ⟨g, h, _⟩ := a12; exact ⟨g, h⟩
  have m9 : (-9 : Int32) = -9 := rfl
  simp only [op_car] at hP
  -- a fault
  have bad : ∀ (s items : Nat) (E' : zE) (lt' : Int32) (k' : zTk), zparse T.1 T.2 = .inl s → s < 256 → zPq b E' T.1 tr lt' (nI S.1) k' (nI s) → zDg cy E' D → (∀ j, j ≠ 159 → (j < 161 ∨ 165 < j) → E' j = E j) → A 21 [(0, .ref (b + 159)), (1, .int (nI items))] [] 0 0 E' := by
    intro s items E' lt' k' hz hs9 ⟨va', g0, _⟩ hg hk
    rw [hz] at hP
    replace hP : ∀ E', zMD b cy E' (T, D, C, I, S, tr) → (∀ j, j < 159 → E' j = E j) → P (some (.int (-10 - nI s))) E' := hP
    apply hA
    simp -implicitDefEqProofs only [B_X6_car_21, B_X6_car_91, e_cut, e_iload, e_aload, e_istore, e_astore, e_iinc, e_const, e_lconst, e_bin, e_bin0, e_un, e_ladd, e_dupi, e_dupr, e_dup2, e_pop, e_sw, e_sw0, e_sw1, e_get, e_put, e_ald, e_ast, e_aald, e_aast, e_copy, e_new, e_newa, e_anewa, e_min, e_abs, e_oinit, e_callI, e_callV, e_callS, e_iret, e_zret, e_lret, e_vret, e_tl1, e_tl0, e_tl2, e_tl3, z10, Bool.false_eq_true, e_argi, e_argr, e_argn, zld_c, zst_n, zst_c, zpick_n, zpick_c, List.drop_succ_cons, List.drop_zero, List.take_succ_cons, List.take_zero, List.length_cons, List.length_nil, List.reverse_cons, List.reverse_nil, List.nil_append, List.cons_append, List.append_nil, List.getElem?_cons_zero, List.getElem?_cons_succ, List.set_cons_zero, List.set_cons_succ, Nat.add_sub_cancel_left, Nat.sub_self, Nat.add_zero, Nat.zero_add, Nat.le_add_right, Nat.le_refl, true_and, and_true, va_rf, zok, Nat.add_left_cancel_iff, Nat.add_eq_left, Nat.left_eq_add, eq_self, if_true, if_false, not_false_eq_true, not_true_eq_false, false_implies, true_implies, Nat.reduceEqDiff, Nat.reduceAdd, Nat.reduceLT, Nat.reduceLeDiff, reduceIte, zM0, g0, N0, e_icmpf (c2 := fun x y => x = y) (zs9 hs9)]
    obtain ⟨b1, b2, b3, b4, b5⟩ := hg
    refine hP E' ⟨⟨_, _, _, _, _, _, g0⟩, ?_, b1, b2, b3, b4, b5, ?_, ?_, ?_, ?_, ?_, ?_⟩ (fun j hj => hk j (by omega) (by omega)) <;> (rw [hk _ (by omega) (by omega)]; assumption)
  -- it is told
  have done : ∀ (k : zTk) (n : Nat) (seat lo la : Nat → Nat) (line : Nat) (t : Bool) (items : Nat) (E1 : zE), zPq b E1 T.1 tr (zlt t) (nI S.1) k (-9) → zKo T.1 k → zDt cy E1 D (n, seat, lo, la, line, t, items) → n ≤ 6 → k.2.1 = 0 → zparse T.1 T.2 = .inr (n, seat, lo, la, line, t, items) → (∀ j, j ≠ 159 → (j < 161 ∨ 165 < j) → E1 j = E j) → A 21 [(0, .ref (b + 159)), (1, .int (nI items))] [] 0 0 E1 := by
    intro k n seat lo la line t items E1 ⟨va1, g0, _⟩ hko hDt hn6 c0 hz hk
    rw [hz] at hP
    replace hP : ∀ E', zMD b cy E' ((0, T.2), (n, lo, la, line), (zfresh n seat, 0, C.2.2), zI0, (0, S.2), tr) → (∀ j, j < 159 → E' j = E j) → P (some (.int (nI items))) E' := hP
    apply hA
    have s3 : zms k = 3 := by rw [zms_3 hko]; exact c0
    simp -implicitDefEqProofs only [B_X6_car_21, B_X6_car_91, e_cut, e_iload, e_aload, e_istore, e_astore, e_iinc, e_const, e_lconst, e_bin, e_bin0, e_un, e_ladd, e_dupi, e_dupr, e_dup2, e_pop, e_sw, e_sw0, e_sw1, e_get, e_put, e_ald, e_ast, e_aald, e_aast, e_copy, e_new, e_newa, e_anewa, e_min, e_abs, e_oinit, e_callI, e_callV, e_callS, e_iret, e_zret, e_lret, e_vret, e_tl1, e_tl0, e_tl2, e_tl3, z10, Bool.false_eq_true, e_argi, e_argr, e_argn, zld_c, zst_n, zst_c, zpick_n, zpick_c, List.drop_succ_cons, List.drop_zero, List.take_succ_cons, List.take_zero, List.length_cons, List.length_nil, List.reverse_cons, List.reverse_nil, List.nil_append, List.cons_append, List.append_nil, List.getElem?_cons_zero, List.getElem?_cons_succ, List.set_cons_zero, List.set_cons_succ, Nat.add_sub_cancel_left, Nat.sub_self, Nat.add_zero, Nat.zero_add, Nat.le_add_right, Nat.le_refl, true_and, and_true, va_rf, zok, Nat.add_left_cancel_iff, Nat.add_eq_left, Nat.left_eq_add, eq_self, if_true, if_false, not_false_eq_true, not_true_eq_false, false_implies, true_implies, Nat.reduceEqDiff, Nat.reduceAdd, Nat.reduceLT, Nat.reduceLeDiff, reduceIte, zM0, g0, N0, e_icmpt (c2 := fun x y => x = y) m9, e_icmpt (c2 := fun x y => x = y) s3]
    have sh : ∀ (j L : Nat) (cl : ClassId), 165 < j → (∃ g : Nat → Int32, E j = .inl (cl, L, .inl g)) → ∃ g : Nat → Int32, E1 j = .inl (cl, L, .inl g) := fun j L cl hj ⟨g, h⟩ => ⟨g, (hk j (by omega) (Or.inr hj)).trans h⟩
    refine ⟨tr, T, zlt t, _, _, _, va1, -9, _, D, (n, seat, lo, la, line, t, items), rfl, g0, ?_, hDt, hn6, sh _ _ _ (by omega) e166, sh _ _ _ (by omega) e167, sh _ _ _ (by omega) h8, sh _ _ _ (by omega) h9, sh _ _ _ (by omega) e170, sh _ _ _ (by omega) e171, hN, fun E2 hz2 hk2 => ?_⟩
    · obtain ⟨g, h1, h2⟩ := a1
      exact ⟨g, (hk 160 (by omega) (by omega)).trans h1, h2⟩
    · have hz3 := hz2 C.2.2 S.2
      obtain ⟨lt2, q2, st2, so2, va2, fa2, e02⟩ := hz3.o
      replace e02 : E2 159 = zM0 b tr (nI T.1) lt2 q2 st2 so2 va2 fa2 (nI 0) := e02
      simp -implicitDefEqProofs only [e_cut, e_iload, e_aload, e_istore, e_astore, e_iinc, e_const, e_lconst, e_bin, e_bin0, e_un, e_ladd, e_dupi, e_dupr, e_dup2, e_pop, e_sw, e_sw0, e_sw1, e_get, e_put, e_ald, e_ast, e_aald, e_aast, e_copy, e_new, e_newa, e_anewa, e_min, e_abs, e_oinit, e_callI, e_callV, e_callS, e_iret, e_zret, e_lret, e_vret, e_tl1, e_tl0, e_tl2, e_tl3, z10, Bool.false_eq_true, e_argi, e_argr, e_argn, zld_c, zst_n, zst_c, zpick_n, zpick_c, List.drop_succ_cons, List.drop_zero, List.take_succ_cons, List.take_zero, List.length_cons, List.length_nil, List.reverse_cons, List.reverse_nil, List.nil_append, List.cons_append, List.append_nil, List.getElem?_cons_zero, List.getElem?_cons_succ, List.set_cons_zero, List.set_cons_succ, Nat.add_sub_cancel_left, Nat.sub_self, Nat.add_zero, Nat.zero_add, Nat.le_add_right, Nat.le_refl, true_and, and_true, va_rf, zok, Nat.add_left_cancel_iff, Nat.add_eq_left, Nat.left_eq_add, eq_self, if_true, if_false, not_false_eq_true, not_true_eq_false, false_implies, true_implies, Nat.reduceEqDiff, Nat.reduceAdd, Nat.reduceLT, Nat.reduceLeDiff, reduceIte, zM0, e02, N0]
      exact hP _ (hz3.fld (Nat.zero_le _) (Nat.le_refl _) ⟨_, _, _, _, _, _, u_eq⟩ (fun j hj => u_ne hj)) (fun j hj => (u_ne (by omega)).trans ((hk2 j hj).trans (hk j (by omega) (by omega))))
  have tailBad : ∀ (s items : Nat) (v2 : Int32) (E' : zE) (lt' : Int32) (k' : zTk), zparse T.1 T.2 = .inl s → s < 256 → zPq b E' T.1 tr lt' (nI S.1) k' (nI s) → zDg cy E' D → (∀ j, j ≠ 159 → (j < 161 ∨ 165 < j) → E' j = E j) → z_aload 0 (z_aload 0 (z_get b N 6 11 (z_const (2) (z_icmp (fun x y => x = y) (z_const (1) (B_X6_car_81 b N cy P A)) (z_const (0) (B_X6_car_81 b N cy P A)))))) [(0, .ref (b + 159)), (1, .int (nI items)), (2, .int v2)] [] 0 0 E' := by
    intro s items v2 E' lt' k' hz hs9 hq hg hk
    have hb := bad s (items + 1) E' lt' k' hz hs9 hq hg hk
    obtain ⟨va', g0, hva'⟩ := id hq
    have b81 : ∀ is : Bool, B_X6_car_81 b N cy P A [(0, .ref (b + 159)), (1, .int (nI items)), (2, .int v2)] [.int (if is = true then 1 else 0), .ref (b + 159)] 0 0 E' := fun is => by
      simp -implicitDefEqProofs only [B_X6_car_81, e_cut, e_iload, e_aload, e_istore, e_astore, e_iinc, e_const, e_lconst, e_bin, e_bin0, e_un, e_ladd, e_dupi, e_dupr, e_dup2, e_pop, e_sw, e_sw0, e_sw1, e_get, e_put, e_ald, e_ast, e_aald, e_aast, e_copy, e_new, e_newa, e_anewa, e_min, e_abs, e_oinit, e_callI, e_callV, e_callS, e_iret, e_zret, e_lret, e_vret, e_tl1, e_tl0, e_tl2, e_tl3, z10, Bool.false_eq_true, e_argi, e_argr, e_argn, zld_c, zst_n, zst_c, zpick_n, zpick_c, List.drop_succ_cons, List.drop_zero, List.take_succ_cons, List.take_zero, List.length_cons, List.length_nil, List.reverse_cons, List.reverse_nil, List.nil_append, List.cons_append, List.append_nil, List.getElem?_cons_zero, List.getElem?_cons_succ, List.set_cons_zero, List.set_cons_succ, Nat.add_sub_cancel_left, Nat.sub_self, Nat.add_zero, Nat.zero_add, Nat.le_add_right, Nat.le_refl, true_and, and_true, va_rf, zok, Nat.add_left_cancel_iff, Nat.add_eq_left, Nat.left_eq_add, eq_self, if_true, if_false, not_false_eq_true, not_true_eq_false, false_implies, true_implies, Nat.reduceEqDiff, Nat.reduceAdd, Nat.reduceLT, Nat.reduceLeDiff, reduceIte, zM0, g0, N0]
      refine ⟨tr, T.1, T.2, lt', nI S.1, nI s, va', k', is, rfl, g0, hva', hMt.congr (hk 160 (by omega) (by omega)), by omega, Or.inr (Or.inr ⟨zs9 hs9, ?_⟩)⟩
      simp -implicitDefEqProofs only [e_cut, e_iload, e_aload, e_istore, e_astore, e_iinc, e_const, e_lconst, e_bin, e_bin0, e_un, e_ladd, e_dupi, e_dupr, e_dup2, e_pop, e_sw, e_sw0, e_sw1, e_get, e_put, e_ald, e_ast, e_aald, e_aast, e_copy, e_new, e_newa, e_anewa, e_min, e_abs, e_oinit, e_callI, e_callV, e_callS, e_iret, e_zret, e_lret, e_vret, e_tl1, e_tl0, e_tl2, e_tl3, z10, Bool.false_eq_true, e_argi, e_argr, e_argn, zld_c, zst_n, zst_c, zpick_n, zpick_c, List.drop_succ_cons, List.drop_zero, List.take_succ_cons, List.take_zero, List.length_cons, List.length_nil, List.reverse_cons, List.reverse_nil, List.nil_append, List.cons_append, List.append_nil, List.getElem?_cons_zero, List.getElem?_cons_succ, List.set_cons_zero, List.set_cons_succ, Nat.add_sub_cancel_left, Nat.sub_self, Nat.add_zero, Nat.zero_add, Nat.le_add_right, Nat.le_refl, true_and, and_true, va_rf, zok, Nat.add_left_cancel_iff, Nat.add_eq_left, Nat.left_eq_add, eq_self, if_true, if_false, not_false_eq_true, not_true_eq_false, false_implies, true_implies, Nat.reduceEqDiff, Nat.reduceAdd, Nat.reduceLT, Nat.reduceLeDiff, reduceIte, B_X6_car_88, nI_1]
      exact hb
    by_cases c2 : zms k' = 2
    · simp -implicitDefEqProofs only [e_cut, e_iload, e_aload, e_istore, e_astore, e_iinc, e_const, e_lconst, e_bin, e_bin0, e_un, e_ladd, e_dupi, e_dupr, e_dup2, e_pop, e_sw, e_sw0, e_sw1, e_get, e_put, e_ald, e_ast, e_aald, e_aast, e_copy, e_new, e_newa, e_anewa, e_min, e_abs, e_oinit, e_callI, e_callV, e_callS, e_iret, e_zret, e_lret, e_vret, e_tl1, e_tl0, e_tl2, e_tl3, z10, Bool.false_eq_true, e_argi, e_argr, e_argn, zld_c, zst_n, zst_c, zpick_n, zpick_c, List.drop_succ_cons, List.drop_zero, List.take_succ_cons, List.take_zero, List.length_cons, List.length_nil, List.reverse_cons, List.reverse_nil, List.nil_append, List.cons_append, List.append_nil, List.getElem?_cons_zero, List.getElem?_cons_succ, List.set_cons_zero, List.set_cons_succ, Nat.add_sub_cancel_left, Nat.sub_self, Nat.add_zero, Nat.zero_add, Nat.le_add_right, Nat.le_refl, true_and, and_true, va_rf, zok, Nat.add_left_cancel_iff, Nat.add_eq_left, Nat.left_eq_add, eq_self, if_true, if_false, not_false_eq_true, not_true_eq_false, false_implies, true_implies, Nat.reduceEqDiff, Nat.reduceAdd, Nat.reduceLT, Nat.reduceLeDiff, reduceIte, zM0, g0, N0, e_icmpt (c2 := fun x y => x = y) c2]
      exact b81 true
    · simp -implicitDefEqProofs only [e_cut, e_iload, e_aload, e_istore, e_astore, e_iinc, e_const, e_lconst, e_bin, e_bin0, e_un, e_ladd, e_dupi, e_dupr, e_dup2, e_pop, e_sw, e_sw0, e_sw1, e_get, e_put, e_ald, e_ast, e_aald, e_aast, e_copy, e_new, e_newa, e_anewa, e_min, e_abs, e_oinit, e_callI, e_callV, e_callS, e_iret, e_zret, e_lret, e_vret, e_tl1, e_tl0, e_tl2, e_tl3, z10, Bool.false_eq_true, e_argi, e_argr, e_argn, zld_c, zst_n, zst_c, zpick_n, zpick_c, List.drop_succ_cons, List.drop_zero, List.take_succ_cons, List.take_zero, List.length_cons, List.length_nil, List.reverse_cons, List.reverse_nil, List.nil_append, List.cons_append, List.append_nil, List.getElem?_cons_zero, List.getElem?_cons_succ, List.set_cons_zero, List.set_cons_succ, Nat.add_sub_cancel_left, Nat.sub_self, Nat.add_zero, Nat.zero_add, Nat.le_add_right, Nat.le_refl, true_and, and_true, va_rf, zok, Nat.add_left_cancel_iff, Nat.add_eq_left, Nat.left_eq_add, eq_self, if_true, if_false, not_false_eq_true, not_true_eq_false, false_implies, true_implies, Nat.reduceEqDiff, Nat.reduceAdd, Nat.reduceLT, Nat.reduceLeDiff, reduceIte, zM0, g0, N0, e_icmpf (c2 := fun x y => x = y) c2]
      exact b81 false
  have zri_b : ∀ (k1 k3 : zTk) (x1 x2 x3 : Nat), k1.1 ≤ T.1 → zri T.1 T.2 k1 = .inr (k3, x1, x2, x3) → k3.1 ≤ T.1 := by
    intro k1 k3 x1 x2 x3 h1 h2
    have h3 := zKo_tk (tx := T.2) h1 ht
    have h4 := zKo_tk (tx := T.2) h3.1 ht
    unfold zri at h2
    simp only at h2
    by_cases q1 : znum 0 9 k1 = true
    · rw [if_pos q1] at h2
      by_cases q2 : znum 0 9 (ztk T.1 T.2 k1.1) = true
      · rw [if_pos q2] at h2
        by_cases q3 : znum 0 2 (ztk T.1 T.2 (ztk T.1 T.2 k1.1).1) = true
        · rw [if_pos q3] at h2; cases h2; exact h4.1
        · rw [if_neg q3] at h2; cases h2
      · rw [if_neg q2] at h2; cases h2
    · rw [if_neg q1] at h2; cases h2
  have loop : ∀ (fu : Nat) (k : zTk) (n : Nat) (seat lo la : Nat → Nat) (line : Nat) (t : Bool) (items : Nat) (E1 : zE), zPq b E1 T.1 tr (zlt t) (nI S.1) k (-9) → zKo T.1 k → zDt cy E1 D (n, seat, lo, la, line, t, items) → zTdk (n, seat, lo, la, line, t, items) → (k.2.1 ≠ 0 → 121 - fu ≤ k.1) → zread T.1 T.2 fu k (n, seat, lo, la, line, t, items) = zparse T.1 T.2 → (∀ j, j ≠ 159 → (j < 161 ∨ 165 < j) → E1 j = E j) → A 21 [(0, .ref (b + 159)), (1, .int (nI items))] [] 0 0 E1 := by
    intro fu
    induction fu with
    | zero =>
      intro k n seat lo la line t items E1 hq hko hDt hdk hfu hz hk
      by_cases c0 : k.2.1 = 0
      · exact done k n seat lo la line t items E1 hq hko hDt hdk.1 c0 hz.symm hk
      · have := hfu c0; have := hko.1; omega
    | succ fu ih =>
      intro k n seat lo la line t items E1 hq hko hDt hdk hfu hz hk
      by_cases c0 : k.2.1 = 0
      · rw [zread, if_pos c0] at hz
        exact done k n seat lo la line t items E1 hq hko hDt hdk.1 c0 hz.symm hk
      · rw [zread, if_neg c0] at hz
        have hb := zitem_b (d := (n, seat, lo, la, line, t, items)) ht hko.1 hko.2.2.1 hdk
        have hfu' := hfu c0
        have hn6 : n ≤ 6 := hdk.1
        obtain ⟨va1, g1, hva1⟩ := id hq
        obtain ⟨⟨r0, r1, hr0, hr1⟩, _⟩ := id hDt
        have n3 : ¬ zms k = 3 := fun h => by rw [zms_3 hko] at h; exact c0 h
        have k114 : (zms k = 114) = (k.2.1 = 1 ∧ k.2.2.2 = 114) := zms_c hko (c := 114) (by omega) (by omega)
        have k108 : (zms k = 108) = (k.2.1 = 1 ∧ k.2.2.2 = 108) := zms_c hko (c := 108) (by omega) (by omega)
        have hMt1 : zMt cy E1 T.1 T.2 := hMt.congr (hk 160 (by omega) (by omega))
        -- an item's end
        have tailOk : ∀ (v2 : Int32) (E3 : zE) (k4 : zTk) (n' : Nat) (seat' lo' la' : Nat → Nat) (line' : Nat) (t' : Bool), zKo T.1 k4 → zPq b E3 T.1 tr (zlt t') (nI S.1) k4 (-9) → zDt cy E3 D (n', seat', lo', la', line', t', items) → (match (if k4.2.1 = 3 then (.inr (ztk T.1 T.2 k4.1, (n', seat', lo', la', line', t', items + 1)) : Nat ⊕ (zTk × zTd)) else .inl k4.2.2.1) with | .inl s => .inl s | .inr (k', d') => zread T.1 T.2 fu k' d') = zparse T.1 T.2 → (match (if k4.2.1 = 3 then (.inr (ztk T.1 T.2 k4.1, (n', seat', lo', la', line', t', items + 1)) : Nat ⊕ (zTk × zTd)) else .inl k4.2.2.1) with | .inl s => s ≤ T.1 | .inr (k', d') => k'.1 ≤ T.1 ∧ k'.2.2.1 ≤ T.1 ∧ zTdk d' ∧ k.1 < k'.1 ∧ (k'.2.1 ≠ 0 → k.1 + 1 < k'.1)) → (∀ j, j ≠ 159 → (j < 161 ∨ 165 < j) → E3 j = E j) → z_aload 0 (z_aload 0 (z_get b N 6 11 (z_const (2) (z_icmp (fun x y => x = y) (z_const (1) (B_X6_car_81 b N cy P A)) (z_const (0) (B_X6_car_81 b N cy P A)))))) [(0, .ref (b + 159)), (1, .int (nI items)), (2, .int v2)] [] 0 0 E3 := by
          intro v2 E3 k4 n' seat' lo' la' line' t' hk4 hq3 hDt3 hz3 hb3 hk3
          obtain ⟨va3, g3, hva3⟩ := id hq3
          have z2 := zms_2 hk4
          have hMt3 : zMt cy E3 T.1 T.2 := hMt.congr (hk3 160 (by omega) (by omega))
          by_cases c2 : k4.2.1 = 3
          · rw [if_pos c2] at hz3 hb3
            replace hz3 : zread T.1 T.2 fu (ztk T.1 T.2 k4.1) (n', seat', lo', la', line', t', items + 1) = zparse T.1 T.2 := hz3
            obtain ⟨_, _, b3, _, b5⟩ := hb3
            simp -implicitDefEqProofs only [e_cut, e_iload, e_aload, e_istore, e_astore, e_iinc, e_const, e_lconst, e_bin, e_bin0, e_un, e_ladd, e_dupi, e_dupr, e_dup2, e_pop, e_sw, e_sw0, e_sw1, e_get, e_put, e_ald, e_ast, e_aald, e_aast, e_copy, e_new, e_newa, e_anewa, e_min, e_abs, e_oinit, e_callI, e_callV, e_callS, e_iret, e_zret, e_lret, e_vret, e_tl1, e_tl0, e_tl2, e_tl3, z10, Bool.false_eq_true, e_argi, e_argr, e_argn, zld_c, zst_n, zst_c, zpick_n, zpick_c, List.drop_succ_cons, List.drop_zero, List.take_succ_cons, List.take_zero, List.length_cons, List.length_nil, List.reverse_cons, List.reverse_nil, List.nil_append, List.cons_append, List.append_nil, List.getElem?_cons_zero, List.getElem?_cons_succ, List.set_cons_zero, List.set_cons_succ, Nat.add_sub_cancel_left, Nat.sub_self, Nat.add_zero, Nat.zero_add, Nat.le_add_right, Nat.le_refl, true_and, and_true, va_rf, zok, Nat.add_left_cancel_iff, Nat.add_eq_left, Nat.left_eq_add, eq_self, if_true, if_false, not_false_eq_true, not_true_eq_false, false_implies, true_implies, Nat.reduceEqDiff, Nat.reduceAdd, Nat.reduceLT, Nat.reduceLeDiff, reduceIte, zM0, g3, N0, e_icmpt (c2 := fun x y => x = y) (z2.mpr c2), B_X6_car_81]
            refine ⟨tr, T.1, T.2, zlt t', nI S.1, -9, va3, k4, true, rfl, g3, hva3, hMt3, by omega, Or.inl ⟨rfl, rfl, hk4.1, fun E4 hq4 hk4' => ?_⟩⟩
            simp -implicitDefEqProofs only [e_cut, e_iload, e_aload, e_istore, e_astore, e_iinc, e_const, e_lconst, e_bin, e_bin0, e_un, e_ladd, e_dupi, e_dupr, e_dup2, e_pop, e_sw, e_sw0, e_sw1, e_get, e_put, e_ald, e_ast, e_aald, e_aast, e_copy, e_new, e_newa, e_anewa, e_min, e_abs, e_oinit, e_callI, e_callV, e_callS, e_iret, e_zret, e_lret, e_vret, e_tl1, e_tl0, e_tl2, e_tl3, z10, Bool.false_eq_true, e_argi, e_argr, e_argn, zld_c, zst_n, zst_c, zpick_n, zpick_c, List.drop_succ_cons, List.drop_zero, List.take_succ_cons, List.take_zero, List.length_cons, List.length_nil, List.reverse_cons, List.reverse_nil, List.nil_append, List.cons_append, List.append_nil, List.getElem?_cons_zero, List.getElem?_cons_succ, List.set_cons_zero, List.set_cons_succ, Nat.add_sub_cancel_left, Nat.sub_self, Nat.add_zero, Nat.zero_add, Nat.le_add_right, Nat.le_refl, true_and, and_true, va_rf, zok, Nat.add_left_cancel_iff, Nat.add_eq_left, Nat.left_eq_add, eq_self, if_true, if_false, not_false_eq_true, not_true_eq_false, false_implies, true_implies, Nat.reduceEqDiff, Nat.reduceAdd, Nat.reduceLT, Nat.reduceLeDiff, reduceIte, B_X6_car_88, nI_1]
            exact ih (ztk T.1 T.2 k4.1) n' seat' lo' la' line' t' (items + 1) E4 hq4 (zKo_tk hk4.1 ht) (hDt3.congr (fun j _ _ => hk4' j (by omega))) b3 (fun h => by have := b5 h; omega) hz3 (fun j a c => (hk4' j a).trans (hk3 j a c))
          · rw [if_neg c2] at hz3 hb3
            simp -implicitDefEqProofs only [e_cut, e_iload, e_aload, e_istore, e_astore, e_iinc, e_const, e_lconst, e_bin, e_bin0, e_un, e_ladd, e_dupi, e_dupr, e_dup2, e_pop, e_sw, e_sw0, e_sw1, e_get, e_put, e_ald, e_ast, e_aald, e_aast, e_copy, e_new, e_newa, e_anewa, e_min, e_abs, e_oinit, e_callI, e_callV, e_callS, e_iret, e_zret, e_lret, e_vret, e_tl1, e_tl0, e_tl2, e_tl3, z10, Bool.false_eq_true, e_argi, e_argr, e_argn, zld_c, zst_n, zst_c, zpick_n, zpick_c, List.drop_succ_cons, List.drop_zero, List.take_succ_cons, List.take_zero, List.length_cons, List.length_nil, List.reverse_cons, List.reverse_nil, List.nil_append, List.cons_append, List.append_nil, List.getElem?_cons_zero, List.getElem?_cons_succ, List.set_cons_zero, List.set_cons_succ, Nat.add_sub_cancel_left, Nat.sub_self, Nat.add_zero, Nat.zero_add, Nat.le_add_right, Nat.le_refl, true_and, and_true, va_rf, zok, Nat.add_left_cancel_iff, Nat.add_eq_left, Nat.left_eq_add, eq_self, if_true, if_false, not_false_eq_true, not_true_eq_false, false_implies, true_implies, Nat.reduceEqDiff, Nat.reduceAdd, Nat.reduceLT, Nat.reduceLeDiff, reduceIte, zM0, g3, N0, e_icmpf (c2 := fun x y => x = y) (fun h => c2 (z2.mp h)), B_X6_car_81]
            refine ⟨tr, T.1, T.2, zlt t', nI S.1, -9, va3, k4, false, rfl, g3, hva3, hMt3, by omega, Or.inr (Or.inl ⟨rfl, rfl, fun E4 hq4 hk4' => ?_⟩)⟩
            simp -implicitDefEqProofs only [e_cut, e_iload, e_aload, e_istore, e_astore, e_iinc, e_const, e_lconst, e_bin, e_bin0, e_un, e_ladd, e_dupi, e_dupr, e_dup2, e_pop, e_sw, e_sw0, e_sw1, e_get, e_put, e_ald, e_ast, e_aald, e_aast, e_copy, e_new, e_newa, e_anewa, e_min, e_abs, e_oinit, e_callI, e_callV, e_callS, e_iret, e_zret, e_lret, e_vret, e_tl1, e_tl0, e_tl2, e_tl3, z10, Bool.false_eq_true, e_argi, e_argr, e_argn, zld_c, zst_n, zst_c, zpick_n, zpick_c, List.drop_succ_cons, List.drop_zero, List.take_succ_cons, List.take_zero, List.length_cons, List.length_nil, List.reverse_cons, List.reverse_nil, List.nil_append, List.cons_append, List.append_nil, List.getElem?_cons_zero, List.getElem?_cons_succ, List.set_cons_zero, List.set_cons_succ, Nat.add_sub_cancel_left, Nat.sub_self, Nat.add_zero, Nat.zero_add, Nat.le_add_right, Nat.le_refl, true_and, and_true, va_rf, zok, Nat.add_left_cancel_iff, Nat.add_eq_left, Nat.left_eq_add, eq_self, if_true, if_false, not_false_eq_true, not_true_eq_false, false_implies, true_implies, Nat.reduceEqDiff, Nat.reduceAdd, Nat.reduceLT, Nat.reduceLeDiff, reduceIte, B_X6_car_88, nI_1]
            exact bad k4.2.2.1 (items + 1) E4 _ k4 hz3.symm (by have := hk4.2.2.1; omega) hq4 (hDt3.g.congr (fun j _ _ => hk4' j (by omega))) (fun j a c => (hk4' j a).trans (hk3 j a c))
        apply hA
        simp -implicitDefEqProofs only [B_X6_car_21, e_cut, e_iload, e_aload, e_istore, e_astore, e_iinc, e_const, e_lconst, e_bin, e_bin0, e_un, e_ladd, e_dupi, e_dupr, e_dup2, e_pop, e_sw, e_sw0, e_sw1, e_get, e_put, e_ald, e_ast, e_aald, e_aast, e_copy, e_new, e_newa, e_anewa, e_min, e_abs, e_oinit, e_callI, e_callV, e_callS, e_iret, e_zret, e_lret, e_vret, e_tl1, e_tl0, e_tl2, e_tl3, z10, Bool.false_eq_true, e_argi, e_argr, e_argn, zld_c, zst_n, zst_c, zpick_n, zpick_c, List.drop_succ_cons, List.drop_zero, List.take_succ_cons, List.take_zero, List.length_cons, List.length_nil, List.reverse_cons, List.reverse_nil, List.nil_append, List.cons_append, List.append_nil, List.getElem?_cons_zero, List.getElem?_cons_succ, List.set_cons_zero, List.set_cons_succ, Nat.add_sub_cancel_left, Nat.sub_self, Nat.add_zero, Nat.zero_add, Nat.le_add_right, Nat.le_refl, true_and, and_true, va_rf, zok, Nat.add_left_cancel_iff, Nat.add_eq_left, Nat.left_eq_add, eq_self, if_true, if_false, not_false_eq_true, not_true_eq_false, false_implies, true_implies, Nat.reduceEqDiff, Nat.reduceAdd, Nat.reduceLT, Nat.reduceLeDiff, reduceIte, zM0, g1, N0, e_icmpt (c2 := fun x y => x = y) m9, e_icmpf (c2 := fun x y => x = y) n3]
        refine ⟨tr, nI T.1, nI k.1, nI k.2.2.1, zms k, va1, -9, nI S.1, zms k, n, t, r0, rfl, g1, r1, hr1, hn6, by omega, ?_⟩
        by_cases M : (zms k = 114 ∧ n < 6) ∨ (zms k = 108 ∧ t = false)
        · rw [if_pos M]
          simp -implicitDefEqProofs only [e_cut, e_iload, e_aload, e_istore, e_astore, e_iinc, e_const, e_lconst, e_bin, e_bin0, e_un, e_ladd, e_dupi, e_dupr, e_dup2, e_pop, e_sw, e_sw0, e_sw1, e_get, e_put, e_ald, e_ast, e_aald, e_aast, e_copy, e_new, e_newa, e_anewa, e_min, e_abs, e_oinit, e_callI, e_callV, e_callS, e_iret, e_zret, e_lret, e_vret, e_tl1, e_tl0, e_tl2, e_tl3, z10, Bool.false_eq_true, e_argi, e_argr, e_argn, zld_c, zst_n, zst_c, zpick_n, zpick_c, List.drop_succ_cons, List.drop_zero, List.take_succ_cons, List.take_zero, List.length_cons, List.length_nil, List.reverse_cons, List.reverse_nil, List.nil_append, List.cons_append, List.append_nil, List.getElem?_cons_zero, List.getElem?_cons_succ, List.set_cons_zero, List.set_cons_succ, Nat.add_sub_cancel_left, Nat.sub_self, Nat.add_zero, Nat.zero_add, Nat.le_add_right, Nat.le_refl, true_and, and_true, va_rf, zok, Nat.add_left_cancel_iff, Nat.add_eq_left, Nat.left_eq_add, eq_self, if_true, if_false, not_false_eq_true, not_true_eq_false, false_implies, true_implies, Nat.reduceEqDiff, Nat.reduceAdd, Nat.reduceLT, Nat.reduceLeDiff, reduceIte, zM0, g1, N0]
          refine ⟨tr, T.1, T.2, zlt t, nI S.1, -9, va1, k, true, rfl, g1, hva1, hMt1, by omega, Or.inl ⟨rfl, rfl, hko.1, fun E2 hq2 hk2 => ?_⟩⟩
          obtain ⟨va2, g2, hva2⟩ := id hq2
          have hko2 := zKo_tk (tx := T.2) hko.1 ht
          have hDt2 : zDt cy E2 D (n, seat, lo, la, line, t, items) := hDt.congr (fun j _ _ => hk2 j (by omega))
          have hk2' : ∀ j, j ≠ 159 → (j < 161 ∨ 165 < j) → E2 j = E j := fun j a c => (hk2 j a).trans (hk j a c)
          have hMt2 : zMt cy E2 T.1 T.2 := hMt.congr (hk2' 160 (by omega) (by omega))
          simp -implicitDefEqProofs only [e_cut, e_iload, e_aload, e_istore, e_astore, e_iinc, e_const, e_lconst, e_bin, e_bin0, e_un, e_ladd, e_dupi, e_dupr, e_dup2, e_pop, e_sw, e_sw0, e_sw1, e_get, e_put, e_ald, e_ast, e_aald, e_aast, e_copy, e_new, e_newa, e_anewa, e_min, e_abs, e_oinit, e_callI, e_callV, e_callS, e_iret, e_zret, e_lret, e_vret, e_tl1, e_tl0, e_tl2, e_tl3, z10, Bool.false_eq_true, e_argi, e_argr, e_argn, zld_c, zst_n, zst_c, zpick_n, zpick_c, List.drop_succ_cons, List.drop_zero, List.take_succ_cons, List.take_zero, List.length_cons, List.length_nil, List.reverse_cons, List.reverse_nil, List.nil_append, List.cons_append, List.append_nil, List.getElem?_cons_zero, List.getElem?_cons_succ, List.set_cons_zero, List.set_cons_succ, Nat.add_sub_cancel_left, Nat.sub_self, Nat.add_zero, Nat.zero_add, Nat.le_add_right, Nat.le_refl, true_and, and_true, va_rf, zok, Nat.add_left_cancel_iff, Nat.add_eq_left, Nat.left_eq_add, eq_self, if_true, if_false, not_false_eq_true, not_true_eq_false, false_implies, true_implies, Nat.reduceEqDiff, Nat.reduceAdd, Nat.reduceLT, Nat.reduceLeDiff, reduceIte, zM0, g2, N0, e_icmpt (c2 := fun x y => x = y) m9]
          by_cases c114 : zms k = 114
          · have hn : n < 6 := M.elim (fun h => h.2) (fun h => by rw [c114] at h; exact absurd h.1 (by decide))
            have ck := k114.mp c114
            simp only [zitem] at hz hb
            rw [if_pos ⟨ck.1, ck.2, hn⟩, zrid_zri] at hz hb
            refine ⟨tr, T.1, T.2, nI S.1, zms k, ztk T.1 T.2 k.1, D, n, seat, lo, la, line, t, items, rfl, hq2, hMt2, hko2, hDt2, hok.1, hn6, hN, Or.inl ⟨c114, hn, ?_⟩⟩
            cases hzr : zri T.1 T.2 (ztk T.1 T.2 k.1) with
            | inl s =>
              rw [hzr] at hz hb
              intro E3 lt3 k3 hq3 hg3 hk3
              have ht9 := tailBad s items (zms k) E3 lt3 k3 hz.symm (by have : s ≤ T.1 := hb; omega) hq3 hg3 (fun j a c => (hk3 j a c).trans (hk2' j a c))
              simp -implicitDefEqProofs only [e_cut, e_iload, e_aload, e_istore, e_astore, e_iinc, e_const, e_lconst, e_bin, e_bin0, e_un, e_ladd, e_dupi, e_dupr, e_dup2, e_pop, e_sw, e_sw0, e_sw1, e_get, e_put, e_ald, e_ast, e_aald, e_aast, e_copy, e_new, e_newa, e_anewa, e_min, e_abs, e_oinit, e_callI, e_callV, e_callS, e_iret, e_zret, e_lret, e_vret, e_tl1, e_tl0, e_tl2, e_tl3, z10, Bool.false_eq_true, e_argi, e_argr, e_argn, zld_c, zst_n, zst_c, zpick_n, zpick_c, List.drop_succ_cons, List.drop_zero, List.take_succ_cons, List.take_zero, List.length_cons, List.length_nil, List.reverse_cons, List.reverse_nil, List.nil_append, List.cons_append, List.append_nil, List.getElem?_cons_zero, List.getElem?_cons_succ, List.set_cons_zero, List.set_cons_succ, Nat.add_sub_cancel_left, Nat.sub_self, Nat.add_zero, Nat.zero_add, Nat.le_add_right, Nat.le_refl, true_and, and_true, va_rf, zok, Nat.add_left_cancel_iff, Nat.add_eq_left, Nat.left_eq_add, eq_self, if_true, if_false, not_false_eq_true, not_true_eq_false, false_implies, true_implies, Nat.reduceEqDiff, Nat.reduceAdd, Nat.reduceLT, Nat.reduceLeDiff, reduceIte, N0] at ht9 ⊢
              exact ht9
            | inr z =>
              obtain ⟨k3, x1, x2, x3⟩ := z
              rw [hzr] at hz hb
              intro E3 hq3 hDt3 hk3
              have ht9 := tailOk (zms k) E3 (ztk T.1 T.2 k3.1) (n + 1) (zup seat n x1) (zup lo n x2) (zup la n x3) line t (zKo_tk (zri_b _ _ _ _ _ hko2.1 hzr) ht) hq3 hDt3 hz hb (fun j a c => (hk3 j a c).trans (hk2' j a c))
              simp -implicitDefEqProofs only [e_cut, e_iload, e_aload, e_istore, e_astore, e_iinc, e_const, e_lconst, e_bin, e_bin0, e_un, e_ladd, e_dupi, e_dupr, e_dup2, e_pop, e_sw, e_sw0, e_sw1, e_get, e_put, e_ald, e_ast, e_aald, e_aast, e_copy, e_new, e_newa, e_anewa, e_min, e_abs, e_oinit, e_callI, e_callV, e_callS, e_iret, e_zret, e_lret, e_vret, e_tl1, e_tl0, e_tl2, e_tl3, z10, Bool.false_eq_true, e_argi, e_argr, e_argn, zld_c, zst_n, zst_c, zpick_n, zpick_c, List.drop_succ_cons, List.drop_zero, List.take_succ_cons, List.take_zero, List.length_cons, List.length_nil, List.reverse_cons, List.reverse_nil, List.nil_append, List.cons_append, List.append_nil, List.getElem?_cons_zero, List.getElem?_cons_succ, List.set_cons_zero, List.set_cons_succ, Nat.add_sub_cancel_left, Nat.sub_self, Nat.add_zero, Nat.zero_add, Nat.le_add_right, Nat.le_refl, true_and, and_true, va_rf, zok, Nat.add_left_cancel_iff, Nat.add_eq_left, Nat.left_eq_add, eq_self, if_true, if_false, not_false_eq_true, not_true_eq_false, false_implies, true_implies, Nat.reduceEqDiff, Nat.reduceAdd, Nat.reduceLT, Nat.reduceLeDiff, reduceIte, N0] at ht9 ⊢
              exact ht9
          · have c108 : zms k = 108 ∧ t = false := M.resolve_left (fun h => c114 h.1)
            have ck := k108.mp c108.1
            simp only [zitem] at hz hb
            rw [if_neg (fun h => c114 (k114.mpr ⟨h.1, h.2.1⟩)), if_pos ⟨ck.1, ck.2, c108.2⟩] at hz hb
            refine ⟨tr, T.1, T.2, nI S.1, zms k, ztk T.1 T.2 k.1, D, n, seat, lo, la, line, t, items, rfl, hq2, hMt2, hko2, hDt2, hok.1, hn6, hN, Or.inr ⟨c114, ?_⟩⟩
            by_cases q1 : znum 1 20 (ztk T.1 T.2 k.1) = true
            · rw [if_pos q1] at hz hb ⊢
              intro E3 hq3 hDt3 hk3
              have ht9 := tailOk (zms k) E3 (ztk T.1 T.2 (ztk T.1 T.2 k.1).1) n seat lo la (ztk T.1 T.2 k.1).2.2.2 true (zKo_tk hko2.1 ht) hq3 hDt3 hz hb (fun j a c => (hk3 j a c).trans (hk2' j a c))
              simp -implicitDefEqProofs only [e_cut, e_iload, e_aload, e_istore, e_astore, e_iinc, e_const, e_lconst, e_bin, e_bin0, e_un, e_ladd, e_dupi, e_dupr, e_dup2, e_pop, e_sw, e_sw0, e_sw1, e_get, e_put, e_ald, e_ast, e_aald, e_aast, e_copy, e_new, e_newa, e_anewa, e_min, e_abs, e_oinit, e_callI, e_callV, e_callS, e_iret, e_zret, e_lret, e_vret, e_tl1, e_tl0, e_tl2, e_tl3, z10, Bool.false_eq_true, e_argi, e_argr, e_argn, zld_c, zst_n, zst_c, zpick_n, zpick_c, List.drop_succ_cons, List.drop_zero, List.take_succ_cons, List.take_zero, List.length_cons, List.length_nil, List.reverse_cons, List.reverse_nil, List.nil_append, List.cons_append, List.append_nil, List.getElem?_cons_zero, List.getElem?_cons_succ, List.set_cons_zero, List.set_cons_succ, Nat.add_sub_cancel_left, Nat.sub_self, Nat.add_zero, Nat.zero_add, Nat.le_add_right, Nat.le_refl, true_and, and_true, va_rf, zok, Nat.add_left_cancel_iff, Nat.add_eq_left, Nat.left_eq_add, eq_self, if_true, if_false, not_false_eq_true, not_true_eq_false, false_implies, true_implies, Nat.reduceEqDiff, Nat.reduceAdd, Nat.reduceLT, Nat.reduceLeDiff, reduceIte, N0] at ht9 ⊢
              exact ht9
            · rw [if_neg q1] at hz hb ⊢
              intro E3 lt3 k3 hq3 hg3 hk3
              have ht9 := tailBad _ items (zms k) E3 lt3 k3 hz.symm (by have := hko2.2.2.1; omega) hq3 hg3 (fun j a c => (hk3 j a c).trans (hk2' j a c))
              simp -implicitDefEqProofs only [e_cut, e_iload, e_aload, e_istore, e_astore, e_iinc, e_const, e_lconst, e_bin, e_bin0, e_un, e_ladd, e_dupi, e_dupr, e_dup2, e_pop, e_sw, e_sw0, e_sw1, e_get, e_put, e_ald, e_ast, e_aald, e_aast, e_copy, e_new, e_newa, e_anewa, e_min, e_abs, e_oinit, e_callI, e_callV, e_callS, e_iret, e_zret, e_lret, e_vret, e_tl1, e_tl0, e_tl2, e_tl3, z10, Bool.false_eq_true, e_argi, e_argr, e_argn, zld_c, zst_n, zst_c, zpick_n, zpick_c, List.drop_succ_cons, List.drop_zero, List.take_succ_cons, List.take_zero, List.length_cons, List.length_nil, List.reverse_cons, List.reverse_nil, List.nil_append, List.cons_append, List.append_nil, List.getElem?_cons_zero, List.getElem?_cons_succ, List.set_cons_zero, List.set_cons_succ, Nat.add_sub_cancel_left, Nat.sub_self, Nat.add_zero, Nat.zero_add, Nat.le_add_right, Nat.le_refl, true_and, and_true, va_rf, zok, Nat.add_left_cancel_iff, Nat.add_eq_left, Nat.left_eq_add, eq_self, if_true, if_false, not_false_eq_true, not_true_eq_false, false_implies, true_implies, Nat.reduceEqDiff, Nat.reduceAdd, Nat.reduceLT, Nat.reduceLeDiff, reduceIte, N0] at ht9 ⊢
              exact ht9
        · rw [if_neg M]
          simp only [zitem] at hz
          rw [if_neg (fun h => M (Or.inl ⟨k114.mpr ⟨h.1, h.2.1⟩, h.2.2⟩)), if_neg (fun h => M (Or.inr ⟨k108.mpr ⟨h.1, h.2.1⟩, h.2.2⟩))] at hz
          simp -implicitDefEqProofs only [e_cut, e_iload, e_aload, e_istore, e_astore, e_iinc, e_const, e_lconst, e_bin, e_bin0, e_un, e_ladd, e_dupi, e_dupr, e_dup2, e_pop, e_sw, e_sw0, e_sw1, e_get, e_put, e_ald, e_ast, e_aald, e_aast, e_copy, e_new, e_newa, e_anewa, e_min, e_abs, e_oinit, e_callI, e_callV, e_callS, e_iret, e_zret, e_lret, e_vret, e_tl1, e_tl0, e_tl2, e_tl3, z10, Bool.false_eq_true, e_argi, e_argr, e_argn, zld_c, zst_n, zst_c, zpick_n, zpick_c, List.drop_succ_cons, List.drop_zero, List.take_succ_cons, List.take_zero, List.length_cons, List.length_nil, List.reverse_cons, List.reverse_nil, List.nil_append, List.cons_append, List.append_nil, List.getElem?_cons_zero, List.getElem?_cons_succ, List.set_cons_zero, List.set_cons_succ, Nat.add_sub_cancel_left, Nat.sub_self, Nat.add_zero, Nat.zero_add, Nat.le_add_right, Nat.le_refl, true_and, and_true, va_rf, zok, Nat.add_left_cancel_iff, Nat.add_eq_left, Nat.left_eq_add, eq_self, if_true, if_false, not_false_eq_true, not_true_eq_false, false_implies, true_implies, Nat.reduceEqDiff, Nat.reduceAdd, Nat.reduceLT, Nat.reduceLeDiff, reduceIte, zM0, g1, N0]
          refine ⟨tr, T.1, T.2, zlt t, nI S.1, -9, va1, k, false, rfl, g1, hva1, hMt1, by omega, Or.inr (Or.inl ⟨rfl, rfl, fun E2 hq2 hk2 => ?_⟩)⟩
          obtain ⟨va2, g2, hva2⟩ := id hq2
          have hs256 : k.2.2.1 < 256 := by have := hko.2.2.1; omega
          simp -implicitDefEqProofs only [e_cut, e_iload, e_aload, e_istore, e_astore, e_iinc, e_const, e_lconst, e_bin, e_bin0, e_un, e_ladd, e_dupi, e_dupr, e_dup2, e_pop, e_sw, e_sw0, e_sw1, e_get, e_put, e_ald, e_ast, e_aald, e_aast, e_copy, e_new, e_newa, e_anewa, e_min, e_abs, e_oinit, e_callI, e_callV, e_callS, e_iret, e_zret, e_lret, e_vret, e_tl1, e_tl0, e_tl2, e_tl3, z10, Bool.false_eq_true, e_argi, e_argr, e_argn, zld_c, zst_n, zst_c, zpick_n, zpick_c, List.drop_succ_cons, List.drop_zero, List.take_succ_cons, List.take_zero, List.length_cons, List.length_nil, List.reverse_cons, List.reverse_nil, List.nil_append, List.cons_append, List.append_nil, List.getElem?_cons_zero, List.getElem?_cons_succ, List.set_cons_zero, List.set_cons_succ, Nat.add_sub_cancel_left, Nat.sub_self, Nat.add_zero, Nat.zero_add, Nat.le_add_right, Nat.le_refl, true_and, and_true, va_rf, zok, Nat.add_left_cancel_iff, Nat.add_eq_left, Nat.left_eq_add, eq_self, if_true, if_false, not_false_eq_true, not_true_eq_false, false_implies, true_implies, Nat.reduceEqDiff, Nat.reduceAdd, Nat.reduceLT, Nat.reduceLeDiff, reduceIte, zM0, g2, N0, e_icmpf (c2 := fun x y => x = y) (zs9 hs256), B_X6_car_88]
          exact bad k.2.2.1 items E2 _ k hz.symm hs256 hq2 (hDt.g.congr (fun j _ _ => hk2 j (by omega))) (fun j a c => (hk2 j a).trans (hk j a c))
  simp -implicitDefEqProofs only [B_X6_car_0, e_cut, e_iload, e_aload, e_istore, e_astore, e_iinc, e_const, e_lconst, e_bin, e_bin0, e_un, e_ladd, e_dupi, e_dupr, e_dup2, e_pop, e_sw, e_sw0, e_sw1, e_get, e_put, e_ald, e_ast, e_aald, e_aast, e_copy, e_new, e_newa, e_anewa, e_min, e_abs, e_oinit, e_callI, e_callV, e_callS, e_iret, e_zret, e_lret, e_vret, e_tl1, e_tl0, e_tl2, e_tl3, z10, Bool.false_eq_true, e_argi, e_argr, e_argn, zld_c, zst_n, zst_c, zpick_n, zpick_c, List.drop_succ_cons, List.drop_zero, List.take_succ_cons, List.take_zero, List.length_cons, List.length_nil, List.reverse_cons, List.reverse_nil, List.nil_append, List.cons_append, List.append_nil, List.getElem?_cons_zero, List.getElem?_cons_succ, List.set_cons_zero, List.set_cons_succ, Nat.add_sub_cancel_left, Nat.sub_self, Nat.add_zero, Nat.zero_add, Nat.le_add_right, Nat.le_refl, true_and, and_true, va_rf, zok, Nat.add_left_cancel_iff, Nat.add_eq_left, Nat.left_eq_add, eq_self, if_true, if_false, not_false_eq_true, not_true_eq_false, false_implies, true_implies, Nat.reduceEqDiff, Nat.reduceAdd, Nat.reduceLT, Nat.reduceLeDiff, reduceIte, zM0, e_up, e0, N0]
  refine ⟨tr, nI T.1, lt, 0, st, so, va, -9, nI S.1, D, rfl, u_eq, hDg.congr (fun j h1 h2 => (u_ne (by omega)).trans (u_ne (by omega))), by omega, fun E1 g1 hd1 hk1 => ?_⟩
  simp -implicitDefEqProofs only [e_cut, e_iload, e_aload, e_istore, e_astore, e_iinc, e_const, e_lconst, e_bin, e_bin0, e_un, e_ladd, e_dupi, e_dupr, e_dup2, e_pop, e_sw, e_sw0, e_sw1, e_get, e_put, e_ald, e_ast, e_aald, e_aast, e_copy, e_new, e_newa, e_anewa, e_min, e_abs, e_oinit, e_callI, e_callV, e_callS, e_iret, e_zret, e_lret, e_vret, e_tl1, e_tl0, e_tl2, e_tl3, z10, Bool.false_eq_true, e_argi, e_argr, e_argn, zld_c, zst_n, zst_c, zpick_n, zpick_c, List.drop_succ_cons, List.drop_zero, List.take_succ_cons, List.take_zero, List.length_cons, List.length_nil, List.reverse_cons, List.reverse_nil, List.nil_append, List.cons_append, List.append_nil, List.getElem?_cons_zero, List.getElem?_cons_succ, List.set_cons_zero, List.set_cons_succ, Nat.add_sub_cancel_left, Nat.sub_self, Nat.add_zero, Nat.zero_add, Nat.le_add_right, Nat.le_refl, true_and, and_true, va_rf, zok, Nat.add_left_cancel_iff, Nat.add_eq_left, Nat.left_eq_add, eq_self, if_true, if_false, not_false_eq_true, not_true_eq_false, false_implies, true_implies, Nat.reduceEqDiff, Nat.reduceAdd, Nat.reduceLT, Nat.reduceLeDiff, reduceIte, zM0, g1, N0]
  have hk1' : ∀ j, j ≠ 159 → (j < 161 ∨ 165 < j) → E1 j = E j := fun j a c => (hk1 j a (by omega) (by omega)).trans ((u_ne a).trans (u_ne a))
  refine ⟨tr, T.1, 0, T.2, 0, st, so, va, -9, nI S.1, rfl, g1, hMt.congr (hk1' 160 (by omega) (by omega)), Nat.zero_le _, by omega, fun E2 hq2 hk2 => ?_⟩
  simp -implicitDefEqProofs only [e_cut, e_iload, e_aload, e_istore, e_astore, e_iinc, e_const, e_lconst, e_bin, e_bin0, e_un, e_ladd, e_dupi, e_dupr, e_dup2, e_pop, e_sw, e_sw0, e_sw1, e_get, e_put, e_ald, e_ast, e_aald, e_aast, e_copy, e_new, e_newa, e_anewa, e_min, e_abs, e_oinit, e_callI, e_callV, e_callS, e_iret, e_zret, e_lret, e_vret, e_tl1, e_tl0, e_tl2, e_tl3, z10, Bool.false_eq_true, e_argi, e_argr, e_argn, zld_c, zst_n, zst_c, zpick_n, zpick_c, List.drop_succ_cons, List.drop_zero, List.take_succ_cons, List.take_zero, List.length_cons, List.length_nil, List.reverse_cons, List.reverse_nil, List.nil_append, List.cons_append, List.append_nil, List.getElem?_cons_zero, List.getElem?_cons_succ, List.set_cons_zero, List.set_cons_succ, Nat.add_sub_cancel_left, Nat.sub_self, Nat.add_zero, Nat.zero_add, Nat.le_add_right, Nat.le_refl, true_and, and_true, va_rf, zok, Nat.add_left_cancel_iff, Nat.add_eq_left, Nat.left_eq_add, eq_self, if_true, if_false, not_false_eq_true, not_true_eq_false, false_implies, true_implies, Nat.reduceEqDiff, Nat.reduceAdd, Nat.reduceLT, Nat.reduceLeDiff, reduceIte]
  have hb0 := ztk_b (len := T.1) (q := 0) (tx := T.2) (Nat.zero_le _) ht
  exact loop 120 (ztk T.1 T.2 0) 0 (fun _ => 0) (fun _ => 0) (fun _ => 0) 9 false 0 E2 hq2 (zKo_tk (Nat.zero_le _) ht) ((hd1 (fun _ => 0) (fun _ => 0) (fun _ => 0) 0).congr (fun j h1 h2 => hk2 j (by omega))) ⟨Nat.zero_le _, fun j hj => absurd hj (Nat.not_lt_zero _), (by decide : 9 ≤ 20)⟩ (fun h => by have := hb0.2.2.2.2.2 h; omega) rfl (fun j a c => (hk2 j a).trans (hk1' j a c))
set_option maxRecDepth 20000 in
theorem f_X6_car_78 : Cond.fieldLink RX6 78 (TX6 13).1 (TX6 13).2.1 (TX6 13).2.2.1 ∈ wsX6_car := by decide +kernel
set_option maxRecDepth 20000 in
theorem k_X6_car_6 : ∀ w ∈ u_ws RX6 TX6 21, w ∈ wsX6_car := fun _ h => List.mem_cons_of_mem _ (List.mem_append_right _ h)
set_option maxRecDepth 20000 in
theorem f_X6_car_58 : Cond.fieldLink RX6 58 (TX6 2).1 (TX6 2).2.1 (TX6 2).2.2.1 ∈ wsX6_car := by decide +kernel
set_option maxRecDepth 20000 in
theorem f_X6_car_75 : Cond.fieldLink RX6 75 (TX6 11).1 (TX6 11).2.1 (TX6 11).2.2.1 ∈ wsX6_car := by decide +kernel
set_option maxRecDepth 20000 in
theorem f_X6_car_62 : Cond.fieldLink RX6 62 (TX6 9).1 (TX6 9).2.1 (TX6 9).2.2.1 ∈ wsX6_car := by decide +kernel
set_option maxRecDepth 100000 in
set_option maxHeartbeats 4000000 in
theorem S_X6_car_91 {p : Program} {e : Env} {s : State} {m : MethodId} {args : Array Value} {below : List Frame} {meth : Method} {c : Code} {D : va_G} {cy : zY} {b n0 : Nat} {P : zPo} (la : Launch) (X : zX p la e (rm_X6_car) s m args below meth c 3 D cy b n0 cX6_car wsX6_car RX6) (hr : meth.sig.returnType = (some .int)) (h_X6_due : zMet la yX6_due wsX6_due rm_X6_due 0 0 sp_X6_due) (h_X6_mayBe : zMet la yX6_mayBe wsX6_mayBe rm_X6_mayBe 0 0 sp_X6_mayBe) (h_X6_plain : zMet la yX6_plain wsX6_plain rm_X6_plain 0 0 sp_X6_plain) (h_X6_readRow : zMet la yX6_readRow wsX6_readRow rm_X6_readRow 0 0 sp_X6_readRow) (h_X6_step : zMet la yX6_step wsX6_step rm_X6_step 0 0 sp_X6_step) (h_X6_takeDraft : zMet la yX6_takeDraft wsX6_takeDraft rm_X6_takeDraft 0 0 sp_X6_takeDraft) : zS p la e (rm_X6_car) s m args below meth c (MQ below (zQ D b (n0 + 0) P) args s 0 0 (fun q => b ≤ q)) 3 D b n0 91 (B_X6_car_91 b n0 cy P (zAt p la e (rm_X6_car) s m args below meth c (MQ below (zQ D b (n0 + 0) P) args s 0 0 (fun q => b ≤ q)) 3 D b n0)) := by
  unfold B_X6_car_91
  exact (s_aload_n X dX6_car_91 rfl (s_get X dX6_car_92 rfl k_X6_car_6 (by decide) f_X6_car_78 (s_bipush X dX6_car_95 (by decide) (s_icmp_eq X dX6_car_97 (by decide) (s_aload_n X dX6_car_108 rfl (s_callV X h_X6_takeDraft dX6_car_109 rfl gX6_car_X6_takeDraft rfl rfl rfl (by decide +kernel) ⟨by decide, by decide⟩ (s_aload_n X dX6_car_112 rfl (s_iconst X dX6_car_113 (by decide) (s_put X dX6_car_114 rfl k_X6_car_6 tyX6_ok nmX6 (by decide) f_X6_car_58 rfl (tyX6_ok 2 (by decide)) zok_int (s_iload_n X dX6_car_117 rfl (s_iret X dX6_car_118 hr))))))) (s_bipush X dX6_car_100 (by decide) (s_aload_n X dX6_car_102 rfl (s_get X dX6_car_103 rfl k_X6_car_6 (by decide) f_X6_car_78 (s_isub X dX6_car_106 (s_iret X dX6_car_107 hr)))))))))
set_option maxRecDepth 100000 in
set_option maxHeartbeats 4000000 in
theorem S_X6_car_88 {p : Program} {e : Env} {s : State} {m : MethodId} {args : Array Value} {below : List Frame} {meth : Method} {c : Code} {D : va_G} {cy : zY} {b n0 : Nat} {P : zPo} (la : Launch) (X : zX p la e (rm_X6_car) s m args below meth c 3 D cy b n0 cX6_car wsX6_car RX6) (hr : meth.sig.returnType = (some .int)) (h_X6_due : zMet la yX6_due wsX6_due rm_X6_due 0 0 sp_X6_due) (h_X6_mayBe : zMet la yX6_mayBe wsX6_mayBe rm_X6_mayBe 0 0 sp_X6_mayBe) (h_X6_plain : zMet la yX6_plain wsX6_plain rm_X6_plain 0 0 sp_X6_plain) (h_X6_readRow : zMet la yX6_readRow wsX6_readRow rm_X6_readRow 0 0 sp_X6_readRow) (h_X6_step : zMet la yX6_step wsX6_step rm_X6_step 0 0 sp_X6_step) (h_X6_takeDraft : zMet la yX6_takeDraft wsX6_takeDraft rm_X6_takeDraft 0 0 sp_X6_takeDraft) : zS p la e (rm_X6_car) s m args below meth c (MQ below (zQ D b (n0 + 0) P) args s 0 0 (fun q => b ≤ q)) 3 D b n0 88 (B_X6_car_88 b n0 cy P (zAt p la e (rm_X6_car) s m args below meth c (MQ below (zQ D b (n0 + 0) P) args s 0 0 (fun q => b ≤ q)) 3 D b n0)) := by
  unfold B_X6_car_88
  exact (s_goto X dX6_car_88 (by decide) (s_cut (by decide) zS_at))
set_option maxRecDepth 100000 in
set_option maxHeartbeats 4000000 in
theorem S_X6_car_81 {p : Program} {e : Env} {s : State} {m : MethodId} {args : Array Value} {below : List Frame} {meth : Method} {c : Code} {D : va_G} {cy : zY} {b n0 : Nat} {P : zPo} (la : Launch) (X : zX p la e (rm_X6_car) s m args below meth c 3 D cy b n0 cX6_car wsX6_car RX6) (hr : meth.sig.returnType = (some .int)) (h_X6_due : zMet la yX6_due wsX6_due rm_X6_due 0 0 sp_X6_due) (h_X6_mayBe : zMet la yX6_mayBe wsX6_mayBe rm_X6_mayBe 0 0 sp_X6_mayBe) (h_X6_plain : zMet la yX6_plain wsX6_plain rm_X6_plain 0 0 sp_X6_plain) (h_X6_readRow : zMet la yX6_readRow wsX6_readRow rm_X6_readRow 0 0 sp_X6_readRow) (h_X6_step : zMet la yX6_step wsX6_step rm_X6_step 0 0 sp_X6_step) (h_X6_takeDraft : zMet la yX6_takeDraft wsX6_takeDraft rm_X6_takeDraft 0 0 sp_X6_takeDraft) : zS p la e (rm_X6_car) s m args below meth c (MQ below (zQ D b (n0 + 0) P) args s 0 0 (fun q => b ≤ q)) 3 D b n0 81 (B_X6_car_81 b n0 cy P (zAt p la e (rm_X6_car) s m args below meth c (MQ below (zQ D b (n0 + 0) P) args s 0 0 (fun q => b ≤ q)) 3 D b n0)) := by
  unfold B_X6_car_81
  exact (s_callV X h_X6_due dX6_car_81 rfl gX6_car_X6_due rfl rfl rfl (by decide +kernel) ⟨by decide, by decide⟩ (s_pop X dX6_car_84 (s_iinc X dX6_car_85 (by decide) (by decide) (S_X6_car_88 la X hr h_X6_due h_X6_mayBe h_X6_plain h_X6_readRow h_X6_step h_X6_takeDraft))))
set_option maxRecDepth 100000 in
set_option maxHeartbeats 4000000 in
theorem S_X6_car_21 {p : Program} {e : Env} {s : State} {m : MethodId} {args : Array Value} {below : List Frame} {meth : Method} {c : Code} {D : va_G} {cy : zY} {b n0 : Nat} {P : zPo} (la : Launch) (X : zX p la e (rm_X6_car) s m args below meth c 3 D cy b n0 cX6_car wsX6_car RX6) (hr : meth.sig.returnType = (some .int)) (h_X6_due : zMet la yX6_due wsX6_due rm_X6_due 0 0 sp_X6_due) (h_X6_mayBe : zMet la yX6_mayBe wsX6_mayBe rm_X6_mayBe 0 0 sp_X6_mayBe) (h_X6_plain : zMet la yX6_plain wsX6_plain rm_X6_plain 0 0 sp_X6_plain) (h_X6_readRow : zMet la yX6_readRow wsX6_readRow rm_X6_readRow 0 0 sp_X6_readRow) (h_X6_step : zMet la yX6_step wsX6_step rm_X6_step 0 0 sp_X6_step) (h_X6_takeDraft : zMet la yX6_takeDraft wsX6_takeDraft rm_X6_takeDraft 0 0 sp_X6_takeDraft) : zS p la e (rm_X6_car) s m args below meth c (MQ below (zQ D b (n0 + 0) P) args s 0 0 (fun q => b ≤ q)) 3 D b n0 21 (B_X6_car_21 b n0 cy P (zAt p la e (rm_X6_car) s m args below meth c (MQ below (zQ D b (n0 + 0) P) args s 0 0 (fun q => b ≤ q)) 3 D b n0)) := by
  unfold B_X6_car_21
  exact (s_aload_n X dX6_car_21 rfl (s_get X dX6_car_22 rfl k_X6_car_6 (by decide) f_X6_car_78 (s_bipush X dX6_car_25 (by decide) (s_icmp_ne X dX6_car_27 (by decide) (S_X6_car_91 la X hr h_X6_due h_X6_mayBe h_X6_plain h_X6_readRow h_X6_step h_X6_takeDraft) (s_aload_n X dX6_car_30 rfl (s_get X dX6_car_31 rfl k_X6_car_6 (by decide) f_X6_car_75 (s_iconst X dX6_car_34 (by decide) (s_icmp_eq X dX6_car_35 (by decide) (S_X6_car_91 la X hr h_X6_due h_X6_mayBe h_X6_plain h_X6_readRow h_X6_step h_X6_takeDraft) (s_aload_n X dX6_car_38 rfl (s_get X dX6_car_39 rfl k_X6_car_6 (by decide) f_X6_car_75 (s_istore_n X dX6_car_42 rfl (by decide) (s_aload_n X dX6_car_43 rfl (s_aload_n X dX6_car_44 rfl (s_iload_n X dX6_car_45 rfl (s_callV X h_X6_mayBe dX6_car_46 rfl gX6_car_X6_mayBe rfl rfl rfl (by decide +kernel) ⟨by decide, by decide⟩ (s_callV X h_X6_due dX6_car_49 rfl gX6_car_X6_due rfl rfl rfl (by decide +kernel) ⟨by decide, by decide⟩ (s_pop X dX6_car_52 (s_aload_n X dX6_car_53 rfl (s_get X dX6_car_54 rfl k_X6_car_6 (by decide) f_X6_car_78 (s_bipush X dX6_car_57 (by decide) (s_icmp_ne X dX6_car_59 (by decide) (S_X6_car_88 la X hr h_X6_due h_X6_mayBe h_X6_plain h_X6_readRow h_X6_step h_X6_takeDraft) (s_aload_n X dX6_car_62 rfl (s_iload_n X dX6_car_63 rfl (s_callV X h_X6_readRow dX6_car_64 rfl gX6_car_X6_readRow rfl rfl rfl (by decide +kernel) ⟨by decide, by decide⟩ (s_aload_n X dX6_car_67 rfl (s_aload_n X dX6_car_68 rfl (s_get X dX6_car_69 rfl k_X6_car_6 (by decide) f_X6_car_75 (s_iconst X dX6_car_72 (by decide) (s_icmp_ne X dX6_car_73 (by decide) (s_iconst X dX6_car_80 (by decide) (S_X6_car_81 la X hr h_X6_due h_X6_mayBe h_X6_plain h_X6_readRow h_X6_step h_X6_takeDraft)) (s_iconst X dX6_car_76 (by decide) (s_goto X dX6_car_77 (by decide) (S_X6_car_81 la X hr h_X6_due h_X6_mayBe h_X6_plain h_X6_readRow h_X6_step h_X6_takeDraft))))))))))))))))))))))))))))))))
set_option maxRecDepth 100000 in
set_option maxHeartbeats 4000000 in
theorem S_X6_car_0 {p : Program} {e : Env} {s : State} {m : MethodId} {args : Array Value} {below : List Frame} {meth : Method} {c : Code} {D : va_G} {cy : zY} {b n0 : Nat} {P : zPo} (la : Launch) (X : zX p la e (rm_X6_car) s m args below meth c 3 D cy b n0 cX6_car wsX6_car RX6) (hr : meth.sig.returnType = (some .int)) (h_X6_due : zMet la yX6_due wsX6_due rm_X6_due 0 0 sp_X6_due) (h_X6_mayBe : zMet la yX6_mayBe wsX6_mayBe rm_X6_mayBe 0 0 sp_X6_mayBe) (h_X6_plain : zMet la yX6_plain wsX6_plain rm_X6_plain 0 0 sp_X6_plain) (h_X6_readRow : zMet la yX6_readRow wsX6_readRow rm_X6_readRow 0 0 sp_X6_readRow) (h_X6_step : zMet la yX6_step wsX6_step rm_X6_step 0 0 sp_X6_step) (h_X6_takeDraft : zMet la yX6_takeDraft wsX6_takeDraft rm_X6_takeDraft 0 0 sp_X6_takeDraft) : zS p la e (rm_X6_car) s m args below meth c (MQ below (zQ D b (n0 + 0) P) args s 0 0 (fun q => b ≤ q)) 3 D b n0 0 (B_X6_car_0 b n0 cy P (zAt p la e (rm_X6_car) s m args below meth c (MQ below (zQ D b (n0 + 0) P) args s 0 0 (fun q => b ≤ q)) 3 D b n0)) := by
  unfold B_X6_car_0
  exact (s_aload_n X dX6_car_0 rfl (s_iconst X dX6_car_1 (by decide) (s_put X dX6_car_2 rfl k_X6_car_6 tyX6_ok nmX6 (by decide) f_X6_car_62 rfl (tyX6_ok 9 (by decide)) zok_int (s_aload_n X dX6_car_5 rfl (s_bipush X dX6_car_6 (by decide) (s_put X dX6_car_8 rfl k_X6_car_6 tyX6_ok nmX6 (by decide) f_X6_car_78 rfl (tyX6_ok 13 (by decide)) zok_int (s_aload_n X dX6_car_11 rfl (s_callV X h_X6_plain dX6_car_12 rfl gX6_car_X6_plain rfl rfl rfl (by decide +kernel) ⟨by decide, by decide⟩ (s_iconst X dX6_car_15 (by decide) (s_istore_n X dX6_car_16 rfl (by decide) (s_aload_n X dX6_car_17 rfl (s_callV X h_X6_step dX6_car_18 rfl gX6_car_X6_step rfl rfl rfl (by decide +kernel) ⟨by decide, by decide⟩ (s_cut (by decide) zS_at)))))))))))))
theorem w_X6_car (la : Launch) (h_X6_due : zMet la yX6_due wsX6_due rm_X6_due 0 0 sp_X6_due) (h_X6_mayBe : zMet la yX6_mayBe wsX6_mayBe rm_X6_mayBe 0 0 sp_X6_mayBe) (h_X6_plain : zMet la yX6_plain wsX6_plain rm_X6_plain 0 0 sp_X6_plain) (h_X6_readRow : zMet la yX6_readRow wsX6_readRow rm_X6_readRow 0 0 sp_X6_readRow) (h_X6_step : zMet la yX6_step wsX6_step rm_X6_step 0 0 sp_X6_step) (h_X6_takeDraft : zMet la yX6_takeDraft wsX6_takeDraft rm_X6_takeDraft 0 0 sp_X6_takeDraft) (sp : zSp) (vc : zVC_X6_car sp) : zMet la yX6_car wsX6_car (rm_X6_car) 0 0 sp :=
  z_of (cc := cX6_car) (maxL := 3) (ret := (some .int)) (by decide +kernel) rfl (fun p e s m args below meth c D cy b n as E P hsp X hr hin => by
    obtain ⟨h1, h2⟩ := vc b cy n as E P (zAt p la e (rm_X6_car) s m args below meth c (MQ below (zQ D b (n + 0) P) args s 0 0 (fun q => b ≤ q)) 3 D b n) (fun _ _ _ _ _ q => S_X6_car_21 la X hr h_X6_due h_X6_mayBe h_X6_plain h_X6_readRow h_X6_step h_X6_takeDraft _ _ _ _ _ q) hsp
    exact ⟨h1, S_X6_car_0 la X hr h_X6_due h_X6_mayBe h_X6_plain h_X6_readRow h_X6_step h_X6_takeDraft _ _ _ _ _ h2⟩)

theorem m_X6_car (la : Launch) : zMet la yX6_car wsX6_car rm_X6_car 0 0 sp_X6_car := w_X6_car la (m_X6_due la) (m_X6_mayBe la) (m_X6_plain la) (m_X6_readRow la) (m_X6_step la) (m_X6_takeDraft la) _ vc_X6_car

