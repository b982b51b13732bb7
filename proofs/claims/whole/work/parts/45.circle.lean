theorem zfo_ex {ok : Nat → Bool} {bt : Nat → Nat → Bool} {q : Nat} : ∀ {n : Nat}, q < n → ok q = true → zfo ok bt n ≠ none := by
  intro n
  induction n with
  | zero => intro h; omega
  | succ n ih =>
    intro h hq hz
    rw [zfo] at hz
    cases hz2 : zfo ok bt n with
    | none =>
      rw [hz2] at hz
      simp only at hz
      by_cases e : ok n = true
      · rw [if_pos e] at hz; cases hz
      · by_cases e2 : q = n
        · rw [e2] at hq; exact e hq
        · exact ih (by omega) hq hz2
    | some f =>
      rw [hz2] at hz
      simp only at hz
      split at hz <;> cases hz
theorem zwhom_ab {n : Nat} {lo c : Nat → Nat} {r by0 q : Nat} (h : zwhom n lo c r by0 = some q) : (c 1).testBit r = true := by
  unfold zwhom at h
  by_cases e : (c 1).testBit r = true
  · exact e
  · rw [if_neg e] at h; cases h
theorem zwhom_back {n : Nat} {lo c : Nat → Nat} {a b by0 by1 : Nat} (ha : a < n) (h : zwhom n lo c a by0 = some b) : zwhom n lo c b by1 ≠ none := by
  have h1 := zwhom_lt h
  have h2 := zwhom_ab h
  unfold zwhom
  rw [if_pos h1.2.2]
  unfold zwho
  exact zfo_ex (q := a) ha (by simp [h2, Ne.symm h1.2.1])
theorem zit_s {n : Nat} {lo la c : Nat → Nat} {r t a : Nat} (h : zit n lo la c r t = some a) : zit n lo la c r (t + 1) = zwhom n lo c a (la a) := by
  rw [zit, h]; rfl
theorem zit_go {n : Nat} {lo la c : Nat → Nat} {r : Nat} (hr : r < n) (h : zwhom n lo c r (la r) ≠ none) : ∀ t, ∃ a b, a < n ∧ zit n lo la c r t = some a ∧ zwhom n lo c a (la a) = some b := by
  intro t
  induction t with
  | zero =>
    cases hz : zwhom n lo c r (la r) with
    | none => exact absurd hz h
    | some b => exact ⟨r, b, hr, rfl, hz⟩
  | succ t ih =>
    obtain ⟨a, b, ha, h1, h2⟩ := ih
    have h3 := zwhom_back (by1 := la b) ha h2
    cases hz : zwhom n lo c b (la b) with
    | none => exact absurd hz h3
    | some d => exact ⟨b, d, (zwhom_lt h2).1, by rw [zit_s h1]; exact h2, hz⟩
theorem zpig : ∀ (n : Nat) (f : Nat → Nat), (∀ i, i ≤ n → f i < n) → ∃ i j, i < j ∧ j ≤ n ∧ f i = f j := by
  intro n
  induction n with
  | zero => intro f h; exact absurd (h 0 (Nat.le_refl _)) (Nat.not_lt_zero _)
  | succ n ih =>
    intro f h
    by_cases e : ∃ i, i ≤ n ∧ f i = f (n + 1)
    · obtain ⟨i, hi, hf⟩ := e
      exact ⟨i, n + 1, by omega, by omega, hf⟩
    · have hne : ∀ i, i ≤ n → f i ≠ f (n + 1) := fun i hi hf => e ⟨i, hi, hf⟩
      have hl := h (n + 1) (Nat.le_refl _)
      obtain ⟨i, j, h1, h2, h3⟩ := ih (fun i => if f (n + 1) < f i then f i - 1 else f i) (fun i hi => by
        have a1 := hne i hi
        have a2 := h i (by omega)
        split <;> omega)
      have a1 := hne i (by omega)
      have a2 := hne j (by omega)
      refine ⟨i, j, h1, by omega, ?_⟩
      split at h3 <;> split at h3 <;> omega
theorem zsb_all : ∀ M : Fin 64, ∀ q : Fin 6, ∀ j : Fin 6, (zset M.val q.val).testBit j.val = (M.val.testBit j.val || decide (j.val = q.val)) := by decide +kernel
theorem zsb {M q j : Nat} (hM : M < 64) (hq : q < 6) (hj : j < 6) : (zset M q).testBit j = (M.testBit j || decide (j = q)) := zsb_all ⟨M, hM⟩ ⟨q, hq⟩ ⟨j, hj⟩
theorem zps_all : ∀ M : Fin 64, ∀ q : Fin 6, zpop (zset M.val q.val) = zpop M.val + (if M.val.testBit q.val then 0 else 1) := by decide +kernel
theorem zps {M q : Nat} (hM : M < 64) (hq : q < 6) (h : M.testBit q = false) : zpop (zset M q) = zpop M + 1 := by
  have := zps_all ⟨M, hM⟩ ⟨q, hq⟩
  simp only [h] at this
  exact this
theorem zext_all : ∀ a b : Fin 64, (∀ j : Fin 6, a.val.testBit j.val = b.val.testBit j.val) → a.val = b.val := by decide +kernel
theorem zext {a b' : Nat} (ha : a < 64) (hb : b' < 64) (h : ∀ j, j < 6 → a.testBit j = b'.testBit j) : a = b' := zext_all ⟨a, ha⟩ ⟨b', hb⟩ (fun j => h j.val j.isLt)
def zmk (x : Nat → Nat) (o : Nat) : Nat → Nat
  | 0 => 0
  | t + 1 => zset (zmk x o t) (x (o + t))
theorem zmk_lt {x : Nat → Nat} {o : Nat} (hx : ∀ t, x t < 6) : ∀ k, zmk x o k < 64 := by
  intro k
  induction k with
  | zero => show (0 : Nat) < 64; omega
  | succ k ih => exact zset_lt ih (hx _)
theorem zmk_bit {x : Nat → Nat} {o : Nat} (hx : ∀ t, x t < 6) {j : Nat} (hj : j < 6) : ∀ k, (zmk x o k).testBit j = true ↔ ∃ t, t < k ∧ x (o + t) = j := by
  intro k
  induction k with
  | zero => exact ⟨fun h => by simp [zmk] at h, fun ⟨t, ht, _⟩ => absurd ht (Nat.not_lt_zero _)⟩
  | succ k ih =>
    rw [zmk, zsb (zmk_lt hx k) (hx _) hj, Bool.or_eq_true, ih, decide_eq_true_eq]
    refine ⟨fun h => ?_, fun ⟨t, ht, h2⟩ => ?_⟩
    · rcases h with ⟨t, ht, h2⟩ | h
      · exact ⟨t, by omega, h2⟩
      · exact ⟨k, by omega, h.symm⟩
    · by_cases e : t = k
      · rw [e] at h2; exact Or.inr h2.symm
      · exact Or.inl ⟨t, by omega, h2⟩
theorem zmk_pop {x : Nat → Nat} {o : Nat} (hx : ∀ t, x t < 6) : ∀ k, (∀ i j, i < j → j < k → x (o + i) ≠ x (o + j)) → zpop (zmk x o k) = k := by
  intro k
  induction k with
  | zero => intro _; show zpop 0 = 0; decide
  | succ k ih =>
    intro h
    rw [zmk, zps (zmk_lt hx k) (hx _) ?_, ih (fun i j a c => h i j a (by omega))]
    cases hb : (zmk x o k).testBit (x (o + k)) with
    | false => rfl
    | true =>
      obtain ⟨t, ht, h2⟩ := (zmk_bit hx (hx _) k).mp hb
      exact absurd h2 (h t k ht (by omega))
theorem zmod {x : Nat → Nat} {o k : Nat} (hk : 0 < k) (h : ∀ u, x (o + u + k) = x (o + u)) : ∀ u, x (o + u) = x (o + u % k) := by
  intro u
  induction u using Nat.strongRecOn with
  | ind u ih =>
    by_cases e : u < k
    · rw [Nat.mod_eq_of_lt e]
    · have h1 := ih (u - k) (by omega)
      have h2 := h (u - k)
      rw [show o + (u - k) + k = o + u by omega] at h2
      rw [h2, h1, Nat.mod_eq_sub_mod (show k ≤ u by omega)]
def zmn (x : Nat → Nat) (o : Nat) : Nat → Nat
  | 0 => x o
  | k + 1 => if x (o + (k + 1)) < zmn x o k then x (o + (k + 1)) else zmn x o k
theorem zmn_b {x : Nat → Nat} {o : Nat} : ∀ k, (∃ t, t < k + 1 ∧ x (o + t) = zmn x o k) ∧ ∀ t, t < k + 1 → zmn x o k ≤ x (o + t) := by
  intro k
  induction k with
  | zero => exact ⟨⟨0, by omega, rfl⟩, fun t ht => by rw [show t = 0 by omega]; exact Nat.le_refl _⟩
  | succ k ih =>
    obtain ⟨⟨t, h1, h2⟩, h3⟩ := ih
    rw [zmn]
    by_cases e : x (o + (k + 1)) < zmn x o k
    · rw [if_pos e]
      refine ⟨⟨k + 1, by omega, rfl⟩, fun t ht => ?_⟩
      by_cases e2 : t = k + 1
      · rw [e2]; exact Nat.le_refl _
      · have := h3 t (by omega); omega
    · rw [if_neg e]
      refine ⟨⟨t, by omega, h2⟩, fun t ht => ?_⟩
      by_cases e2 : t = k + 1
      · rw [e2]; omega
      · exact h3 t (by omega)
theorem zfind_at {p : Nat → Bool} {l : Nat} : ∀ {d k : Nat}, k ≤ l → l < k + d → p l = true → (∀ j, k ≤ j → j < l → p j = false) → zfind p k d = some l := by
  intro d
  induction d with
  | zero => intro k h1 h2; omega
  | succ d ih =>
    intro k h1 h2 h3 h4
    rw [zfind]
    by_cases e : k = l
    · rw [e, if_pos h3]
    · rw [if_neg (by rw [h4 k (Nat.le_refl _) (by omega)]; simp)]
      exact ih (by omega) (by omega) h3 (fun j a c => h4 j (by omega) c)
/-- a walk among n: it comes to a circle -/
theorem zcirc {n : Nat} (hn : n ≤ 6) {x : Nat → Nat} (hx : ∀ t, x t < n) (hd : ∀ i j, x i = x j → x (i + 1) = x (j + 1)) :
    ∃ p, 1 ≤ p ∧ x (6 + p) = x 6 ∧ ∀ m, (∀ t, 1 ≤ t → t < m + 1 → x (6 + t) ≠ x 6) → x (6 + (m + 1)) = x 6 → zpop (zmk x n n) = m + 1 ∧ zfind (fun q => (zmk x n n).testBit q) 0 6 = some (zmn x 6 m) ∧ zmk x n n ≠ 0 := by
  have hx6 : ∀ t, x t < 6 := fun t => by have := hx t; omega
  obtain ⟨i, j, hij, hjn, he⟩ := zpig n x (fun i _ => hx i)
  have sh : ∀ u v, x u = x v → ∀ d, x (u + d) = x (v + d) := by
    intro u v h d
    induction d with
    | zero => exact h
    | succ d ih => exact hd _ _ ih
  obtain ⟨p, hp⟩ : ∃ p, p = j - i := ⟨_, rfl⟩
  have per : ∀ t, i ≤ t → x (t + p) = x t := by
    intro t ht
    have := sh _ _ he (t - i)
    rw [show i + (t - i) = t by omega, show j + (t - i) = t + p by omega] at this
    exact this.symm
  have perm : ∀ t m, i ≤ t → x (t + m * p) = x t := by
    intro t m ht
    induction m with
    | zero => rw [Nat.zero_mul]; rfl
    | succ m ih => rw [Nat.succ_mul, ← Nat.add_assoc, per _ (by omega), ih]
  have inj : ∀ a c, i ≤ a → i ≤ c → x (a + 1) = x (c + 1) → x a = x c := by
    intro a c ha hc h
    have := sh _ _ h (p - 1)
    rw [show a + 1 + (p - 1) = a + p by omega, show c + 1 + (p - 1) = c + p by omega, per a ha, per c hc] at this
    exact this
  have injm : ∀ d a c, i ≤ a → i ≤ c → x (a + d) = x (c + d) → x a = x c := by
    intro d
    induction d with
    | zero => intro a c _ _ h; exact h
    | succ d ih => intro a c ha hc h; exact ih a c ha hc (inj _ _ (by omega) (by omega) h)
  refine ⟨p, by omega, per 6 (by omega), fun m hm hend => ?_⟩
  have dist : ∀ a c, a < c → c < m + 1 → x (6 + a) ≠ x (6 + c) := by
    intro a c hac hc h
    refine hm (c - a) (by omega) (by omega) ?_
    refine (injm a 6 (6 + (c - a)) (by omega) (by omega) ?_).symm
    rw [show 6 + (c - a) + a = 6 + c by omega]; exact h
  have perk : ∀ u, x (6 + u + (m + 1)) = x (6 + u) := by
    intro u
    have := sh _ _ hend u
    rw [show 6 + (m + 1) + u = 6 + u + (m + 1) by omega] at this
    exact this
  have eqm : zmk x n n = zmk x 6 (m + 1) := by
    refine zext (zmk_lt hx6 _) (zmk_lt hx6 _) (fun q hq => ?_)
    rw [Bool.eq_iff_iff, zmk_bit hx6 hq, zmk_bit hx6 hq]
    refine ⟨fun ⟨t, ht, h⟩ => ?_, fun ⟨s, hs, h⟩ => ?_⟩
    · have h1 := perm (n + t) 6 (by omega)
      have h2 := zmod (o := 6) (k := m + 1) (by omega) perk (n + t + 6 * p - 6)
      rw [show 6 + (n + t + 6 * p - 6) = n + t + 6 * p by omega, h1, h] at h2
      exact ⟨_, Nat.mod_lt _ (by omega), h2.symm⟩
    · have h2 := zmod (o := n) (k := p) (by omega) (fun u => per (n + u) (by omega)) (6 + s - n)
      rw [show n + (6 + s - n) = 6 + s by omega, h] at h2
      have h3 := Nat.mod_lt (6 + s - n) (show 0 < p by omega)
      exact ⟨_, by omega, h2.symm⟩
  rw [eqm]
  have hbit : ∀ q, q < 6 → ((zmk x 6 (m + 1)).testBit q = true ↔ ∃ t, t < m + 1 ∧ x (6 + t) = q) := fun q hq => zmk_bit hx6 hq _
  obtain ⟨⟨t, ht, h2⟩, h3⟩ := zmn_b (x := x) (o := 6) m
  have hl6 : zmn x 6 m < 6 := by rw [← h2]; exact hx6 _
  have hlb : (zmk x 6 (m + 1)).testBit (zmn x 6 m) = true := (hbit _ hl6).mpr ⟨t, ht, h2⟩
  refine ⟨zmk_pop hx6 _ dist, zfind_at (Nat.zero_le _) (by omega) hlb (fun j _ hj => ?_), fun h0 => ?_⟩
  · cases hb : (zmk x 6 (m + 1)).testBit j with
    | false => rfl
    | true =>
      obtain ⟨s, hs, h4⟩ := (hbit j (by omega)).mp hb
      have := h3 s hs; omega
  · rw [h0] at hlb; simp at hlb
def sp_X6_circle : zSp := fun b cy as N E P => ∃ x w : Int32, zPM (op_circle x w) [.int x, .int w] b cy as N E P
abbrev rm_X6_circle : Room := { frames := 4, cells := 0, slots := 0, locals := 112 }
def B_X6_circle_149 (b n0 : Nat) (cy : zY) (P : zPo) (A : Nat → zC) : zC :=
  z_iret 0 0 P
def B_X6_circle_111 (b n0 : Nat) (cy : zY) (P : zPo) (A : Nat → zC) : zC :=
  z_istore 5 (z_iinc 4 (1) (z_aload 0 (z_aload 0 (z_get b n0 6 14 (z_iload 6 (z_aload 0 (z_get b n0 6 6 (z_iload 6 (z_ald b n0 (cy 1) (z_callV b n0 0 0 cy 6 3 0 0 sp_X6_whom (z_istore 6 (z_cut [0, 2, 3, 4, 5, 6] (A 91)))))))))))))
def B_X6_circle_91 (b n0 : Nat) (cy : zY) (P : zPo) (A : Nat → zC) : zC :=
  z_iload 6 (z_iload 3 (z_icmp (fun x y => x = y) (z_iload 2 (z_if (fun x => x = 0) (z_iload 4 (B_X6_circle_149 b n0 cy P A)) (z_iload 5 (B_X6_circle_149 b n0 cy P A)))) (z_iload 6 (z_iload 5 (z_icmp (fun x y => y ≤ x) (z_iload 5 (B_X6_circle_111 b n0 cy P A)) (z_iload 6 (B_X6_circle_111 b n0 cy P A)))))))
def B_X6_circle_59 (b n0 : Nat) (cy : zY) (P : zPo) (A : Nat → zC) : zC :=
  z_iload 3 (z_const (-9) (z_icmp (fun x y => x = y) (z_const (-9) (z_iret 0 0 P)) (z_const (1) (z_istore 4 (z_iload 3 (z_istore 5 (z_aload 0 (z_aload 0 (z_get b n0 6 14 (z_iload 3 (z_aload 0 (z_get b n0 6 6 (z_iload 3 (z_ald b n0 (cy 1) (z_callV b n0 0 0 cy 6 3 0 0 sp_X6_whom (z_istore 6 (z_cut [0, 2, 3, 4, 5, 6] (A 91))))))))))))))))))
def B_X6_circle_24 (b n0 : Nat) (cy : zY) (P : zPo) (A : Nat → zC) : zC :=
  z_iload 4 (z_const (6) (z_icmp (fun x y => y ≤ x) (B_X6_circle_59 b n0 cy P A) (z_iload 3 (z_const (-9) (z_icmp (fun x y => x = y) (B_X6_circle_59 b n0 cy P A) (z_aload 0 (z_aload 0 (z_get b n0 6 14 (z_iload 3 (z_aload 0 (z_get b n0 6 6 (z_iload 3 (z_ald b n0 (cy 1) (z_callV b n0 0 0 cy 6 3 0 0 sp_X6_whom (z_istore 3 (z_iinc 4 (1) (z_cut [0, 2, 3, 4] (A 24))))))))))))))))))
def B_X6_circle_17 (b n0 : Nat) (cy : zY) (P : zPo) (A : Nat → zC) : zC :=
  z_const (-1) (z_iret 0 0 P)
def B_X6_circle_0 (b n0 : Nat) (cy : zY) (P : zPo) (A : Nat → zC) : zC :=
  z_aload 0 (z_iload 1 (z_callV b n0 0 0 cy 6 1 0 0 sp_X6_isHere (z_if (fun x => x = 0) (B_X6_circle_17 b n0 cy P A) (z_iload 2 (z_const (0) (z_const (1) (z_callS b n0 0 0 cy 3 0 0 sp_X6_in (z_if (fun x => x = 0) (B_X6_circle_17 b n0 cy P A) (z_iload 1 (z_istore 3 (z_const (0) (z_istore 4 (z_cut [0, 2, 3, 4] (A 24))))))))))))))
def zVC_X6_circle (sp : zSp) : Prop := ∀ (b : Nat) (cy : zY) (n : Nat) (as : List Value) (E : zE) (P : zPo) (A : Nat → zC), (∀ l st k u E, B_X6_circle_24 b n cy P A l st k u E → A 24 l st k u E) → (∀ l st k u E, B_X6_circle_91 b n cy P A l st k u E → A 91 l st k u E) → sp b cy as n E P → zgood as 7 ∧ B_X6_circle_0 b n cy P A (lv_args 0 as) [] 0 0 E

set_option maxRecDepth 100000 in
set_option maxHeartbeats 4000000 in
theorem vc_X6_circle : zVC_X6_circle sp_X6_circle := by
  intro b cy N as E P A hA24 hA91 hsp
  obtain ⟨x, w, K, ⟨T, D, C, I, S, tr⟩, rfl, hmd, hok, hK, hN, hP⟩ := hsp
  refine ⟨⟨Nat.le_of_ble_eq_true rfl, zg1 rfl (zg1 rfl (zg1 rfl (zg0)))⟩, ?_⟩
  have N0 : 159 < N := by omega
  have N6 : 166 < N := by omega
  obtain ⟨lt, q, st, so, va, fa, e0⟩ := hmd.o
  replace e0 : E 159 = zM0 b tr (nI T.1) lt q st so va fa (nI S.1) := e0
  have hR := hmd.mr hok hN
  obtain ⟨f, hW, hCa⟩ := hmd.wr
  have hE := hW.2.2.1
  obtain ⟨h8, h9⟩ : (∃ g : Nat → Int32, E 168 = .inl (cy 1, 52, .inl g)) ∧ (∃ g : Nat → Int32, E 169 = .inl (cy 1, 6, .inl g)) := by obtain ⟨_, _, _, _, _, _, _, _, _, a, c, _⟩ := hmd; exact ⟨a, c⟩
  obtain ⟨hn, hlo, _, _, _, ⟨hmk, hs99, hth, hm10, _⟩, _⟩ := id hok
  replace hn : D.1 ≤ 6 := hn
  obtain ⟨v0, v4, v10, v16⟩ := zCm0 hW.2.2.2
  have N4 : 164 < N := by omega
  obtain ⟨_, _, _, _, _, ⟨wf, w1, w2⟩, _⟩ := id hmd
  replace w1 : E 164 = .inl (cy 1, 12, .inl wf) := w1
  replace hP := hP E hmd (fun _ _ => rfl)
  simp only [op_circle] at hP
  simp -implicitDefEqProofs only [B_X6_circle_0, B_X6_circle_17, e_cut, e_iload, e_aload, e_istore, e_astore, e_iinc, e_const, e_lconst, e_bin, e_bin0, e_un, e_ladd, e_dupi, e_dupr, e_dup2, e_pop, e_sw, e_sw0, e_sw1, e_get, e_put, e_ald, e_ast, e_aald, e_aast, e_copy, e_new, e_newa, e_anewa, e_min, e_abs, e_oinit, e_callI, e_callV, e_callS, e_iret, e_zret, e_lret, e_vret, e_tl1, e_tl0, e_tl2, e_tl3, z10, Bool.false_eq_true, e_argi, e_argr, e_argn, zld_c, zst_n, zst_c, zpick_n, zpick_c, List.drop_succ_cons, List.drop_zero, List.take_succ_cons, List.take_zero, List.length_cons, List.length_nil, List.reverse_cons, List.reverse_nil, List.nil_append, List.cons_append, List.append_nil, List.getElem?_cons_zero, List.getElem?_cons_succ, List.set_cons_zero, List.set_cons_succ, Nat.add_sub_cancel_left, Nat.sub_self, Nat.add_zero, Nat.zero_add, Nat.le_add_right, Nat.le_refl, true_and, and_true, va_rf, zok, Nat.add_left_cancel_iff, Nat.add_eq_left, Nat.left_eq_add, eq_self, if_true, if_false, not_false_eq_true, not_true_eq_false, false_implies, true_implies, Nat.reduceEqDiff, Nat.reduceAdd, Nat.reduceLT, Nat.reduceLeDiff, reduceIte, zM0, e0, N0]
  refine ⟨_, _, _, C.1, x, rfl, hR, hW.ar, hmk.l64, ?_⟩
  by_cases q1 : zisB D.1 x = true ∧ (C.1 1).testBit (zcl x) = true
  · rw [if_pos q1]
    simp -implicitDefEqProofs only [e_cut, e_iload, e_aload, e_istore, e_astore, e_iinc, e_const, e_lconst, e_bin, e_bin0, e_un, e_ladd, e_dupi, e_dupr, e_dup2, e_pop, e_sw, e_sw0, e_sw1, e_get, e_put, e_ald, e_ast, e_aald, e_aast, e_copy, e_new, e_newa, e_anewa, e_min, e_abs, e_oinit, e_callI, e_callV, e_callS, e_iret, e_zret, e_lret, e_vret, e_tl1, e_tl0, e_tl2, e_tl3, z10, Bool.false_eq_true, e_argi, e_argr, e_argn, zld_c, zst_n, zst_c, zpick_n, zpick_c, List.drop_succ_cons, List.drop_zero, List.take_succ_cons, List.take_zero, List.length_cons, List.length_nil, List.reverse_cons, List.reverse_nil, List.nil_append, List.cons_append, List.append_nil, List.getElem?_cons_zero, List.getElem?_cons_succ, List.set_cons_zero, List.set_cons_succ, Nat.add_sub_cancel_left, Nat.sub_self, Nat.add_zero, Nat.zero_add, Nat.le_add_right, Nat.le_refl, true_and, and_true, va_rf, zok, Nat.add_left_cancel_iff, Nat.add_eq_left, Nat.left_eq_add, eq_self, if_true, if_false, not_false_eq_true, not_true_eq_false, false_implies, true_implies, Nat.reduceEqDiff, Nat.reduceAdd, Nat.reduceLT, Nat.reduceLeDiff, reduceIte, e_iff (c1 := fun x => x = 0) (x := 1) (by decide)]
    refine ⟨w, 0, 1, rfl, ?_⟩
    rw [zin01]
    by_cases q2 : zisB 2 w = true
    · rw [if_pos q2]
      rw [if_pos ⟨q1, q2⟩] at hP
      obtain ⟨r, hr, rfl⟩ := zisB_t q1.1 hn
      have q3 := q1.2
      rw [zcl_i (show r < 2 ^ 31 by omega)] at hP q3
      have hab : ∀ t a, zit D.1 D.2.1 D.2.2.1 C.1 r t = some a → (C.1 1).testBit a = true := by
        intro t
        cases t with
        | zero => intro a h; cases h; exact q3
        | succ t =>
          intro a h
          rw [zit] at h
          cases hz : zit D.1 D.2.1 D.2.2.1 C.1 r t with
          | none => rw [hz] at h; cases h
          | some c => rw [hz] at h; exact (zwhom_lt h).2.2
      have hwz : ∀ a, (C.1 1).testBit a = true → zwho D.1 D.2.1 C.1 a (C.1 (4 + a)) (D.2.2.1 a) = zwhom D.1 D.2.1 C.1 a (D.2.2.1 a) := fun a h => by unfold zwhom; rw [if_pos h]
      have ina : ∀ a, a < 12 → vp_in (nI a) 12 := fun a ha => vp_in_nI ha (by omega)
      have cla : ∀ a, a < 12 → (nI a).toNatClampNeg = a := fun a ha => nI_clamp (by omega)
      have m9 : ((-9 : Int32) = -9) := rfl
      -- what is behind the first loop
      have tail : ∀ v4 : Int32, B_X6_circle_59 b N cy P A [(0, .ref (b + 159)), (2, .int w), (3, .int (zrv (zit D.1 D.2.1 D.2.2.1 C.1 r 6))), (4, .int v4)] [] 0 0 E := by
        intro v4
        by_cases h0 : zwhom D.1 D.2.1 C.1 r (D.2.2.1 r) = none
        · have h1 : zit D.1 D.2.1 D.2.2.1 C.1 r 1 = none := by rw [zit_s (t := 0) (a := r) rfl]; exact h0
          have h2 : ∀ t, 1 ≤ t → zit D.1 D.2.1 D.2.2.1 C.1 r t = none := fun t ht => by
            have := zit_none h1 (t - 1); rwa [show 1 + (t - 1) = t by omega] at this
          have h3 : ∀ t, zcm D.1 D.2.1 D.2.2.1 C.1 r t = 0 := by
            intro t
            induction t with
            | zero => rfl
            | succ t ih => rw [zcm, h2 (D.1 + t) (by omega)]; exact ih
          rw [h3, if_pos rfl] at hP
          rw [h2 6 (by omega)]
          simp -implicitDefEqProofs only [B_X6_circle_59, e_cut, e_iload, e_aload, e_istore, e_astore, e_iinc, e_const, e_lconst, e_bin, e_bin0, e_un, e_ladd, e_dupi, e_dupr, e_dup2, e_pop, e_sw, e_sw0, e_sw1, e_get, e_put, e_ald, e_ast, e_aald, e_aast, e_copy, e_new, e_newa, e_anewa, e_min, e_abs, e_oinit, e_callI, e_callV, e_callS, e_iret, e_zret, e_lret, e_vret, e_tl1, e_tl0, e_tl2, e_tl3, z10, Bool.false_eq_true, e_argi, e_argr, e_argn, zld_c, zst_n, zst_c, zpick_n, zpick_c, List.drop_succ_cons, List.drop_zero, List.take_succ_cons, List.take_zero, List.length_cons, List.length_nil, List.reverse_cons, List.reverse_nil, List.nil_append, List.cons_append, List.append_nil, List.getElem?_cons_zero, List.getElem?_cons_succ, List.set_cons_zero, List.set_cons_succ, Nat.add_sub_cancel_left, Nat.sub_self, Nat.add_zero, Nat.zero_add, Nat.le_add_right, Nat.le_refl, true_and, and_true, va_rf, zok, Nat.add_left_cancel_iff, Nat.add_eq_left, Nat.left_eq_add, eq_self, if_true, if_false, not_false_eq_true, not_true_eq_false, false_implies, true_implies, Nat.reduceEqDiff, Nat.reduceAdd, Nat.reduceLT, Nat.reduceLeDiff, reduceIte, zrv, e_icmpt (c2 := fun x y => x = y) m9]
          exact hP
        · have hg := zit_go hr h0
          obtain ⟨xs, hxs⟩ : ∃ xs : Nat → Nat, ∀ t, zit D.1 D.2.1 D.2.2.1 C.1 r t = some (xs t) := ⟨fun t => (hg t).choose, fun t => (hg t).choose_spec.choose_spec.2.1⟩
          have hx : ∀ t, xs t < D.1 := fun t => zit_lt hr (hxs t)
          have hst : ∀ t, zwhom D.1 D.2.1 C.1 (xs t) (D.2.2.1 (xs t)) = some (xs (t + 1)) := fun t => by rw [← hxs (t + 1), zit_s (hxs t)]
          have hdet : ∀ i j, xs i = xs j → xs (i + 1) = xs (j + 1) := fun i j h => by
            have h1 := hst i
            rw [h, hst j] at h1
            exact (Option.some.inj h1).symm
          have hcm : ∀ t, zcm D.1 D.2.1 D.2.2.1 C.1 r t = zmk xs D.1 t := by
            intro t
            induction t with
            | zero => rfl
            | succ t ih => rw [zcm, hxs (D.1 + t), zmk, ih]
          rw [hcm] at hP
          obtain ⟨p, hp1, hp2, hall⟩ := zcirc hn hx hdet
          have hx6 : ∀ t, xs t < 6 := fun t => by have := hx t; omega
          have loop2 : ∀ (d m : Nat), d + m + 1 = p → (∀ t, 1 ≤ t → t < m + 1 → xs (6 + t) ≠ xs 6) → A 91 [(0, .ref (b + 159)), (2, .int w), (3, .int (nI (xs 6))), (4, .int (nI (m + 1))), (5, .int (nI (zmn xs 6 m))), (6, .int (nI (xs (6 + (m + 1)))))] [] 0 0 E := by
            intro d
            induction d with
            | zero =>
              intro m hd hm
              apply hA91
              have he : xs (6 + (m + 1)) = xs 6 := by rw [show m + 1 = p by omega]; exact hp2
              obtain ⟨a1, a2, a3⟩ := hall m hm he
              rw [a1, a2, if_neg a3] at hP
              simp -implicitDefEqProofs only [B_X6_circle_91, B_X6_circle_149, e_cut, e_iload, e_aload, e_istore, e_astore, e_iinc, e_const, e_lconst, e_bin, e_bin0, e_un, e_ladd, e_dupi, e_dupr, e_dup2, e_pop, e_sw, e_sw0, e_sw1, e_get, e_put, e_ald, e_ast, e_aald, e_aast, e_copy, e_new, e_newa, e_anewa, e_min, e_abs, e_oinit, e_callI, e_callV, e_callS, e_iret, e_zret, e_lret, e_vret, e_tl1, e_tl0, e_tl2, e_tl3, z10, Bool.false_eq_true, e_argi, e_argr, e_argn, zld_c, zst_n, zst_c, zpick_n, zpick_c, List.drop_succ_cons, List.drop_zero, List.take_succ_cons, List.take_zero, List.length_cons, List.length_nil, List.reverse_cons, List.reverse_nil, List.nil_append, List.cons_append, List.append_nil, List.getElem?_cons_zero, List.getElem?_cons_succ, List.set_cons_zero, List.set_cons_succ, Nat.add_sub_cancel_left, Nat.sub_self, Nat.add_zero, Nat.zero_add, Nat.le_add_right, Nat.le_refl, true_and, and_true, va_rf, zok, Nat.add_left_cancel_iff, Nat.add_eq_left, Nat.left_eq_add, eq_self, if_true, if_false, not_false_eq_true, not_true_eq_false, false_implies, true_implies, Nat.reduceEqDiff, Nat.reduceAdd, Nat.reduceLT, Nat.reduceLeDiff, reduceIte, e_icmpt (c2 := fun x y => x = y) (congrArg nI he), e_if]
              refine ⟨fun c1 => ?_, fun c1 => ?_⟩
              · rw [if_pos c1] at hP; exact hP
              · rw [if_neg c1] at hP; exact hP
            | succ d ih =>
              intro m hd hm
              apply hA91
              by_cases he : xs (6 + (m + 1)) = xs 6
              · obtain ⟨a1, a2, a3⟩ := hall m hm he
                rw [a1, a2, if_neg a3] at hP
                simp -implicitDefEqProofs only [B_X6_circle_91, B_X6_circle_149, e_cut, e_iload, e_aload, e_istore, e_astore, e_iinc, e_const, e_lconst, e_bin, e_bin0, e_un, e_ladd, e_dupi, e_dupr, e_dup2, e_pop, e_sw, e_sw0, e_sw1, e_get, e_put, e_ald, e_ast, e_aald, e_aast, e_copy, e_new, e_newa, e_anewa, e_min, e_abs, e_oinit, e_callI, e_callV, e_callS, e_iret, e_zret, e_lret, e_vret, e_tl1, e_tl0, e_tl2, e_tl3, z10, Bool.false_eq_true, e_argi, e_argr, e_argn, zld_c, zst_n, zst_c, zpick_n, zpick_c, List.drop_succ_cons, List.drop_zero, List.take_succ_cons, List.take_zero, List.length_cons, List.length_nil, List.reverse_cons, List.reverse_nil, List.nil_append, List.cons_append, List.append_nil, List.getElem?_cons_zero, List.getElem?_cons_succ, List.set_cons_zero, List.set_cons_succ, Nat.add_sub_cancel_left, Nat.sub_self, Nat.add_zero, Nat.zero_add, Nat.le_add_right, Nat.le_refl, true_and, and_true, va_rf, zok, Nat.add_left_cancel_iff, Nat.add_eq_left, Nat.left_eq_add, eq_self, if_true, if_false, not_false_eq_true, not_true_eq_false, false_implies, true_implies, Nat.reduceEqDiff, Nat.reduceAdd, Nat.reduceLT, Nat.reduceLeDiff, reduceIte, e_icmpt (c2 := fun x y => x = y) (congrArg nI he), e_if]
                refine ⟨fun c1 => ?_, fun c1 => ?_⟩
                · rw [if_pos c1] at hP; exact hP
                · rw [if_neg c1] at hP; exact hP
              · have hne : ¬ nI (xs (6 + (m + 1))) = nI (xs 6) := fun h => he ((nI_eq (by have := hx6 (6 + (m + 1)); omega) (by have := hx6 6; omega)).mp h)
                have h9 := ih (m + 1) (by omega) (fun t h1 h2 => by
                  by_cases e : t = m + 1
                  · rw [e]; exact he
                  · exact hm t h1 (by omega))
                have hzl : zmn xs 6 m < 6 := by obtain ⟨⟨t, _, h⟩, _⟩ := zmn_b (x := xs) (o := 6) m; rw [← h]; exact hx6 _
                have hoN := hx (6 + (m + 1))
                have ho6 := hx6 (6 + (m + 1))
                have b111 : ∀ v : Int32, v = nI (zmn xs 6 (m + 1)) → B_X6_circle_111 b N cy P A [(0, .ref (b + 159)), (2, .int w), (3, .int (nI (xs 6))), (4, .int (nI (m + 1))), (5, .int (nI (zmn xs 6 m))), (6, .int (nI (xs (6 + (m + 1)))))] [.int v] 0 0 E := by
                  intro v hv
                  subst hv
                  simp -implicitDefEqProofs only [B_X6_circle_111, e_cut, e_iload, e_aload, e_istore, e_astore, e_iinc, e_const, e_lconst, e_bin, e_bin0, e_un, e_ladd, e_dupi, e_dupr, e_dup2, e_pop, e_sw, e_sw0, e_sw1, e_get, e_put, e_ald, e_ast, e_aald, e_aast, e_copy, e_new, e_newa, e_anewa, e_min, e_abs, e_oinit, e_callI, e_callV, e_callS, e_iret, e_zret, e_lret, e_vret, e_tl1, e_tl0, e_tl2, e_tl3, z10, Bool.false_eq_true, e_argi, e_argr, e_argn, zld_c, zst_n, zst_c, zpick_n, zpick_c, List.drop_succ_cons, List.drop_zero, List.take_succ_cons, List.take_zero, List.length_cons, List.length_nil, List.reverse_cons, List.reverse_nil, List.nil_append, List.cons_append, List.append_nil, List.getElem?_cons_zero, List.getElem?_cons_succ, List.set_cons_zero, List.set_cons_succ, Nat.add_sub_cancel_left, Nat.sub_self, Nat.add_zero, Nat.zero_add, Nat.le_add_right, Nat.le_refl, true_and, and_true, va_rf, zok, Nat.add_left_cancel_iff, Nat.add_eq_left, Nat.left_eq_add, eq_self, if_true, if_false, not_false_eq_true, not_true_eq_false, false_implies, true_implies, Nat.reduceEqDiff, Nat.reduceAdd, Nat.reduceLT, Nat.reduceLeDiff, reduceIte, zM0, e0, N0, N4, w1, ina _ (show xs (6 + (m + 1)) < 12 by omega), cla _ (show xs (6 + (m + 1)) < 12 by omega), w2 _ hoN, nI_1]
                  refine ⟨_, _, _, C.1, 166, _, _, rfl, hR, hW.ar, hmk, N6, hoN, (hlo _ hoN).2, ?_⟩
                  rw [hwz _ (hab _ _ (hxs _)), hst]
                  simp -implicitDefEqProofs only [e_cut, e_iload, e_aload, e_istore, e_astore, e_iinc, e_const, e_lconst, e_bin, e_bin0, e_un, e_ladd, e_dupi, e_dupr, e_dup2, e_pop, e_sw, e_sw0, e_sw1, e_get, e_put, e_ald, e_ast, e_aald, e_aast, e_copy, e_new, e_newa, e_anewa, e_min, e_abs, e_oinit, e_callI, e_callV, e_callS, e_iret, e_zret, e_lret, e_vret, e_tl1, e_tl0, e_tl2, e_tl3, z10, Bool.false_eq_true, e_argi, e_argr, e_argn, zld_c, zst_n, zst_c, zpick_n, zpick_c, List.drop_succ_cons, List.drop_zero, List.take_succ_cons, List.take_zero, List.length_cons, List.length_nil, List.reverse_cons, List.reverse_nil, List.nil_append, List.cons_append, List.append_nil, List.getElem?_cons_zero, List.getElem?_cons_succ, List.set_cons_zero, List.set_cons_succ, Nat.add_sub_cancel_left, Nat.sub_self, Nat.add_zero, Nat.zero_add, Nat.le_add_right, Nat.le_refl, true_and, and_true, va_rf, zok, Nat.add_left_cancel_iff, Nat.add_eq_left, Nat.left_eq_add, eq_self, if_true, if_false, not_false_eq_true, not_true_eq_false, false_implies, true_implies, Nat.reduceEqDiff, Nat.reduceAdd, Nat.reduceLT, Nat.reduceLeDiff, reduceIte, zrv]
                  exact h9
                simp -implicitDefEqProofs only [B_X6_circle_91, e_cut, e_iload, e_aload, e_istore, e_astore, e_iinc, e_const, e_lconst, e_bin, e_bin0, e_un, e_ladd, e_dupi, e_dupr, e_dup2, e_pop, e_sw, e_sw0, e_sw1, e_get, e_put, e_ald, e_ast, e_aald, e_aast, e_copy, e_new, e_newa, e_anewa, e_min, e_abs, e_oinit, e_callI, e_callV, e_callS, e_iret, e_zret, e_lret, e_vret, e_tl1, e_tl0, e_tl2, e_tl3, z10, Bool.false_eq_true, e_argi, e_argr, e_argn, zld_c, zst_n, zst_c, zpick_n, zpick_c, List.drop_succ_cons, List.drop_zero, List.take_succ_cons, List.take_zero, List.length_cons, List.length_nil, List.reverse_cons, List.reverse_nil, List.nil_append, List.cons_append, List.append_nil, List.getElem?_cons_zero, List.getElem?_cons_succ, List.set_cons_zero, List.set_cons_succ, Nat.add_sub_cancel_left, Nat.sub_self, Nat.add_zero, Nat.zero_add, Nat.le_add_right, Nat.le_refl, true_and, and_true, va_rf, zok, Nat.add_left_cancel_iff, Nat.add_eq_left, Nat.left_eq_add, eq_self, if_true, if_false, not_false_eq_true, not_true_eq_false, false_implies, true_implies, Nat.reduceEqDiff, Nat.reduceAdd, Nat.reduceLT, Nat.reduceLeDiff, reduceIte, hne, e_icmp, nI_leI (show zmn xs 6 m < 2 ^ 31 by omega) (show xs (6 + (m + 1)) < 2 ^ 31 by omega)]
                refine ⟨fun c1 => b111 _ ?_, fun c1 => b111 _ ?_⟩
                · rw [zmn, if_neg (by omega)]
                · rw [zmn, if_pos (by omega)]
          have hx0 := hx 6
          have hx06 := hx6 6
          have hne9 : ¬ nI (xs 6) = -9 := zrv_nn hx06
          rw [hxs 6]
          simp -implicitDefEqProofs only [B_X6_circle_59, e_cut, e_iload, e_aload, e_istore, e_astore, e_iinc, e_const, e_lconst, e_bin, e_bin0, e_un, e_ladd, e_dupi, e_dupr, e_dup2, e_pop, e_sw, e_sw0, e_sw1, e_get, e_put, e_ald, e_ast, e_aald, e_aast, e_copy, e_new, e_newa, e_anewa, e_min, e_abs, e_oinit, e_callI, e_callV, e_callS, e_iret, e_zret, e_lret, e_vret, e_tl1, e_tl0, e_tl2, e_tl3, z10, Bool.false_eq_true, e_argi, e_argr, e_argn, zld_c, zst_n, zst_c, zpick_n, zpick_c, List.drop_succ_cons, List.drop_zero, List.take_succ_cons, List.take_zero, List.length_cons, List.length_nil, List.reverse_cons, List.reverse_nil, List.nil_append, List.cons_append, List.append_nil, List.getElem?_cons_zero, List.getElem?_cons_succ, List.set_cons_zero, List.set_cons_succ, Nat.add_sub_cancel_left, Nat.sub_self, Nat.add_zero, Nat.zero_add, Nat.le_add_right, Nat.le_refl, true_and, and_true, va_rf, zok, Nat.add_left_cancel_iff, Nat.add_eq_left, Nat.left_eq_add, eq_self, if_true, if_false, not_false_eq_true, not_true_eq_false, false_implies, true_implies, Nat.reduceEqDiff, Nat.reduceAdd, Nat.reduceLT, Nat.reduceLeDiff, reduceIte, zrv, e_icmpf (c2 := fun x y => x = y) hne9, zM0, e0, N0, N4, w1, ina _ (show xs 6 < 12 by omega), cla _ (show xs 6 < 12 by omega), w2 _ hx0]
          refine ⟨_, _, _, C.1, 166, _, _, rfl, hR, hW.ar, hmk, N6, hx0, (hlo _ hx0).2, ?_⟩
          rw [hwz _ (hab _ _ (hxs _)), hst]
          simp -implicitDefEqProofs only [e_cut, e_iload, e_aload, e_istore, e_astore, e_iinc, e_const, e_lconst, e_bin, e_bin0, e_un, e_ladd, e_dupi, e_dupr, e_dup2, e_pop, e_sw, e_sw0, e_sw1, e_get, e_put, e_ald, e_ast, e_aald, e_aast, e_copy, e_new, e_newa, e_anewa, e_min, e_abs, e_oinit, e_callI, e_callV, e_callS, e_iret, e_zret, e_lret, e_vret, e_tl1, e_tl0, e_tl2, e_tl3, z10, Bool.false_eq_true, e_argi, e_argr, e_argn, zld_c, zst_n, zst_c, zpick_n, zpick_c, List.drop_succ_cons, List.drop_zero, List.take_succ_cons, List.take_zero, List.length_cons, List.length_nil, List.reverse_cons, List.reverse_nil, List.nil_append, List.cons_append, List.append_nil, List.getElem?_cons_zero, List.getElem?_cons_succ, List.set_cons_zero, List.set_cons_succ, Nat.add_sub_cancel_left, Nat.sub_self, Nat.add_zero, Nat.zero_add, Nat.le_add_right, Nat.le_refl, true_and, and_true, va_rf, zok, Nat.add_left_cancel_iff, Nat.add_eq_left, Nat.left_eq_add, eq_self, if_true, if_false, not_false_eq_true, not_true_eq_false, false_implies, true_implies, Nat.reduceEqDiff, Nat.reduceAdd, Nat.reduceLT, Nat.reduceLeDiff, reduceIte, zrv]
          exact loop2 (p - 1) 0 (by omega) (fun t h1 h2 => by omega)
      have loop1 : ∀ (d k : Nat), d + k = 6 → A 24 [(0, .ref (b + 159)), (2, .int w), (3, .int (zrv (zit D.1 D.2.1 D.2.2.1 C.1 r k))), (4, .int (nI k))] [] 0 0 E := by
        intro d
        induction d with
        | zero =>
          intro k hd
          obtain rfl : k = 6 := by omega
          apply hA24
          have cle : (6 : Int32) ≤ nI 6 := by decide
          simp -implicitDefEqProofs only [B_X6_circle_24, e_cut, e_iload, e_aload, e_istore, e_astore, e_iinc, e_const, e_lconst, e_bin, e_bin0, e_un, e_ladd, e_dupi, e_dupr, e_dup2, e_pop, e_sw, e_sw0, e_sw1, e_get, e_put, e_ald, e_ast, e_aald, e_aast, e_copy, e_new, e_newa, e_anewa, e_min, e_abs, e_oinit, e_callI, e_callV, e_callS, e_iret, e_zret, e_lret, e_vret, e_tl1, e_tl0, e_tl2, e_tl3, z10, Bool.false_eq_true, e_argi, e_argr, e_argn, zld_c, zst_n, zst_c, zpick_n, zpick_c, List.drop_succ_cons, List.drop_zero, List.take_succ_cons, List.take_zero, List.length_cons, List.length_nil, List.reverse_cons, List.reverse_nil, List.nil_append, List.cons_append, List.append_nil, List.getElem?_cons_zero, List.getElem?_cons_succ, List.set_cons_zero, List.set_cons_succ, Nat.add_sub_cancel_left, Nat.sub_self, Nat.add_zero, Nat.zero_add, Nat.le_add_right, Nat.le_refl, true_and, and_true, va_rf, zok, Nat.add_left_cancel_iff, Nat.add_eq_left, Nat.left_eq_add, eq_self, if_true, if_false, not_false_eq_true, not_true_eq_false, false_implies, true_implies, Nat.reduceEqDiff, Nat.reduceAdd, Nat.reduceLT, Nat.reduceLeDiff, reduceIte, e_icmpt (c2 := fun x y => y ≤ x) cle]
          exact tail _
        | succ d ih =>
          intro k hd
          apply hA24
          have cle : ¬ (6 : Int32) ≤ nI k := nI_ge (b := 6) (show k < 6 by omega) (by decide)
          cases hz : zit D.1 D.2.1 D.2.2.1 C.1 r k with
          | none =>
            have h6 : zit D.1 D.2.1 D.2.2.1 C.1 r 6 = none := by have := zit_none hz (6 - k); rwa [show k + (6 - k) = 6 by omega] at this
            have ht := tail (nI k)
            rw [h6] at ht
            simp -implicitDefEqProofs only [B_X6_circle_24, e_cut, e_iload, e_aload, e_istore, e_astore, e_iinc, e_const, e_lconst, e_bin, e_bin0, e_un, e_ladd, e_dupi, e_dupr, e_dup2, e_pop, e_sw, e_sw0, e_sw1, e_get, e_put, e_ald, e_ast, e_aald, e_aast, e_copy, e_new, e_newa, e_anewa, e_min, e_abs, e_oinit, e_callI, e_callV, e_callS, e_iret, e_zret, e_lret, e_vret, e_tl1, e_tl0, e_tl2, e_tl3, z10, Bool.false_eq_true, e_argi, e_argr, e_argn, zld_c, zst_n, zst_c, zpick_n, zpick_c, List.drop_succ_cons, List.drop_zero, List.take_succ_cons, List.take_zero, List.length_cons, List.length_nil, List.reverse_cons, List.reverse_nil, List.nil_append, List.cons_append, List.append_nil, List.getElem?_cons_zero, List.getElem?_cons_succ, List.set_cons_zero, List.set_cons_succ, Nat.add_sub_cancel_left, Nat.sub_self, Nat.add_zero, Nat.zero_add, Nat.le_add_right, Nat.le_refl, true_and, and_true, va_rf, zok, Nat.add_left_cancel_iff, Nat.add_eq_left, Nat.left_eq_add, eq_self, if_true, if_false, not_false_eq_true, not_true_eq_false, false_implies, true_implies, Nat.reduceEqDiff, Nat.reduceAdd, Nat.reduceLT, Nat.reduceLeDiff, reduceIte, zrv, e_icmpf (c2 := fun x y => y ≤ x) cle, e_icmpt (c2 := fun x y => x = y) m9]
            exact ht
          | some a =>
            have ha := zit_lt hr hz
            have h9 := ih (k + 1) (by omega)
            rw [zit_s hz] at h9
            simp -implicitDefEqProofs only [B_X6_circle_24, e_cut, e_iload, e_aload, e_istore, e_astore, e_iinc, e_const, e_lconst, e_bin, e_bin0, e_un, e_ladd, e_dupi, e_dupr, e_dup2, e_pop, e_sw, e_sw0, e_sw1, e_get, e_put, e_ald, e_ast, e_aald, e_aast, e_copy, e_new, e_newa, e_anewa, e_min, e_abs, e_oinit, e_callI, e_callV, e_callS, e_iret, e_zret, e_lret, e_vret, e_tl1, e_tl0, e_tl2, e_tl3, z10, Bool.false_eq_true, e_argi, e_argr, e_argn, zld_c, zst_n, zst_c, zpick_n, zpick_c, List.drop_succ_cons, List.drop_zero, List.take_succ_cons, List.take_zero, List.length_cons, List.length_nil, List.reverse_cons, List.reverse_nil, List.nil_append, List.cons_append, List.append_nil, List.getElem?_cons_zero, List.getElem?_cons_succ, List.set_cons_zero, List.set_cons_succ, Nat.add_sub_cancel_left, Nat.sub_self, Nat.add_zero, Nat.zero_add, Nat.le_add_right, Nat.le_refl, true_and, and_true, va_rf, zok, Nat.add_left_cancel_iff, Nat.add_eq_left, Nat.left_eq_add, eq_self, if_true, if_false, not_false_eq_true, not_true_eq_false, false_implies, true_implies, Nat.reduceEqDiff, Nat.reduceAdd, Nat.reduceLT, Nat.reduceLeDiff, reduceIte, zrv, e_icmpf (c2 := fun x y => y ≤ x) cle, e_icmpf (c2 := fun x y => x = y) (zrv_nn (show a < 6 by omega)), zM0, e0, N0, N4, w1, ina _ (show a < 12 by omega), cla _ (show a < 12 by omega), w2 _ ha]
            refine ⟨_, _, _, C.1, 166, _, _, rfl, hR, hW.ar, hmk, N6, ha, (hlo _ ha).2, ?_⟩
            rw [hwz _ (hab _ _ hz)]
            simp -implicitDefEqProofs only [e_cut, e_iload, e_aload, e_istore, e_astore, e_iinc, e_const, e_lconst, e_bin, e_bin0, e_un, e_ladd, e_dupi, e_dupr, e_dup2, e_pop, e_sw, e_sw0, e_sw1, e_get, e_put, e_ald, e_ast, e_aald, e_aast, e_copy, e_new, e_newa, e_anewa, e_min, e_abs, e_oinit, e_callI, e_callV, e_callS, e_iret, e_zret, e_lret, e_vret, e_tl1, e_tl0, e_tl2, e_tl3, z10, Bool.false_eq_true, e_argi, e_argr, e_argn, zld_c, zst_n, zst_c, zpick_n, zpick_c, List.drop_succ_cons, List.drop_zero, List.take_succ_cons, List.take_zero, List.length_cons, List.length_nil, List.reverse_cons, List.reverse_nil, List.nil_append, List.cons_append, List.append_nil, List.getElem?_cons_zero, List.getElem?_cons_succ, List.set_cons_zero, List.set_cons_succ, Nat.add_sub_cancel_left, Nat.sub_self, Nat.add_zero, Nat.zero_add, Nat.le_add_right, Nat.le_refl, true_and, and_true, va_rf, zok, Nat.add_left_cancel_iff, Nat.add_eq_left, Nat.left_eq_add, eq_self, if_true, if_false, not_false_eq_true, not_true_eq_false, false_implies, true_implies, Nat.reduceEqDiff, Nat.reduceAdd, Nat.reduceLT, Nat.reduceLeDiff, reduceIte, nI_1]
            exact h9
      simp -implicitDefEqProofs only [e_cut, e_iload, e_aload, e_istore, e_astore, e_iinc, e_const, e_lconst, e_bin, e_bin0, e_un, e_ladd, e_dupi, e_dupr, e_dup2, e_pop, e_sw, e_sw0, e_sw1, e_get, e_put, e_ald, e_ast, e_aald, e_aast, e_copy, e_new, e_newa, e_anewa, e_min, e_abs, e_oinit, e_callI, e_callV, e_callS, e_iret, e_zret, e_lret, e_vret, e_tl1, e_tl0, e_tl2, e_tl3, z10, Bool.false_eq_true, e_argi, e_argr, e_argn, zld_c, zst_n, zst_c, zpick_n, zpick_c, List.drop_succ_cons, List.drop_zero, List.take_succ_cons, List.take_zero, List.length_cons, List.length_nil, List.reverse_cons, List.reverse_nil, List.nil_append, List.cons_append, List.append_nil, List.getElem?_cons_zero, List.getElem?_cons_succ, List.set_cons_zero, List.set_cons_succ, Nat.add_sub_cancel_left, Nat.sub_self, Nat.add_zero, Nat.zero_add, Nat.le_add_right, Nat.le_refl, true_and, and_true, va_rf, zok, Nat.add_left_cancel_iff, Nat.add_eq_left, Nat.left_eq_add, eq_self, if_true, if_false, not_false_eq_true, not_true_eq_false, false_implies, true_implies, Nat.reduceEqDiff, Nat.reduceAdd, Nat.reduceLT, Nat.reduceLeDiff, reduceIte, e_iff (c1 := fun x => x = 0) (x := 1) (by decide)]
      exact loop1 6 0 rfl
    · rw [if_neg q2]
      rw [if_neg (fun h => q2 h.2)] at hP
      simp -implicitDefEqProofs only [e_cut, e_iload, e_aload, e_istore, e_astore, e_iinc, e_const, e_lconst, e_bin, e_bin0, e_un, e_ladd, e_dupi, e_dupr, e_dup2, e_pop, e_sw, e_sw0, e_sw1, e_get, e_put, e_ald, e_ast, e_aald, e_aast, e_copy, e_new, e_newa, e_anewa, e_min, e_abs, e_oinit, e_callI, e_callV, e_callS, e_iret, e_zret, e_lret, e_vret, e_tl1, e_tl0, e_tl2, e_tl3, z10, Bool.false_eq_true, e_argi, e_argr, e_argn, zld_c, zst_n, zst_c, zpick_n, zpick_c, List.drop_succ_cons, List.drop_zero, List.take_succ_cons, List.take_zero, List.length_cons, List.length_nil, List.reverse_cons, List.reverse_nil, List.nil_append, List.cons_append, List.append_nil, List.getElem?_cons_zero, List.getElem?_cons_succ, List.set_cons_zero, List.set_cons_succ, Nat.add_sub_cancel_left, Nat.sub_self, Nat.add_zero, Nat.zero_add, Nat.le_add_right, Nat.le_refl, true_and, and_true, va_rf, zok, Nat.add_left_cancel_iff, Nat.add_eq_left, Nat.left_eq_add, eq_self, if_true, if_false, not_false_eq_true, not_true_eq_false, false_implies, true_implies, Nat.reduceEqDiff, Nat.reduceAdd, Nat.reduceLT, Nat.reduceLeDiff, reduceIte, e_ift (c1 := fun x => x = 0) (x := 0) rfl]
      exact hP
  · rw [if_neg q1]
    rw [if_neg (fun h => q1 h.1)] at hP
    simp -implicitDefEqProofs only [e_cut, e_iload, e_aload, e_istore, e_astore, e_iinc, e_const, e_lconst, e_bin, e_bin0, e_un, e_ladd, e_dupi, e_dupr, e_dup2, e_pop, e_sw, e_sw0, e_sw1, e_get, e_put, e_ald, e_ast, e_aald, e_aast, e_copy, e_new, e_newa, e_anewa, e_min, e_abs, e_oinit, e_callI, e_callV, e_callS, e_iret, e_zret, e_lret, e_vret, e_tl1, e_tl0, e_tl2, e_tl3, z10, Bool.false_eq_true, e_argi, e_argr, e_argn, zld_c, zst_n, zst_c, zpick_n, zpick_c, List.drop_succ_cons, List.drop_zero, List.take_succ_cons, List.take_zero, List.length_cons, List.length_nil, List.reverse_cons, List.reverse_nil, List.nil_append, List.cons_append, List.append_nil, List.getElem?_cons_zero, List.getElem?_cons_succ, List.set_cons_zero, List.set_cons_succ, Nat.add_sub_cancel_left, Nat.sub_self, Nat.add_zero, Nat.zero_add, Nat.le_add_right, Nat.le_refl, true_and, and_true, va_rf, zok, Nat.add_left_cancel_iff, Nat.add_eq_left, Nat.left_eq_add, eq_self, if_true, if_false, not_false_eq_true, not_true_eq_false, false_implies, true_implies, Nat.reduceEqDiff, Nat.reduceAdd, Nat.reduceLT, Nat.reduceLeDiff, reduceIte, e_ift (c1 := fun x => x = 0) (x := 0) rfl]
    exact hP
set_option maxRecDepth 20000 in
theorem f_X6_circle_29 : Cond.fieldLink RX6 29 (TX6 14).1 (TX6 14).2.1 (TX6 14).2.2.1 ∈ wsX6_circle := by decide +kernel
set_option maxRecDepth 20000 in
theorem k_X6_circle_6 : ∀ w ∈ u_ws RX6 TX6 21, w ∈ wsX6_circle := fun _ h => List.mem_cons_of_mem _ (List.mem_append_right _ h)
set_option maxRecDepth 20000 in
theorem f_X6_circle_23 : Cond.fieldLink RX6 23 (TX6 6).1 (TX6 6).2.1 (TX6 6).2.2.1 ∈ wsX6_circle := by decide +kernel
set_option maxRecDepth 100000 in
set_option maxHeartbeats 4000000 in
theorem S_X6_circle_149 {p : Program} {e : Env} {s : State} {m : MethodId} {args : Array Value} {below : List Frame} {meth : Method} {c : Code} {D : va_G} {cy : zY} {b n0 : Nat} {P : zPo} (la : Launch) (X : zX p la e (rm_X6_circle) s m args below meth c 7 D cy b n0 cX6_circle wsX6_circle RX6) (hr : meth.sig.returnType = (some .int)) (h_X6_in : zMet la yX6_in wsX6_in rm_X6_in 0 0 sp_X6_in) (h_X6_isHere : zMet la yX6_isHere wsX6_isHere rm_X6_isHere 0 0 sp_X6_isHere) (h_X6_whom : zMet la yX6_whom wsX6_whom rm_X6_whom 0 0 sp_X6_whom) : zS p la e (rm_X6_circle) s m args below meth c (MQ below (zQ D b (n0 + 0) P) args s 0 0 (fun q => b ≤ q)) 7 D b n0 149 (B_X6_circle_149 b n0 cy P (zAt p la e (rm_X6_circle) s m args below meth c (MQ below (zQ D b (n0 + 0) P) args s 0 0 (fun q => b ≤ q)) 7 D b n0)) := by
  unfold B_X6_circle_149
  exact (s_iret X dX6_circle_149 hr)
set_option maxRecDepth 100000 in
set_option maxHeartbeats 4000000 in
theorem S_X6_circle_111 {p : Program} {e : Env} {s : State} {m : MethodId} {args : Array Value} {below : List Frame} {meth : Method} {c : Code} {D : va_G} {cy : zY} {b n0 : Nat} {P : zPo} (la : Launch) (X : zX p la e (rm_X6_circle) s m args below meth c 7 D cy b n0 cX6_circle wsX6_circle RX6) (hr : meth.sig.returnType = (some .int)) (h_X6_in : zMet la yX6_in wsX6_in rm_X6_in 0 0 sp_X6_in) (h_X6_isHere : zMet la yX6_isHere wsX6_isHere rm_X6_isHere 0 0 sp_X6_isHere) (h_X6_whom : zMet la yX6_whom wsX6_whom rm_X6_whom 0 0 sp_X6_whom) : zS p la e (rm_X6_circle) s m args below meth c (MQ below (zQ D b (n0 + 0) P) args s 0 0 (fun q => b ≤ q)) 7 D b n0 111 (B_X6_circle_111 b n0 cy P (zAt p la e (rm_X6_circle) s m args below meth c (MQ below (zQ D b (n0 + 0) P) args s 0 0 (fun q => b ≤ q)) 7 D b n0)) := by
  unfold B_X6_circle_111
  exact (s_istore X dX6_circle_111 (by decide) (s_iinc X dX6_circle_113 (by decide) (by decide) (s_aload_n X dX6_circle_116 rfl (s_aload_n X dX6_circle_117 rfl (s_get X dX6_circle_118 rfl k_X6_circle_6 (by decide) f_X6_circle_29 (s_iload X dX6_circle_121 (s_aload_n X dX6_circle_123 rfl (s_get X dX6_circle_124 rfl k_X6_circle_6 (by decide) f_X6_circle_23 (s_iload X dX6_circle_127 (s_iald X dX6_circle_129 (s_callV X h_X6_whom dX6_circle_130 rfl gX6_circle_X6_whom rfl rfl rfl (by decide +kernel) ⟨by decide, by decide⟩ (s_istore X dX6_circle_133 (by decide) (s_goto X dX6_circle_135 (by decide) (s_cut (by decide) zS_at))))))))))))))
set_option maxRecDepth 100000 in
set_option maxHeartbeats 4000000 in
theorem S_X6_circle_91 {p : Program} {e : Env} {s : State} {m : MethodId} {args : Array Value} {below : List Frame} {meth : Method} {c : Code} {D : va_G} {cy : zY} {b n0 : Nat} {P : zPo} (la : Launch) (X : zX p la e (rm_X6_circle) s m args below meth c 7 D cy b n0 cX6_circle wsX6_circle RX6) (hr : meth.sig.returnType = (some .int)) (h_X6_in : zMet la yX6_in wsX6_in rm_X6_in 0 0 sp_X6_in) (h_X6_isHere : zMet la yX6_isHere wsX6_isHere rm_X6_isHere 0 0 sp_X6_isHere) (h_X6_whom : zMet la yX6_whom wsX6_whom rm_X6_whom 0 0 sp_X6_whom) : zS p la e (rm_X6_circle) s m args below meth c (MQ below (zQ D b (n0 + 0) P) args s 0 0 (fun q => b ≤ q)) 7 D b n0 91 (B_X6_circle_91 b n0 cy P (zAt p la e (rm_X6_circle) s m args below meth c (MQ below (zQ D b (n0 + 0) P) args s 0 0 (fun q => b ≤ q)) 7 D b n0)) := by
  unfold B_X6_circle_91
  exact (s_iload X dX6_circle_91 (s_iload_n X dX6_circle_93 rfl (s_icmp_eq X dX6_circle_94 (by decide) (s_iload_n X dX6_circle_138 rfl (s_if_ne X dX6_circle_139 (by decide) (s_iload X dX6_circle_147 (S_X6_circle_149 la X hr h_X6_in h_X6_isHere h_X6_whom)) (s_iload X dX6_circle_142 (s_goto X dX6_circle_144 (by decide) (S_X6_circle_149 la X hr h_X6_in h_X6_isHere h_X6_whom))))) (s_iload X dX6_circle_97 (s_iload X dX6_circle_99 (s_icmp_ge X dX6_circle_101 (by decide) (s_iload X dX6_circle_109 (S_X6_circle_111 la X hr h_X6_in h_X6_isHere h_X6_whom)) (s_iload X dX6_circle_104 (s_goto X dX6_circle_106 (by decide) (S_X6_circle_111 la X hr h_X6_in h_X6_isHere h_X6_whom)))))))))
set_option maxRecDepth 100000 in
set_option maxHeartbeats 4000000 in
theorem S_X6_circle_59 {p : Program} {e : Env} {s : State} {m : MethodId} {args : Array Value} {below : List Frame} {meth : Method} {c : Code} {D : va_G} {cy : zY} {b n0 : Nat} {P : zPo} (la : Launch) (X : zX p la e (rm_X6_circle) s m args below meth c 7 D cy b n0 cX6_circle wsX6_circle RX6) (hr : meth.sig.returnType = (some .int)) (h_X6_in : zMet la yX6_in wsX6_in rm_X6_in 0 0 sp_X6_in) (h_X6_isHere : zMet la yX6_isHere wsX6_isHere rm_X6_isHere 0 0 sp_X6_isHere) (h_X6_whom : zMet la yX6_whom wsX6_whom rm_X6_whom 0 0 sp_X6_whom) : zS p la e (rm_X6_circle) s m args below meth c (MQ below (zQ D b (n0 + 0) P) args s 0 0 (fun q => b ≤ q)) 7 D b n0 59 (B_X6_circle_59 b n0 cy P (zAt p la e (rm_X6_circle) s m args below meth c (MQ below (zQ D b (n0 + 0) P) args s 0 0 (fun q => b ≤ q)) 7 D b n0)) := by
  unfold B_X6_circle_59
  exact (s_iload_n X dX6_circle_59 rfl (s_bipush X dX6_circle_60 (by decide) (s_icmp_ne X dX6_circle_62 (by decide) (s_iconst X dX6_circle_68 (by decide) (s_istore X dX6_circle_69 (by decide) (s_iload_n X dX6_circle_71 rfl (s_istore X dX6_circle_72 (by decide) (s_aload_n X dX6_circle_74 rfl (s_aload_n X dX6_circle_75 rfl (s_get X dX6_circle_76 rfl k_X6_circle_6 (by decide) f_X6_circle_29 (s_iload_n X dX6_circle_79 rfl (s_aload_n X dX6_circle_80 rfl (s_get X dX6_circle_81 rfl k_X6_circle_6 (by decide) f_X6_circle_23 (s_iload_n X dX6_circle_84 rfl (s_iald X dX6_circle_85 (s_callV X h_X6_whom dX6_circle_86 rfl gX6_circle_X6_whom rfl rfl rfl (by decide +kernel) ⟨by decide, by decide⟩ (s_istore X dX6_circle_89 (by decide) (s_cut (by decide) zS_at))))))))))))))) (s_bipush X dX6_circle_65 (by decide) (s_iret X dX6_circle_67 hr)))))
set_option maxRecDepth 100000 in
set_option maxHeartbeats 4000000 in
theorem S_X6_circle_24 {p : Program} {e : Env} {s : State} {m : MethodId} {args : Array Value} {below : List Frame} {meth : Method} {c : Code} {D : va_G} {cy : zY} {b n0 : Nat} {P : zPo} (la : Launch) (X : zX p la e (rm_X6_circle) s m args below meth c 7 D cy b n0 cX6_circle wsX6_circle RX6) (hr : meth.sig.returnType = (some .int)) (h_X6_in : zMet la yX6_in wsX6_in rm_X6_in 0 0 sp_X6_in) (h_X6_isHere : zMet la yX6_isHere wsX6_isHere rm_X6_isHere 0 0 sp_X6_isHere) (h_X6_whom : zMet la yX6_whom wsX6_whom rm_X6_whom 0 0 sp_X6_whom) : zS p la e (rm_X6_circle) s m args below meth c (MQ below (zQ D b (n0 + 0) P) args s 0 0 (fun q => b ≤ q)) 7 D b n0 24 (B_X6_circle_24 b n0 cy P (zAt p la e (rm_X6_circle) s m args below meth c (MQ below (zQ D b (n0 + 0) P) args s 0 0 (fun q => b ≤ q)) 7 D b n0)) := by
  unfold B_X6_circle_24
  exact (s_iload X dX6_circle_24 (s_bipush X dX6_circle_26 (by decide) (s_icmp_ge X dX6_circle_28 (by decide) (S_X6_circle_59 la X hr h_X6_in h_X6_isHere h_X6_whom) (s_iload_n X dX6_circle_31 rfl (s_bipush X dX6_circle_32 (by decide) (s_icmp_eq X dX6_circle_34 (by decide) (S_X6_circle_59 la X hr h_X6_in h_X6_isHere h_X6_whom) (s_aload_n X dX6_circle_37 rfl (s_aload_n X dX6_circle_38 rfl (s_get X dX6_circle_39 rfl k_X6_circle_6 (by decide) f_X6_circle_29 (s_iload_n X dX6_circle_42 rfl (s_aload_n X dX6_circle_43 rfl (s_get X dX6_circle_44 rfl k_X6_circle_6 (by decide) f_X6_circle_23 (s_iload_n X dX6_circle_47 rfl (s_iald X dX6_circle_48 (s_callV X h_X6_whom dX6_circle_49 rfl gX6_circle_X6_whom rfl rfl rfl (by decide +kernel) ⟨by decide, by decide⟩ (s_istore_n X dX6_circle_52 rfl (by decide) (s_iinc X dX6_circle_53 (by decide) (by decide) (s_goto X dX6_circle_56 (by decide) (s_cut (by decide) zS_at)))))))))))))))))))
set_option maxRecDepth 100000 in
set_option maxHeartbeats 4000000 in
theorem S_X6_circle_17 {p : Program} {e : Env} {s : State} {m : MethodId} {args : Array Value} {below : List Frame} {meth : Method} {c : Code} {D : va_G} {cy : zY} {b n0 : Nat} {P : zPo} (la : Launch) (X : zX p la e (rm_X6_circle) s m args below meth c 7 D cy b n0 cX6_circle wsX6_circle RX6) (hr : meth.sig.returnType = (some .int)) (h_X6_in : zMet la yX6_in wsX6_in rm_X6_in 0 0 sp_X6_in) (h_X6_isHere : zMet la yX6_isHere wsX6_isHere rm_X6_isHere 0 0 sp_X6_isHere) (h_X6_whom : zMet la yX6_whom wsX6_whom rm_X6_whom 0 0 sp_X6_whom) : zS p la e (rm_X6_circle) s m args below meth c (MQ below (zQ D b (n0 + 0) P) args s 0 0 (fun q => b ≤ q)) 7 D b n0 17 (B_X6_circle_17 b n0 cy P (zAt p la e (rm_X6_circle) s m args below meth c (MQ below (zQ D b (n0 + 0) P) args s 0 0 (fun q => b ≤ q)) 7 D b n0)) := by
  unfold B_X6_circle_17
  exact (s_iconst X dX6_circle_17 (by decide) (s_iret X dX6_circle_18 hr))
set_option maxRecDepth 100000 in
set_option maxHeartbeats 4000000 in
theorem S_X6_circle_0 {p : Program} {e : Env} {s : State} {m : MethodId} {args : Array Value} {below : List Frame} {meth : Method} {c : Code} {D : va_G} {cy : zY} {b n0 : Nat} {P : zPo} (la : Launch) (X : zX p la e (rm_X6_circle) s m args below meth c 7 D cy b n0 cX6_circle wsX6_circle RX6) (hr : meth.sig.returnType = (some .int)) (h_X6_in : zMet la yX6_in wsX6_in rm_X6_in 0 0 sp_X6_in) (h_X6_isHere : zMet la yX6_isHere wsX6_isHere rm_X6_isHere 0 0 sp_X6_isHere) (h_X6_whom : zMet la yX6_whom wsX6_whom rm_X6_whom 0 0 sp_X6_whom) : zS p la e (rm_X6_circle) s m args below meth c (MQ below (zQ D b (n0 + 0) P) args s 0 0 (fun q => b ≤ q)) 7 D b n0 0 (B_X6_circle_0 b n0 cy P (zAt p la e (rm_X6_circle) s m args below meth c (MQ below (zQ D b (n0 + 0) P) args s 0 0 (fun q => b ≤ q)) 7 D b n0)) := by
  unfold B_X6_circle_0
  exact (s_aload_n X dX6_circle_0 rfl (s_iload_n X dX6_circle_1 rfl (s_callV X h_X6_isHere dX6_circle_2 rfl gX6_circle_X6_isHere rfl rfl rfl (by decide +kernel) ⟨by decide, by decide⟩ (s_if_eq X dX6_circle_5 (by decide) (S_X6_circle_17 la X hr h_X6_in h_X6_isHere h_X6_whom) (s_iload_n X dX6_circle_8 rfl (s_iconst X dX6_circle_9 (by decide) (s_iconst X dX6_circle_10 (by decide) (s_callS X h_X6_in dX6_circle_11 gX6_circle_X6_in rfl rfl rfl (by decide +kernel) ⟨by decide, by decide⟩ (s_if_ne X dX6_circle_14 (by decide) (s_iload_n X dX6_circle_19 rfl (s_istore_n X dX6_circle_20 rfl (by decide) (s_iconst X dX6_circle_21 (by decide) (s_istore X dX6_circle_22 (by decide) (s_cut (by decide) zS_at))))) (S_X6_circle_17 la X hr h_X6_in h_X6_isHere h_X6_whom))))))))))
theorem w_X6_circle (la : Launch) (h_X6_in : zMet la yX6_in wsX6_in rm_X6_in 0 0 sp_X6_in) (h_X6_isHere : zMet la yX6_isHere wsX6_isHere rm_X6_isHere 0 0 sp_X6_isHere) (h_X6_whom : zMet la yX6_whom wsX6_whom rm_X6_whom 0 0 sp_X6_whom) (sp : zSp) (vc : zVC_X6_circle sp) : zMet la yX6_circle wsX6_circle (rm_X6_circle) 0 0 sp :=
  z_of (cc := cX6_circle) (maxL := 7) (ret := (some .int)) (by decide +kernel) rfl (fun p e s m args below meth c D cy b n as E P hsp X hr hin => by
    obtain ⟨h1, h2⟩ := vc b cy n as E P (zAt p la e (rm_X6_circle) s m args below meth c (MQ below (zQ D b (n + 0) P) args s 0 0 (fun q => b ≤ q)) 7 D b n) (fun _ _ _ _ _ q => S_X6_circle_24 la X hr h_X6_in h_X6_isHere h_X6_whom _ _ _ _ _ q) (fun _ _ _ _ _ q => S_X6_circle_91 la X hr h_X6_in h_X6_isHere h_X6_whom _ _ _ _ _ q) hsp
    exact ⟨h1, S_X6_circle_0 la X hr h_X6_in h_X6_isHere h_X6_whom _ _ _ _ _ h2⟩)

theorem m_X6_circle (la : Launch) : zMet la yX6_circle wsX6_circle rm_X6_circle 0 0 sp_X6_circle := w_X6_circle la (m_X6_in la) (m_X6_isHere la) (m_X6_whom la) _ vc_X6_circle

