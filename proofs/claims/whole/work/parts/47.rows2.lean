/-! rows told by figures to the base of 6 -/
def zdg (n : Nat) (c : Nat → Nat) (S : Nat) (dg : Nat → Nat) : Nat → Nat → Nat → Nat → Bool
  | 0, _, _, _ => true
  | f + 1, t, M, G => match zdir n c S M G (dg t) with
    | none => false
    | some q => zdg n c S dg f (t + 1) (zclr M q) (zset G (dg t))
def zdc (n : Nat) (c : Nat → Nat) (S : Nat) : Nat → Nat → Nat → Nat → Bool
  | 0, _, _, _ => true
  | f + 1, M, G, x => match zdir n c S M G (x / 6 ^ f) with
    | none => false
    | some q => zdc n c S f (zclr M q) (zset G (x / 6 ^ f)) (x % 6 ^ f)
theorem zdg_zdc {n : Nat} {c : Nat → Nat} {S m x : Nat} : ∀ (f t M G : Nat), t + f = m → zdg n c S (fun j => x / 6 ^ (m - 1 - j) % 6) f t M G = zdc n c S f M G (x % 6 ^ f) := by
  intro f
  induction f with
  | zero => intro t M G _; rfl
  | succ f ih =>
    intro t M G h
    have e1 : x % 6 ^ (f + 1) / 6 ^ f = x / 6 ^ f % 6 := by rw [Nat.pow_succ, Nat.mod_mul_right_div_self]
    have e2 : x % 6 ^ (f + 1) % 6 ^ f = x % 6 ^ f := Nat.mod_mod_of_dvd _ (Nat.pow_dvd_pow 6 (by omega))
    have e3 : m - 1 - t = f := by omega
    rw [zdg, zdc, e1, e2]
    simp only [e3]
    cases zdir n c S M G (x / 6 ^ f % 6) with
    | none => rfl
    | some q => simp only; exact ih _ _ _ (by omega)
theorem zsum_add {g : Nat → Nat} {a : Nat} : ∀ b : Nat, zsum g (a + b) = zsum g a + zsum (fun k => g (a + k)) b := by
  intro b
  induction b with
  | zero => rfl
  | succ b ih => rw [← Nat.add_assoc, zsum, ih, zsum, Nat.add_assoc]
theorem zsum_congr {g h : Nat → Nat} : ∀ {a : Nat}, (∀ k, k < a → g k = h k) → zsum g a = zsum h a := by
  intro a
  induction a with
  | zero => intro _; rfl
  | succ a ih => intro e; rw [zsum, zsum, ih (fun k hk => e k (by omega)), e a (by omega)]
theorem zsum_mul {g : Nat → Nat} {b : Nat} : ∀ a : Nat, zsum g (a * b) = zsum (fun r => zsum (fun k => g (r * b + k)) b) a := by
  intro a
  induction a with
  | zero => rw [Nat.zero_mul]; rfl
  | succ a ih => rw [Nat.succ_mul, zsum_add, ih, zsum]
theorem zsum_zero {g : Nat → Nat} : ∀ {a : Nat}, (∀ k, k < a → g k = 0) → zsum g a = 0 := by
  intro a
  induction a with
  | zero => intro _; rfl
  | succ a ih => intro e; rw [zsum, ih (fun k hk => e k (by omega)), e a (by omega)]
theorem zsum_pos {g : Nat → Nat} {k : Nat} : ∀ {a : Nat}, k < a → 0 < g k → 0 < zsum g a := by
  intro a
  induction a with
  | zero => intro h; omega
  | succ a ih =>
    intro h hg
    rw [zsum]
    by_cases e : k = a
    · rw [← e]; omega
    · have := ih (by omega) hg; omega
theorem zsum_ex {g : Nat → Nat} : ∀ {a : Nat}, 0 < zsum g a → ∃ k, k < a ∧ 0 < g k := by
  intro a
  induction a with
  | zero => intro h; exact absurd h (Nat.not_lt_zero _)
  | succ a ih =>
    intro h
    rw [zsum] at h
    by_cases e : 0 < g a
    · exact ⟨a, by omega, e⟩
    · obtain ⟨k, h1, h2⟩ := ih (by omega); exact ⟨k, by omega, h2⟩
theorem zsum_tail {g : Nat → Nat} {n m : Nat} (h : n ≤ m) (hz : ∀ k, n ≤ k → g k = 0) : zsum g m = zsum g n := by
  have e := zsum_add (g := g) (a := n) (m - n)
  rw [show n + (m - n) = m by omega, zsum_zero (fun k _ => hz (n + k) (by omega)), Nat.add_zero] at e
  exact e
theorem zdir_hi {n : Nat} {c : Nat → Nat} {S M G r : Nat} (hM : M < 2 ^ n) (hr : n ≤ r) : zdir n c S M G r = none := by
  have h1 : M.testBit r = false := Nat.testBit_lt_two_pow (Nat.lt_of_lt_of_le hM (Nat.pow_le_pow_right (by omega) hr))
  unfold zdir
  rw [h1]; rfl
theorem zcb_all : ∀ M : Fin 64, ∀ q : Fin 6, ∀ j : Fin 6, (zclr M.val q.val).testBit j.val = (M.val.testBit j.val && !decide (j.val = q.val)) := by decide +kernel
theorem zcb {M q j : Nat} (hM : M < 64) (hq : q < 6) (hj : j < 6) : (zclr M q).testBit j = (M.testBit j && !decide (j = q)) := zcb_all ⟨M, hM⟩ ⟨q, hq⟩ ⟨j, hj⟩
theorem zpc_all : ∀ M : Fin 64, ∀ q : Fin 6, zpop M.val = zpop (zclr M.val q.val) + (if M.val.testBit q.val then 1 else 0) := by decide +kernel
theorem zp0_all : ∀ M : Fin 64, (zpop M.val = 0 ↔ M.val = 0) := by decide +kernel
theorem zclr_le {M q : Nat} : zclr M q ≤ M := by
  unfold zclr
  split
  · exact Nat.sub_le _ _
  · exact Nat.le_refl _
theorem zand_clr {S M q : Nat} (hS : S < 64) (hM : M < 64) (hq : q < 6) : S &&& zclr M q = zclr (S &&& M) q := by
  have h1 : S &&& M < 64 := Nat.lt_of_le_of_lt Nat.and_le_left hS
  refine zext (Nat.lt_of_le_of_lt Nat.and_le_left hS) (zclr_lt h1) (fun j hj => ?_)
  rw [Nat.testBit_and, zcb hM hq hj, zcb h1 hq hj, Nat.testBit_and, Bool.and_assoc]
theorem zpop_clr {S M q : Nat} (hS : S < 64) (hM : M < 64) (hq : q < 6) (h1 : S.testBit q = true) (h2 : M.testBit q = true) : zpop (S &&& M) = zpop (S &&& zclr M q) + 1 := by
  have h3 : S &&& M < 64 := Nat.lt_of_le_of_lt Nat.and_le_left hS
  have := zpc_all ⟨S &&& M, h3⟩ ⟨q, hq⟩
  simp only [Nat.testBit_and, h1, h2, Bool.and_self, if_true] at this
  rw [zand_clr hS hM hq]; exact this
theorem zpop_0 {X : Nat} (h : X < 64) : zpop X = 0 ↔ X = 0 := zp0_all ⟨X, h⟩
/-- so many codes as rows -/
theorem zrows_cnt {n : Nat} {c : Nat → Nat} {S : Nat} (hn : n ≤ 6) (hS : S < 64) : ∀ (f f' M G : Nat), zpop (S &&& M) = f → f ≤ f' → M < 2 ^ n → zrows n c S f' M G = zsum (fun x => if zdc n c S f M G x = true then 1 else 0) (6 ^ f) := by
  have h64 : 2 ^ n ≤ 2 ^ 6 := Nat.pow_le_pow_right (by omega) hn
  have e64 : (2 : Nat) ^ 6 = 64 := rfl
  intro f
  induction f with
  | zero =>
    intro f' M G h1 _ hM
    have h2 : S &&& M = 0 := (zpop_0 (Nat.lt_of_le_of_lt Nat.and_le_left hS)).mp h1
    have h3 : zrows n c S f' M G = 1 := by cases f' <;> simp [zrows, h2]
    rw [h3]; rfl
  | succ f ih =>
    intro f' M G h1 h2 hM
    obtain ⟨k, rfl⟩ : ∃ k, f' = k + 1 := ⟨f' - 1, by omega⟩
    have h3 : ¬ S &&& M = 0 := fun h => by rw [(zpop_0 (Nat.lt_of_le_of_lt Nat.and_le_left hS)).mpr h] at h1; omega
    rw [zrows, if_neg h3, Nat.pow_succ, Nat.mul_comm, zsum_mul]
    rw [← zsum_tail (n := n) (m := 6) hn (fun r hr => by rw [zdir_hi hM hr])]
    refine zsum_congr (fun r hr => ?_)
    have e1 : ∀ x, x < 6 ^ f → (r * 6 ^ f + x) / 6 ^ f = r := fun x hx => by
      rw [Nat.mul_comm, Nat.mul_add_div (Nat.pow_pos (by omega)), Nat.div_eq_of_lt hx, Nat.add_zero]
    have e2 : ∀ x, x < 6 ^ f → (r * 6 ^ f + x) % 6 ^ f = x := fun x hx => by
      rw [Nat.mul_comm, Nat.mul_add_mod, Nat.mod_eq_of_lt hx]
    cases hz : zdir n c S M G r with
    | none =>
      simp only
      refine (zsum_zero (fun x hx => ?_)).symm
      rw [zdc, e1 x hx, hz]; rfl
    | some q =>
      have hd := zdir_lt hz
      simp only
      have hq6 : q < 6 := by omega
      have h4 := zpop_clr (S := S) (M := M) hS (by omega) hq6 hd.2.2.1 hd.2.1
      rw [ih k (zclr M q) (zset G r) (by omega) (by omega) (Nat.lt_of_le_of_lt zclr_le hM)]
      refine zsum_congr (fun x hx => ?_)
      rw [zdc, e1 x hx, e2 x hx, hz]
theorem zfind_none {p : Nat → Bool} : ∀ {d k : Nat}, (∀ j, k ≤ j → j < k + d → p j = false) → zfind p k d = none := by
  intro d
  induction d with
  | zero => intro k _; rfl
  | succ d ih =>
    intro k h
    rw [zfind, if_neg (by rw [h k (Nat.le_refl _) (by omega)]; simp)]
    exact ih (fun j a c => h j (by omega) (by omega))
theorem zdiv6 {x e f : Nat} (h : e < f) : x % 6 ^ f / 6 ^ e % 6 = x / 6 ^ e % 6 := by
  have h1 : (6 : Nat) ^ f = 6 ^ e * 6 ^ (f - e) := by rw [← Nat.pow_add, show e + (f - e) = f by omega]
  rw [h1, Nat.mod_mul_right_div_self]
  refine Nat.mod_mod_of_dvd _ ?_
  have := Nat.pow_dvd_pow 6 (show 1 ≤ f - e by omega)
  rwa [Nat.pow_one] at this
/-- the first code's figures ring in the first row -/
theorem zrat_first {n : Nat} {c : Nat → Nat} {S : Nat} (hn : n ≤ 6) (hS : S < 64) : ∀ (f f' M G x : Nat), x < 6 ^ f → zdc n c S f M G x = true → (∀ y, y < x → zdc n c S f M G y = false) → zpop (S &&& M) = f → f ≤ f' → M < 2 ^ n → ∀ t, zrat n c S f' M G t = if t < f then some (x / 6 ^ (f - 1 - t) % 6) else none := by
  have h64 : 2 ^ n ≤ 2 ^ 6 := Nat.pow_le_pow_right (by omega) hn
  have e64 : (2 : Nat) ^ 6 = 64 := rfl
  intro f
  induction f with
  | zero =>
    intro f' M G x _ _ _ h1 _ hM t
    rw [if_neg (Nat.not_lt_zero _)]
    have h2 : S &&& M = 0 := (zpop_0 (Nat.lt_of_le_of_lt Nat.and_le_left hS)).mp h1
    cases f' with
    | zero => rfl
    | succ k =>
      rw [zrat, zfind_none (fun r _ _ => ?_)]
      unfold zgo
      cases hz : zdir n c S M G r with
      | none => rfl
      | some q =>
        have hd := zdir_lt hz
        have h3 : (S &&& M).testBit q = true := by rw [Nat.testBit_and, hd.2.2.1, hd.2.1]; rfl
        rw [h2] at h3; simp at h3
  | succ f ih =>
    intro f' M G x hx hg hmin h1 h2 hM t
    obtain ⟨k, rfl⟩ : ∃ k, f' = k + 1 := ⟨f' - 1, by omega⟩
    have hp : 0 < 6 ^ f := Nat.pow_pos (by omega)
    have hr6 : x / 6 ^ f < 6 := (Nat.div_lt_iff_lt_mul hp).mpr (by rw [Nat.mul_comm, ← Nat.pow_succ]; exact hx)
    have hxl : x % 6 ^ f < 6 ^ f := Nat.mod_lt _ hp
    have hxe : x / 6 ^ f * 6 ^ f + x % 6 ^ f = x := by rw [Nat.mul_comm]; exact Nat.div_add_mod _ _
    have cod : ∀ r y, y < 6 ^ f → zdc n c S (f + 1) M G (r * 6 ^ f + y) = (match zdir n c S M G r with | none => false | some q => zdc n c S f (zclr M q) (zset G r) y) := fun r y hy => by
      rw [zdc, show (r * 6 ^ f + y) / 6 ^ f = r by rw [Nat.mul_comm, Nat.mul_add_div hp, Nat.div_eq_of_lt hy, Nat.add_zero], show (r * 6 ^ f + y) % 6 ^ f = y by rw [Nat.mul_comm, Nat.mul_add_mod, Nat.mod_eq_of_lt hy]]
    obtain ⟨r, hr⟩ : ∃ r, x / 6 ^ f = r := ⟨_, rfl⟩
    obtain ⟨l, hl⟩ : ∃ l, x % 6 ^ f = l := ⟨_, rfl⟩
    rw [hr] at hr6
    rw [hl] at hxl
    rw [hr, hl] at hxe
    have hg2 := cod r l hxl
    rw [hxe, hg] at hg2
    cases hz : zdir n c S M G r with
    | none => rw [hz] at hg2; cases hg2
    | some q =>
      rw [hz] at hg2
      replace hg2 : zdc n c S f (zclr M q) (zset G r) l = true := hg2.symm
      have hd := zdir_lt hz
      have hq6 : q < 6 := by omega
      have h4 := zpop_clr (S := S) (M := M) hS (by omega) hq6 hd.2.2.1 hd.2.1
      have hM2 : zclr M q < 2 ^ n := Nat.lt_of_le_of_lt zclr_le hM
      have hrn : r < n := by
        rcases Nat.lt_or_ge r n with h | h
        · exact h
        · rw [zdir_hi hM h] at hz; cases hz
      have hgo : zgo n c S k M G r = true := by
        unfold zgo
        rw [hz]
        refine decide_eq_true ?_
        rw [zrows_cnt hn hS f k _ _ (by omega) (by omega) hM2]
        exact zsum_pos hxl (by rw [if_pos hg2]; omega)
      have hlow : ∀ r', 0 ≤ r' → r' < r → zgo n c S k M G r' = false := by
        intro r' _ hr'
        unfold zgo
        cases hz' : zdir n c S M G r' with
        | none => rfl
        | some q' =>
          refine decide_eq_false (fun hpos => ?_)
          have hd' := zdir_lt hz'
          have h4' := zpop_clr (S := S) (M := M) hS (by omega) (show q' < 6 by omega) hd'.2.2.1 hd'.2.1
          rw [zrows_cnt hn hS f k _ _ (by omega) (by omega) (Nat.lt_of_le_of_lt zclr_le hM)] at hpos
          obtain ⟨y, hy, hy2⟩ := zsum_ex hpos
          have hlt : r' * 6 ^ f + y < x := by
            have h5 : (r' + 1) * 6 ^ f ≤ r * 6 ^ f := Nat.mul_le_mul_right _ (by omega)
            rw [Nat.succ_mul] at h5
            omega
          have h6 := hmin _ hlt
          rw [cod r' y hy, hz'] at h6
          replace h6 : zdc n c S f (zclr M q') (zset G r') y = false := h6
          rw [h6] at hy2; simp at hy2
      have hf : zfind (zgo n c S k M G) 0 n = some r := zfind_at (Nat.zero_le _) (by omega) hgo hlow
      rw [zrat, hf]
      simp only
      by_cases ht : t = 0
      · rw [if_pos ht, if_pos (by omega), ht, show f + 1 - 1 - 0 = f by omega, hr, Nat.mod_eq_of_lt hr6]
      · rw [if_neg ht, hz]
        simp only
        have hm2 : ∀ y, y < l → zdc n c S f (zclr M q) (zset G r) y = false := fun y hy => by
          have h6 := hmin (r * 6 ^ f + y) (by omega)
          rw [cod r y (by omega), hz] at h6
          exact h6
        rw [ih k (zclr M q) (zset G r) l hxl hg2 hm2 (by omega) (by omega) hM2 (t - 1)]
        by_cases ht2 : t < f + 1
        · rw [if_pos ht2, if_pos (by omega), ← hl, show f - 1 - (t - 1) = f + 1 - 1 - t by omega, zdiv6 (by omega)]
        · rw [if_neg ht2, if_neg (by omega)]
theorem zrat_none {n : Nat} {c : Nat → Nat} {S M G t : Nat} (h : zrows n c S 6 M G = 0) : zrat n c S 6 M G t = none := by
  rw [zrows] at h
  by_cases e : S &&& M = 0
  · rw [if_pos e] at h; omega
  · rw [if_neg e] at h
    rw [zrat, zfind_none (fun r _ hr => ?_)]
    cases hg : zgo n c S 5 M G r with
    | false => rfl
    | true =>
      have h1 : 0 < zsum (fun r => match zdir n c S M G r with | none => 0 | some q => zrows n c S 5 (zclr M q) (zset G r)) n := by
        refine zsum_pos (k := r) (by omega) ?_
        unfold zgo at hg
        cases hz : zdir n c S M G r with
        | none => rw [hz] at hg; cases hg
        | some q => rw [hz] at hg; simp only; exact of_decide_eq_true hg
      exact absurd h (Nat.ne_of_gt h1)
theorem zfind_succ {p : Nat → Bool} : ∀ {d k : Nat}, zfind p k (d + 1) = match zfind p k d with | some x => some x | none => if p (k + d) = true then some (k + d) else none := by
  intro d
  induction d with
  | zero => intro k; rfl
  | succ d ih =>
    intro k
    show (if p k = true then some k else zfind p (k + 1) (d + 1)) = match (if p k = true then some k else zfind p (k + 1) d) with | some x => some x | none => if p (k + (d + 1)) = true then some (k + (d + 1)) else none
    by_cases e : p k = true
    · rw [if_pos e, if_pos e]
    · rw [if_neg e, if_neg e, ih, show k + 1 + d = k + (d + 1) by omega]
theorem zcnt_0 {p : Nat → Bool} {k : Nat} : zsum (fun x => if p x = true then 1 else 0) k = 0 ↔ zfind p 0 k = none := by
  induction k with
  | zero => exact ⟨fun _ => rfl, fun _ => rfl⟩
  | succ k ih =>
    rw [zsum, zfind_succ, Nat.zero_add]
    cases hz : zfind p 0 k with
    | none =>
      have := ih.mpr hz
      rw [this]
      by_cases e : p k = true
      · rw [if_pos e, if_pos e]; exact ⟨fun h => by omega, fun h => by cases h⟩
      · rw [if_neg e, if_neg e]; exact ⟨fun _ => rfl, fun _ => rfl⟩
    | some x =>
      have : zsum (fun x => if p x = true then 1 else 0) k ≠ 0 := fun h => by rw [ih.mp h] at hz; cases hz
      exact ⟨fun h => by omega, fun h => by cases h⟩

