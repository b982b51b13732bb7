/-! what a transformer says where the stack is known -/
section ZE
variable {b n0 rc rs mc ms ci fk vt na k u i : Nat} {cy : zY} {cA : ClassId} {P : zPo} {sp : zSp} {K Kt Kf : zC} {l : zL} {st r : List Value} {E : zE} {x y : Int32} {X Y : Int64} {a a0 : Nat} {v : Value} {c1 : Int32 → Prop} {c2 : Int32 → Int32 → Prop} {f : Int32 → Int32 → Int32} {g : Int32 → Int32}
theorem e_cut {ks : List Nat} : z_cut ks K l st k u E = zpick l ks (fun r => K r st k u E) := rfl
theorem e_iload : z_iload i K l st k u E = zld l i (fun v => match v with | .int x => K l (.int x :: st) k u E | _ => False) := rfl
theorem e_aload : z_aload i K l st k u E = zld l i (fun v => match v with | .ref x => K l (.ref x :: st) k u E | _ => False) := rfl
theorem e_istore : z_istore i K l (.int x :: r) k u E = K (zst l i (.int x)) r k u E := rfl
theorem e_astore : z_astore i K l (.ref a :: r) k u E = K (zst l i (.ref a)) r k u E := rfl
theorem e_iinc {d : Int32} : z_iinc i d K l st k u E = zld l i (fun v => match v with | .int x => K (zst l i (.int (x + d))) st k u E | _ => False) := rfl
theorem e_const : z_const x K l st k u E = K l (.int x :: st) k u E := rfl
theorem e_lconst : z_lconst X K l st k u E = K l (.long X :: st) k u E := rfl
theorem e_bin : z_bin f K l (.int y :: .int x :: r) k u E = K l (.int (f x y) :: r) k u E := rfl
theorem e_bin0 : z_bin0 f K l (.int y :: .int x :: r) k u E = (¬ y = 0 ∧ K l (.int (f x y) :: r) k u E) := rfl
theorem e_un : z_un g K l (.int x :: r) k u E = K l (.int (g x) :: r) k u E := rfl
theorem e_ladd : z_ladd K l (.long Y :: .long X :: r) k u E = K l (.long (X + Y) :: r) k u E := rfl
theorem e_dupi : z_dup K l (.int x :: r) k u E = K l (.int x :: .int x :: r) k u E := rfl
theorem e_dupr : z_dup K l (.ref a :: r) k u E = K l (.ref a :: .ref a :: r) k u E := rfl
theorem e_dup2 : z_dup2 K l (.int x :: .ref a :: r) k u E = K l (.int x :: .ref a :: .int x :: .ref a :: r) k u E := rfl
theorem e_pop : z_pop K l (.int x :: r) k u E = K l r k u E := rfl
theorem e_if : z_if c1 Kt Kf l (.int x :: r) k u E = ((c1 x → Kt l r k u E) ∧ (¬ c1 x → Kf l r k u E)) := rfl
theorem e_icmp : z_icmp c2 Kt Kf l (.int y :: .int x :: r) k u E = ((c2 x y → Kt l r k u E) ∧ (¬ c2 x y → Kf l r k u E)) := rfl
theorem e_sw {t : List (Int32 × zC)} : z_switch t K l (.int x :: r) k u E = z_sw t K x l r k u E := rfl
theorem e_sw0 : z_sw [] K x l r k u E = K l r k u E := rfl
theorem e_sw1 {t : List (Int32 × zC)} : z_sw ((y, Kt) :: t) K x l r k u E = ((x = y → Kt l r k u E) ∧ (¬ x = y → z_sw t K x l r k u E)) := rfl
theorem e_get : z_get b n0 ci fk K l (.ref a :: r) k u E = (b ≤ a ∧ a - b < n0 + k ∧ (match E (a - b) with | .inr (c, fs) => c = ci ∧ (match fs[fk]? with | some v => K l (v :: r) k u E | none => False) | _ => False)) := rfl
theorem e_put : z_put b n0 ci fk vt K l (v :: .ref a :: r) k u E = (b ≤ a ∧ a - b < n0 + k ∧ (match E (a - b) with | .inr (c, fs) => c = ci ∧ fk < fs.length ∧ zok vt v ∧ K l r k u (va_up E (a - b) (.inr (ci, fs.set fk v))) | _ => False)) := rfl
theorem e_ald : z_ald b n0 cA K l (.int x :: .ref a :: r) k u E = (b ≤ a ∧ a - b < n0 + k ∧ (match E (a - b) with | .inl (c, len, .inl f) => c = cA ∧ vp_in x len ∧ K l (.int (f x.toNatClampNeg) :: r) k u E | _ => False)) := rfl
theorem e_ast : z_ast b n0 cA g K l (.int y :: .int x :: .ref a :: r) k u E = (b ≤ a ∧ a - b < n0 + k ∧ (match E (a - b) with | .inl (c, len, .inl f) => c = cA ∧ vp_in x len ∧ K l r k u (va_up E (a - b) (.inl (cA, len, .inl (upd f x.toNatClampNeg (g y))))) | _ => False)) := rfl
theorem e_aald : z_aald b n0 cA K l (.int x :: .ref a :: r) k u E = (b ≤ a ∧ a - b < n0 + k ∧ (match E (a - b) with | .inl (c, len, .inr (.inr (.inr (.inr f)))) => c = cA ∧ vp_in x len ∧ K l (va_rf (f x.toNatClampNeg) :: r) k u E | _ => False)) := rfl
theorem e_aast : z_aast b n0 cA ci K l (.ref a0 :: .int x :: .ref a :: r) k u E = (b ≤ a ∧ a - b < n0 + k ∧ b ≤ a0 ∧ a0 - b < n0 + k ∧ (match E (a0 - b) with | .inr (c, _) => c = ci | _ => False) ∧ (match E (a - b) with | .inl (c, len, .inr (.inr (.inr (.inr f)))) => c = cA ∧ vp_in x len ∧ K l r k u (va_up E (a - b) (.inl (cA, len, .inr (.inr (.inr (.inr (va_up f x.toNatClampNeg (some a0)))))))) | _ => False)) := rfl
theorem e_copy {dp sp0 : Int32} : z_copy b n0 cA K l (.int x :: .int dp :: .ref a :: .int sp0 :: .ref a0 :: r) k u E = (r.length ≤ 4 ∧ b ≤ a ∧ a - b < n0 + k ∧ b ≤ a0 ∧ a0 - b < n0 + k ∧ dp = 0 ∧ sp0 = 0 ∧ ¬ x < 0 ∧ (match E (a0 - b) with | .inl (c0, len0, .inl f) => (match E (a - b) with | .inl (c1, len1, .inl g) => c0 = cA ∧ c1 = cA ∧ x.toNatClampNeg ≤ len0 ∧ x.toNatClampNeg ≤ len1 ∧ K l r k u (va_up E (a - b) (.inl (cA, len1, .inl (va_cpy f g 0 0 x.toNatClampNeg)))) | _ => False) | _ => False)) := rfl
theorem e_new {nf : Nat} {fs : List Value} : z_new b n0 rc rs ci nf fs K l st k u E = (k + 1 ≤ rc ∧ u + nf ≤ rs ∧ K l (.ref (b + (n0 + k)) :: st) (k + 1) (u + nf) (va_up E (n0 + k) (.inr (ci, fs)))) := rfl
theorem e_newa : z_newa b n0 rc rs cA K l (.int x :: r) k u E = (¬ x < 0 ∧ x.toNatClampNeg ≤ 10000 ∧ k + 1 ≤ rc ∧ u + x.toNatClampNeg ≤ rs ∧ K l (.ref (b + (n0 + k)) :: r) (k + 1) (u + x.toNatClampNeg) (va_up E (n0 + k) (.inl (cA, x.toNatClampNeg, .inl (fun _ => 0))))) := rfl
theorem e_anewa : z_anewa b n0 rc rs cA K l (.int x :: r) k u E = (¬ x < 0 ∧ x.toNatClampNeg ≤ 10000 ∧ k + 1 ≤ rc ∧ u + x.toNatClampNeg ≤ rs ∧ K l (.ref (b + (n0 + k)) :: r) (k + 1) (u + x.toNatClampNeg) (va_up E (n0 + k) (.inl (cA, x.toNatClampNeg, .inr (.inr (.inr (.inr (fun _ => none)))))))) := rfl
theorem e_min : z_min rc rs K l (.int y :: .int x :: r) k u E = (r.length ≤ 4 ∧ k ≤ rc ∧ u ≤ rs ∧ K l (.int (if y < x then y else x) :: r) k u E) := rfl
theorem e_abs : z_abs rc rs K l (.int x :: r) k u E = (r.length ≤ 4 ∧ k ≤ rc ∧ u ≤ rs ∧ K l (.int (if 0 ≤ x then x else 0 - x) :: r) k u E) := rfl
theorem e_oinit : z_oinit K l (.ref a :: r) k u E = (r.length ≤ 4 ∧ K l r k u E) := rfl
theorem e_callI : z_callI b n0 rc rs cy mc ms sp K l (.ref a :: r) k u E = (r.length ≤ 4 ∧ k + mc ≤ rc ∧ u + ms ≤ rs ∧ sp b cy [.ref a] (n0 + k) E (fun v E' => K l (v.toList ++ r) (k + mc) (u + ms) E')) := rfl
theorem e_callV : z_callV b n0 rc rs cy ci na mc ms sp K l st k u E = (match st.drop na with
  | .ref a :: r => r.length ≤ 4 ∧ (st.take na).length = na ∧ k + mc ≤ rc ∧ u + ms ≤ rs ∧ b ≤ a ∧ a - b < n0 + k ∧ (match E (a - b) with | .inr (c, _) => c = ci | _ => False) ∧ sp b cy (.ref a :: (st.take na).reverse) (n0 + k) E (fun v E' => K l (v.toList ++ r) (k + mc) (u + ms) E')
  | _ => False) := rfl
theorem e_callS : z_callS b n0 rc rs cy na mc ms sp K l st k u E = ((st.drop na).length ≤ 4 ∧ (st.take na).length = na ∧ k + mc ≤ rc ∧ u + ms ≤ rs ∧ sp b cy (st.take na).reverse (n0 + k) E (fun v E' => K l (v.toList ++ st.drop na) (k + mc) (u + ms) E')) := rfl
theorem e_iret : z_iret mc ms P l [.int x] k u E = (k = mc ∧ u ≤ ms ∧ P (some (.int x)) E) := rfl
theorem e_zret : z_zret mc ms P l [.int x] k u E = (k = mc ∧ u ≤ ms ∧ (x = 0 ∨ x = 1) ∧ P (some (.int x)) E) := rfl
theorem e_lret : z_lret mc ms P l [.long X] k u E = (k = mc ∧ u ≤ ms ∧ P (some (.long X)) E) := rfl
theorem e_vret : z_vret mc ms P l [] k u E = (k = mc ∧ u ≤ ms ∧ P none E) := rfl
theorem e_tl1 : (some v).toList ++ r = v :: r := rfl
theorem e_tl0 : (none : Option Value).toList ++ r = r := rfl
theorem e_tl2 : (none : Option Value).toList = ([] : List Value) := rfl
theorem e_tl3 : (some v).toList = [v] := rfl
theorem z10 : ((1 : Int32) = 0) = False := eq_false (by decide)
theorem z9e : ((-9 : Int32) = -9) = True := eq_true rfl
theorem e_up (f : zE) (j q : Nat) (w : va_E) : va_up f j w q = if q = j then w else f q := rfl
end ZE
/-! the mathematics of a car -/
def zfo (ok : Nat → Bool) (bt : Nat → Nat → Bool) : Nat → Option Nat
  | 0 => none
  | k + 1 => match zfo ok bt k with
    | none => if ok k then some k else none
    | some f => if ok k && bt k f then some k else some f
def zrv : Option Nat → Int32
  | none => -9
  | some k => nI k
def zdn (x : Nat) : Int32 := if x = 0 then -9 else nI (x - 1)
def zad (a b : Nat) : Nat := (a - b) + (b - a)
/-- whom r thinks of by the law 'by', if his seat is s -/
def zwho (n : Nat) (lo c : Nat → Nat) (r s by0 : Nat) : Option Nat := zfo (fun q => decide (q ≠ r) && (c 1).testBit q) (fun q f => if by0 = 0 then decide (zad (c (4 + q)) s < zad (c (4 + f)) s) else if by0 = 1 then decide (lo f < lo q) else decide ((q + 6 - r) % 6 < (f + 6 - r) % 6)) n
/-- who gets down if r rings, of those of M -/
def zring (n : Nat) (c : Nat → Nat) (M r : Nat) : Option Nat := zfo (fun q => decide (q ≠ r) && M.testBit q && decide (0 < c (16 + 6 * q + r))) (fun q f => decide (c (16 + 6 * f + r) < c (16 + 6 * q + r))) n
def ztwo (n : Nat) (c : Nat → Nat) (r : Nat) : Option Nat := zfo (fun q => decide (q ≠ r) && (c 1).testBit q && decide (0 < c (16 + 6 * r + q))) (fun q f => decide (c (16 + 6 * r + f) < c (16 + 6 * r + q))) n
def zup (c : Nat → Nat) (i v : Nat) : Nat → Nat := fun k => if k = i then v else c k
def zthink (c : Nat → Nat) (r q : Nat) : Nat → Nat := zup (zup c 2 (c 2 + 1)) (16 + 6 * r + q) (c 2 + 1)
def zclr (M q : Nat) : Nat := if M.testBit q then M - 2 ^ q else M
def zset (M q : Nat) : Nat := if M.testBit q then M else M + 2 ^ q
def zrideL (n : Nat) (lo la : Nat → Nat) : Nat → (Nat → Nat) → (Nat → Nat)
  | 0, c => c
  | r + 1, c0 => let c := zrideL n lo la r c0; if (c 1).testBit r then (match zwho n lo c r (c (4 + r)) (la r) with | none => c | some q => zthink c r q) else c
def zride (n : Nat) (lo la c : Nat → Nat) : Nat → Nat := zrideL n lo la n (zup c 0 (c 0 + 1))
def zdown (c : Nat → Nat) : Option Nat → (Nat → Nat)
  | none => zup c 3 (c 3 + 1)
  | some q => zup (zup c 1 (zclr (c 1) q)) (10 + q) (c 0 + 1)
/-- a moment that can be: n riders -/
def zMok (n : Nat) (c : Nat → Nat) : Prop := n ≤ 6 ∧ c 1 < 2 ^ n ∧ c 0 < 1000 ∧ c 2 < 1000000 ∧ (∀ j, j < n → c (4 + j) ≤ 9) ∧ (∀ j, j < 36 → c (16 + j) ≤ c 2) ∧ (∀ j, j < 6 → c (16 + 7 * j) = 0)
/-! the class's cells -/
/-- a moment of n riders at place i holds c -/
def zMo (b : Nat) (cy : zY) (E : zE) (i n : Nat) (c : Nat → Nat) : Prop := n ≤ 6 ∧ ∃ f g h : Nat → Int32, E i = .inr (1, [.int (nI (c 0)), .int (nI (c 1)), .int (nI (c 2)), .int (nI (c 3)), .ref (b + (i + 1)), .ref (b + (i + 2)), .ref (b + (i + 3))]) ∧ E (i + 1) = .inl (cy 1, 6, .inl f) ∧ E (i + 2) = .inl (cy 1, 6, .inl g) ∧ E (i + 3) = .inl (cy 1, 36, .inl h) ∧ (∀ j, j < n → f j = nI (c (4 + j))) ∧ (∀ j, j < 6 → g j = zdn (c (10 + j))) ∧ (∀ j, j < 36 → h j = nI (c (16 + j)))
theorem e_argi {i : Nat} {x : Int32} {vs : List Value} : lv_args i (.int x :: vs) = (i, .int x) :: lv_args (i + 1) vs := rfl
theorem e_argr {i : Nat} {x : Nat} {vs : List Value} : lv_args i (.ref x :: vs) = (i, .ref x) :: lv_args (i + 1) vs := rfl
theorem e_argn {i : Nat} : lv_args i [] = [] := rfl
theorem zg0 : ∀ v ∈ ([] : List Value), v.category = 1 := fun _ h => absurd h List.not_mem_nil
theorem zg1 {v : Value} {t : List Value} (h : v.category = 1) (ht : ∀ w ∈ t, w.category = 1) : ∀ w ∈ v :: t, w.category = 1 := fun w hw => by
  rcases List.mem_cons.mp hw with rfl | hw
  · exact h
  · exact ht w hw
theorem zbit_all : ∀ M : Fin 64, ∀ r : Fin 6, ((nI M.val >>> (nI r.val &&& 31)) &&& 1) = if M.val.testBit r.val then 1 else 0 := by decide +kernel
theorem zbit {M r : Nat} (hM : M < 64) (hr : r < 6) : ((nI M >>> (nI r &&& 31)) &&& 1) = if M.testBit r then 1 else 0 := zbit_all ⟨M, hM⟩ ⟨r, hr⟩
theorem zclr_all : ∀ M : Fin 64, ∀ r : Fin 6, (nI M.val &&& ((1 <<< (nI r.val &&& 31)) ^^^ (-1))) = nI (zclr M.val r.val) := by decide +kernel
theorem zclr_i {M r : Nat} (hM : M < 64) (hr : r < 6) : (nI M &&& ((1 <<< (nI r &&& 31)) ^^^ (-1))) = nI (zclr M r) := zclr_all ⟨M, hM⟩ ⟨r, hr⟩
theorem zset_all : ∀ M : Fin 64, ∀ r : Fin 6, (nI M.val ||| (1 <<< (nI r.val &&& 31))) = nI (zset M.val r.val) := by decide +kernel
theorem zset_i {M r : Nat} (hM : M < 64) (hr : r < 6) : (nI M ||| (1 <<< (nI r &&& 31))) = nI (zset M r) := zset_all ⟨M, hM⟩ ⟨r, hr⟩
theorem nI_c (n : Nat) (h : n < 2 ^ 31) : (nI n).toNatClampNeg = n := nI_clamp h
theorem zix {r q : Nat} : nI r * 6 + nI q = nI (6 * r + q) := by
  have h : (6 : Int32) = nI 6 := rfl
  rw [h, pk_mul, nI_add, Nat.mul_comm]
theorem zMok.l64 {n : Nat} {c : Nat → Nat} (h : zMok n c) : c 1 < 64 := by
  have h1 := h.2.1
  have h2 : 2 ^ n ≤ 2 ^ 6 := Nat.pow_le_pow_right (by omega) h.1
  have h3 : (2 : Nat) ^ 6 = 64 := rfl
  omega
theorem zthink_lo {c : Nat → Nat} {r q k : Nat} (h : k < 16) (h2 : k ≠ 2) : zthink c r q k = c k := by
  unfold zthink zup
  rw [if_neg (by omega), if_neg h2]
theorem zthink_2 {c : Nat → Nat} {r q : Nat} : zthink c r q 2 = c 2 + 1 := by
  unfold zthink zup
  rw [if_neg (by omega), if_pos rfl]
theorem zthink_hi {c : Nat → Nat} {r q j : Nat} : zthink c r q (16 + j) = if j = 6 * r + q then c 2 + 1 else c (16 + j) := by
  unfold zthink zup
  by_cases h : j = 6 * r + q
  · rw [if_pos (by omega), if_pos h]
  · rw [if_neg (by omega), if_neg (by omega), if_neg h]
theorem zMo.congr {b : Nat} {cy : zY} {E E' : zE} {i n : Nat} {c : Nat → Nat} (h : zMo b cy E i n c) (hE : ∀ j, i ≤ j → j ≤ i + 3 → E' j = E j) : zMo b cy E' i n c := by
  obtain ⟨hn, f, g, w, h0, h1, h2, h3, r⟩ := h
  exact ⟨hn, f, g, w, by rw [hE _ (by omega) (by omega)]; exact h0, by rw [hE _ (by omega) (by omega)]; exact h1, by rw [hE _ (by omega) (by omega)]; exact h2, by rw [hE _ (by omega) (by omega)]; exact h3, r⟩
