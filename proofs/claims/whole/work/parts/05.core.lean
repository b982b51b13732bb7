/-! The walk once for all: transformers z_*, one an instruction, and that each is sound at its place; the world is all the cells from b on, in the order in which they were made. -/
abbrev zE : Type := Nat → va_E
abbrev zL : Type := List (Nat × Value)
/-- what is wanted at a place: locals, stack, cells made so far, slots made so far, the world -/
abbrev zC : Type := zL → List Value → Nat → Nat → zE → Prop
abbrev zY : Type := Nat → ClassId
abbrev zPo : Type := Option Value → zE → Prop
abbrev zSp : Type := Nat → zY → List Value → Nat → zE → zPo → Prop
abbrev zty (cy : zY) : List (ClassId × FieldType) := [(cy 0, .byte), (cy 1, .int), (cy 2, .boolean), (cy 3, .object "BellCars$Image"), (cy 4, .object "BellCars$Moment")]
def zwl (b n : Nat) (E : zE) : va_W := (List.range n).map (fun i => (b + i, E i))
theorem zwl_at {b n i : Nat} {E : zE} (h : i < n) : (zwl b n E)[i]? = some (b + i, E i) := by simp [zwl, h]
theorem zwl_len (b n : Nat) (E : zE) : (zwl b n E).length = n := by simp [zwl]
theorem zwl_mem {b n k : Nat} {E : zE} {q : Nat × va_E} (h : (zwl b n E)[k]? = some q) : k < n ∧ q = (b + k, E k) := by
  have h1 : k < n := by
    have := (List.getElem?_eq_some_iff.mp h).1
    rwa [zwl_len] at this
  rw [zwl_at h1] at h
  exact ⟨h1, (Option.some.inj h).symm⟩
theorem zwl_set {b n i : Nat} {E : zE} (e : va_E) (h : i < n) : (zwl b n E).set i (b + i, e) = zwl b n (va_up E i e) := by
  apply List.ext_getElem?
  intro k
  rw [List.getElem?_set, zwl_len]
  by_cases hk : k < n
  · rw [zwl_at hk, zwl_at hk]
    by_cases e1 : i = k
    · subst e1; simp [va_up, h]
    · have : ¬ k = i := fun q => e1 q.symm
      simp [va_up, e1, this]
  · have h1 : ¬ i = k := by omega
    have h2 : (zwl b n E)[k]? = none := List.getElem?_eq_none (by rw [zwl_len]; omega)
    have h3 : (zwl b n (va_up E i e))[k]? = none := List.getElem?_eq_none (by rw [zwl_len]; omega)
    rw [if_neg h1, h2, h3]
theorem zwl_push {b n : Nat} {E : zE} (e : va_E) : zwl b n E ++ [(b + n, e)] = zwl b (n + 1) (va_up E n e) := by
  unfold zwl
  rw [List.range_succ, List.map_append]
  congr 1
  · apply List.map_congr_left
    intro i hi
    have : i ≠ n := Nat.ne_of_lt (List.mem_range.mp hi)
    simp [va_up, this]
  · simp [va_up]
theorem zwl_D {b n : Nat} {E : zE} : va_D (fun q => b ≤ q) (zwl b n E) := by
  refine ⟨fun i j p q hi hj hpq => ?_, fun k q hk => ?_⟩
  · obtain ⟨_, rfl⟩ := zwl_mem hi
    obtain ⟨_, rfl⟩ := zwl_mem hj
    simp at hpq
    exact hpq
  · obtain ⟨_, rfl⟩ := zwl_mem hk
    exact Nat.le_add_right _ _
/-! locals -/
def zld : zL → Nat → (Value → Prop) → Prop
  | [], _, _ => False
  | (j, v) :: t, k, K => if j = k then K v else zld t k K
def zst : zL → Nat → Value → zL
  | [], k, v => [(k, v)]
  | (j, w) :: t, k, v => if j = k then (k, v) :: t else (j, w) :: zst t k v
def zpick (l : zL) : List Nat → (zL → Prop) → Prop
  | [], K => K []
  | k :: ks, K => zld l k (fun v => zpick l ks (fun r => K ((k, v) :: r)))
theorem zld_c (j k : Nat) (v : Value) (t : zL) (K : Value → Prop) : zld ((j, v) :: t) k K = if j = k then K v else zld t k K := rfl
theorem zst_n (k : Nat) (v : Value) : zst [] k v = [(k, v)] := rfl
theorem zst_c (j k : Nat) (w v : Value) (t : zL) : zst ((j, w) :: t) k v = if j = k then (k, v) :: t else (j, w) :: zst t k v := rfl
theorem zpick_n (l : zL) (K : zL → Prop) : zpick l [] K = K [] := rfl
theorem zpick_c (l : zL) (k : Nat) (ks : List Nat) (K : zL → Prop) : zpick l (k :: ks) K = zld l k (fun v => zpick l ks (fun r => K ((k, v) :: r))) := rfl
def zhas (ls : Array Slot) (nL : Nat) (l : zL) : Prop := lv_has ls nL l ∧ (∀ q ∈ l, q.2.category = 1) ∧ (l.map Prod.fst).Nodup
theorem zld_mem {l : zL} {k : Nat} {K : Value → Prop} (h : zld l k K) : ∃ v, (k, v) ∈ l ∧ K v := by
  induction l with
  | nil => exact absurd h id
  | cons q t ih =>
    obtain ⟨j, w⟩ := q
    rw [zld_c] at h
    by_cases e : j = k
    · rw [if_pos e] at h; subst e; exact ⟨w, List.mem_cons_self, h⟩
    · rw [if_neg e] at h; obtain ⟨v, h1, h2⟩ := ih h; exact ⟨v, List.mem_cons_of_mem _ h1, h2⟩
theorem zst_mem {l : zL} {k : Nat} {v : Value} (hn : (l.map Prod.fst).Nodup) {q : Nat × Value} (h : q ∈ zst l k v) : q = (k, v) ∨ (q ∈ l ∧ q.1 ≠ k) := by
  induction l with
  | nil => rw [zst_n] at h; exact Or.inl (List.mem_singleton.mp h)
  | cons p t ih =>
    obtain ⟨j, w⟩ := p
    rw [zst_c] at h
    rw [List.map_cons, List.nodup_cons] at hn
    by_cases e : j = k
    · rw [if_pos e] at h
      rcases List.mem_cons.mp h with h | h
      · exact Or.inl h
      · refine Or.inr ⟨List.mem_cons_of_mem _ h, fun e2 => hn.1 ?_⟩
        show j ∈ _
        rw [e, ← e2]
        exact List.mem_map_of_mem h
    · rw [if_neg e] at h
      rcases List.mem_cons.mp h with h | h
      · subst h; exact Or.inr ⟨List.mem_cons_self, e⟩
      · rcases ih hn.2 h with h | ⟨h1, h2⟩
        · exact Or.inl h
        · exact Or.inr ⟨List.mem_cons_of_mem _ h1, h2⟩
theorem zst_keys {l : zL} {k : Nat} {v : Value} {j : Nat} (h : j ∈ (zst l k v).map Prod.fst) : j = k ∨ j ∈ l.map Prod.fst := by
  induction l with
  | nil => rw [zst_n] at h; simp at h; exact Or.inl h
  | cons p t ih =>
    obtain ⟨i, w⟩ := p
    rw [zst_c] at h
    by_cases e : i = k
    · rw [if_pos e] at h
      rw [List.map_cons, List.mem_cons] at h
      rcases h with h | h
      · exact Or.inl h
      · exact Or.inr (by rw [List.map_cons]; exact List.mem_cons_of_mem _ h)
    · rw [if_neg e] at h
      rw [List.map_cons, List.mem_cons] at h
      rcases h with h | h
      · exact Or.inr (by rw [List.map_cons]; exact List.mem_cons.mpr (Or.inl h))
      · rcases ih h with h | h
        · exact Or.inl h
        · exact Or.inr (by rw [List.map_cons]; exact List.mem_cons_of_mem _ h)
theorem zst_nodup {l : zL} {k : Nat} {v : Value} (hn : (l.map Prod.fst).Nodup) : ((zst l k v).map Prod.fst).Nodup := by
  induction l with
  | nil => rw [zst_n]; simp
  | cons p t ih =>
    obtain ⟨j, w⟩ := p
    rw [List.map_cons, List.nodup_cons] at hn
    rw [zst_c]
    by_cases e : j = k
    · rw [if_pos e, List.map_cons, List.nodup_cons]; subst e; exact hn
    · rw [if_neg e, List.map_cons, List.nodup_cons]
      refine ⟨fun h => ?_, ih hn.2⟩
      rcases zst_keys h with h | h
      · exact e h
      · exact hn.1 h
theorem zhas_st {ls' : Array Slot} {nL : Nat} {l : zL} {k : Nat} {v : Value} (hc : ∀ q ∈ l, q.2.category = 1) (hn : (l.map Prod.fst).Nodup) (hv : v.category = 1) (h : lv_has ls' nL ((k, v) :: l.filter (fun q => !(q.1 == k) && !(q.1 + 1 == k && q.2.category == 2)))) : zhas ls' nL (zst l k v) := by
  refine ⟨⟨h.1, h.2.1, fun q hq => h.2.2 q ?_⟩, fun q hq => ?_, zst_nodup hn⟩
  · rcases zst_mem hn hq with e | ⟨h1, h2⟩
    · rw [e]; exact List.mem_cons_self
    · refine List.mem_cons_of_mem _ (List.mem_filter.mpr ⟨h1, ?_⟩)
      simp [h2, hc q h1]
  · rcases zst_mem hn hq with e | ⟨h1, h2⟩
    · rw [e]; exact hv
    · exact hc q h1
theorem zpick_spec {l : zL} {ks : List Nat} {K : zL → Prop} (h : zpick l ks K) : ∃ r, K r ∧ (∀ q ∈ r, q ∈ l) ∧ r.map Prod.fst = ks := by
  induction ks generalizing K with
  | nil => exact ⟨[], h, fun q hq => absurd hq List.not_mem_nil, rfl⟩
  | cons k ks ih =>
    rw [zpick_c] at h
    obtain ⟨v, hm, h⟩ := zld_mem h
    obtain ⟨r, h1, h2, h3⟩ := ih h
    refine ⟨(k, v) :: r, h1, fun q hq => ?_, by rw [List.map_cons, h3]⟩
    rcases List.mem_cons.mp hq with e | e
    · rw [e]; exact hm
    · exact h2 q e
/-! transformers -/
def z_cut (ks : List Nat) (K : zC) (l : zL) (st : List Value) (k u : Nat) (E : zE) : Prop := zpick l ks (fun r => K r st k u E)
def z_iload (i : Nat) (K : zC) (l : zL) (st : List Value) (k u : Nat) (E : zE) : Prop := zld l i (fun v => match v with | .int x => K l (.int x :: st) k u E | _ => False)
def z_aload (i : Nat) (K : zC) (l : zL) (st : List Value) (k u : Nat) (E : zE) : Prop := zld l i (fun v => match v with | .ref x => K l (.ref x :: st) k u E | _ => False)
def z_istore (i : Nat) (K : zC) (l : zL) (st : List Value) (k u : Nat) (E : zE) : Prop := match st with | .int x :: r => K (zst l i (.int x)) r k u E | _ => False
def z_astore (i : Nat) (K : zC) (l : zL) (st : List Value) (k u : Nat) (E : zE) : Prop := match st with | .ref x :: r => K (zst l i (.ref x)) r k u E | _ => False
def z_iinc (i : Nat) (d : Int32) (K : zC) (l : zL) (st : List Value) (k u : Nat) (E : zE) : Prop := zld l i (fun v => match v with | .int x => K (zst l i (.int (x + d))) st k u E | _ => False)
def z_const (x : Int32) (K : zC) (l : zL) (st : List Value) (k u : Nat) (E : zE) : Prop := K l (.int x :: st) k u E
def z_lconst (x : Int64) (K : zC) (l : zL) (st : List Value) (k u : Nat) (E : zE) : Prop := K l (.long x :: st) k u E
def z_bin (f : Int32 → Int32 → Int32) (K : zC) (l : zL) (st : List Value) (k u : Nat) (E : zE) : Prop := match st with | .int y :: .int x :: r => K l (.int (f x y) :: r) k u E | _ => False
def z_bin0 (f : Int32 → Int32 → Int32) (K : zC) (l : zL) (st : List Value) (k u : Nat) (E : zE) : Prop := match st with | .int y :: .int x :: r => ¬ y = 0 ∧ K l (.int (f x y) :: r) k u E | _ => False
def z_un (f : Int32 → Int32) (K : zC) (l : zL) (st : List Value) (k u : Nat) (E : zE) : Prop := match st with | .int x :: r => K l (.int (f x) :: r) k u E | _ => False
def z_ladd (K : zC) (l : zL) (st : List Value) (k u : Nat) (E : zE) : Prop := match st with | .long y :: .long x :: r => K l (.long (x + y) :: r) k u E | _ => False
def z_dup (K : zC) (l : zL) (st : List Value) (k u : Nat) (E : zE) : Prop := match st with | .int x :: r => K l (.int x :: .int x :: r) k u E | .ref x :: r => K l (.ref x :: .ref x :: r) k u E | _ => False
def z_dup2 (K : zC) (l : zL) (st : List Value) (k u : Nat) (E : zE) : Prop := match st with | .int x :: .ref y :: r => K l (.int x :: .ref y :: .int x :: .ref y :: r) k u E | _ => False
def z_pop (K : zC) (l : zL) (st : List Value) (k u : Nat) (E : zE) : Prop := match st with | .int _ :: r => K l r k u E | _ => False
def z_if (c : Int32 → Prop) (Kt Kf : zC) (l : zL) (st : List Value) (k u : Nat) (E : zE) : Prop := match st with | .int x :: r => (c x → Kt l r k u E) ∧ (¬ c x → Kf l r k u E) | _ => False
def z_icmp (c : Int32 → Int32 → Prop) (Kt Kf : zC) (l : zL) (st : List Value) (k u : Nat) (E : zE) : Prop := match st with | .int y :: .int x :: r => (c x y → Kt l r k u E) ∧ (¬ c x y → Kf l r k u E) | _ => False
def z_sw : List (Int32 × zC) → zC → Int32 → zC
  | [], Kd, _ => Kd
  | (v, K) :: t, Kd, x => fun l st k u E => (x = v → K l st k u E) ∧ (¬ x = v → z_sw t Kd x l st k u E)
def z_switch (t : List (Int32 × zC)) (Kd : zC) (l : zL) (st : List Value) (k u : Nat) (E : zE) : Prop := match st with | .int x :: r => z_sw t Kd x l r k u E | _ => False
def z_get (b n0 ci fk : Nat) (K : zC) (l : zL) (st : List Value) (k u : Nat) (E : zE) : Prop := match st with
  | .ref a :: r => b ≤ a ∧ a - b < n0 + k ∧ (match E (a - b) with | .inr (c, fs) => c = ci ∧ (match fs[fk]? with | some v => K l (v :: r) k u E | none => False) | _ => False)
  | _ => False
def zok : Nat → Value → Prop
  | 0, .int _ => True
  | 1, .ref _ => True
  | 2, .long _ => True
  | 3, .int x => x = 0 ∨ x = 1
  | _, _ => False
def z_put (b n0 ci fk vt : Nat) (K : zC) (l : zL) (st : List Value) (k u : Nat) (E : zE) : Prop := match st with
  | v :: .ref a :: r => b ≤ a ∧ a - b < n0 + k ∧ (match E (a - b) with | .inr (c, fs) => c = ci ∧ fk < fs.length ∧ zok vt v ∧ K l r k u (va_up E (a - b) (.inr (ci, fs.set fk v))) | _ => False)
  | _ => False
def z_ald (b n0 : Nat) (cA : ClassId) (K : zC) (l : zL) (st : List Value) (k u : Nat) (E : zE) : Prop := match st with
  | .int i :: .ref a :: r => b ≤ a ∧ a - b < n0 + k ∧ (match E (a - b) with | .inl (c, len, .inl f) => c = cA ∧ vp_in i len ∧ K l (.int (f i.toNatClampNeg) :: r) k u E | _ => False)
  | _ => False
def z_ast (b n0 : Nat) (cA : ClassId) (g : Int32 → Int32) (K : zC) (l : zL) (st : List Value) (k u : Nat) (E : zE) : Prop := match st with
  | .int x :: .int i :: .ref a :: r => b ≤ a ∧ a - b < n0 + k ∧ (match E (a - b) with | .inl (c, len, .inl f) => c = cA ∧ vp_in i len ∧ K l r k u (va_up E (a - b) (.inl (cA, len, .inl (upd f i.toNatClampNeg (g x))))) | _ => False)
  | _ => False
def z_aald (b n0 : Nat) (cA : ClassId) (K : zC) (l : zL) (st : List Value) (k u : Nat) (E : zE) : Prop := match st with
  | .int i :: .ref a :: r => b ≤ a ∧ a - b < n0 + k ∧ (match E (a - b) with | .inl (c, len, .inr (.inr (.inr (.inr f)))) => c = cA ∧ vp_in i len ∧ K l (va_rf (f i.toNatClampNeg) :: r) k u E | _ => False)
  | _ => False
def z_aast (b n0 : Nat) (cA : ClassId) (ci : Nat) (K : zC) (l : zL) (st : List Value) (k u : Nat) (E : zE) : Prop := match st with
  | .ref v :: .int i :: .ref a :: r => b ≤ a ∧ a - b < n0 + k ∧ b ≤ v ∧ v - b < n0 + k ∧ (match E (v - b) with | .inr (c, _) => c = ci | _ => False) ∧ (match E (a - b) with | .inl (c, len, .inr (.inr (.inr (.inr f)))) => c = cA ∧ vp_in i len ∧ K l r k u (va_up E (a - b) (.inl (cA, len, .inr (.inr (.inr (.inr (va_up f i.toNatClampNeg (some v)))))))) | _ => False)
  | _ => False
def z_copy (b n0 : Nat) (cA : ClassId) (K : zC) (l : zL) (st : List Value) (k u : Nat) (E : zE) : Prop := match st with
  | .int n :: .int dp :: .ref a :: .int sp :: .ref a0 :: r => r.length ≤ 4 ∧ b ≤ a ∧ a - b < n0 + k ∧ b ≤ a0 ∧ a0 - b < n0 + k ∧ dp = 0 ∧ sp = 0 ∧ ¬ n < 0 ∧
    (match E (a0 - b) with
      | .inl (c0, len0, .inl f) => (match E (a - b) with
        | .inl (c1, len1, .inl g) => c0 = cA ∧ c1 = cA ∧ n.toNatClampNeg ≤ len0 ∧ n.toNatClampNeg ≤ len1 ∧ K l r k u (va_up E (a - b) (.inl (cA, len1, .inl (va_cpy f g 0 0 n.toNatClampNeg))))
        | _ => False)
      | _ => False)
  | _ => False
def z_new (b n0 rc rs ci nf : Nat) (fs : List Value) (K : zC) (l : zL) (st : List Value) (k u : Nat) (E : zE) : Prop := k + 1 ≤ rc ∧ u + nf ≤ rs ∧ K l (.ref (b + (n0 + k)) :: st) (k + 1) (u + nf) (va_up E (n0 + k) (.inr (ci, fs)))
def z_newa (b n0 rc rs : Nat) (cA : ClassId) (K : zC) (l : zL) (st : List Value) (k u : Nat) (E : zE) : Prop := match st with
  | .int n :: r => ¬ n < 0 ∧ n.toNatClampNeg ≤ 10000 ∧ k + 1 ≤ rc ∧ u + n.toNatClampNeg ≤ rs ∧ K l (.ref (b + (n0 + k)) :: r) (k + 1) (u + n.toNatClampNeg) (va_up E (n0 + k) (.inl (cA, n.toNatClampNeg, .inl (fun _ => 0))))
  | _ => False
def z_anewa (b n0 rc rs : Nat) (cA : ClassId) (K : zC) (l : zL) (st : List Value) (k u : Nat) (E : zE) : Prop := match st with
  | .int n :: r => ¬ n < 0 ∧ n.toNatClampNeg ≤ 10000 ∧ k + 1 ≤ rc ∧ u + n.toNatClampNeg ≤ rs ∧ K l (.ref (b + (n0 + k)) :: r) (k + 1) (u + n.toNatClampNeg) (va_up E (n0 + k) (.inl (cA, n.toNatClampNeg, .inr (.inr (.inr (.inr (fun _ => none)))))))
  | _ => False
def z_callV (b n0 rc rs : Nat) (cy : zY) (ci na mc ms : Nat) (sp : zSp) (K : zC) (l : zL) (st : List Value) (k u : Nat) (E : zE) : Prop := match st.drop na with
  | .ref a :: r => r.length ≤ 4 ∧ (st.take na).length = na ∧ k + mc ≤ rc ∧ u + ms ≤ rs ∧ b ≤ a ∧ a - b < n0 + k ∧ (match E (a - b) with | .inr (c, _) => c = ci | _ => False) ∧ sp b cy (.ref a :: (st.take na).reverse) (n0 + k) E (fun v E' => K l (v.toList ++ r) (k + mc) (u + ms) E')
  | _ => False
def z_callS (b n0 rc rs : Nat) (cy : zY) (na mc ms : Nat) (sp : zSp) (K : zC) (l : zL) (st : List Value) (k u : Nat) (E : zE) : Prop := (st.drop na).length ≤ 4 ∧ (st.take na).length = na ∧ k + mc ≤ rc ∧ u + ms ≤ rs ∧ sp b cy (st.take na).reverse (n0 + k) E (fun v E' => K l (v.toList ++ st.drop na) (k + mc) (u + ms) E')
def z_iret (mc ms : Nat) (P : zPo) (_ : zL) (st : List Value) (k u : Nat) (E : zE) : Prop := match st with | [.int x] => k = mc ∧ u ≤ ms ∧ P (some (.int x)) E | _ => False
def z_zret (mc ms : Nat) (P : zPo) (_ : zL) (st : List Value) (k u : Nat) (E : zE) : Prop := match st with | [.int x] => k = mc ∧ u ≤ ms ∧ (x = 0 ∨ x = 1) ∧ P (some (.int x)) E | _ => False
def z_lret (mc ms : Nat) (P : zPo) (_ : zL) (st : List Value) (k u : Nat) (E : zE) : Prop := match st with | [.long x] => k = mc ∧ u ≤ ms ∧ P (some (.long x)) E | _ => False
def z_vret (mc ms : Nat) (P : zPo) (_ : zL) (st : List Value) (k u : Nat) (E : zE) : Prop := match st with | [] => k = mc ∧ u ≤ ms ∧ P none E | _ => False
def z_min (rc rs : Nat) (K : zC) (l : zL) (st : List Value) (k u : Nat) (E : zE) : Prop := match st with | .int y :: .int x :: r => r.length ≤ 4 ∧ k ≤ rc ∧ u ≤ rs ∧ K l (.int (if y < x then y else x) :: r) k u E | _ => False
def z_abs (rc rs : Nat) (K : zC) (l : zL) (st : List Value) (k u : Nat) (E : zE) : Prop := match st with | .int x :: r => r.length ≤ 4 ∧ k ≤ rc ∧ u ≤ rs ∧ K l (.int (if 0 ≤ x then x else 0 - x) :: r) k u E | _ => False
def z_oinit (K : zC) (l : zL) (st : List Value) (k u : Nat) (E : zE) : Prop := match st with | .ref _ :: r => r.length ≤ 4 ∧ K l r k u E | _ => False
def z_callI (b n0 rc rs : Nat) (cy : zY) (mc ms : Nat) (sp : zSp) (K : zC) (l : zL) (st : List Value) (k u : Nat) (E : zE) : Prop := match st with | .ref a :: r => r.length ≤ 4 ∧ k + mc ≤ rc ∧ u + ms ≤ rs ∧ sp b cy [.ref a] (n0 + k) E (fun v E' => K l (v.toList ++ r) (k + mc) (u + ms) E') | _ => False
