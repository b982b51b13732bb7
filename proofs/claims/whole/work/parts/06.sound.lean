/-- what the tables say, of classes, arrays and nest mates -/
def zNest : List Cond := [.methodLinkNest RX5 11 yX3_init RX5, .methodLinkNest RX5 18 yX4_init RX5, .methodLinkNest RX5 28 yX0_init RX5, .methodLinkNest RX5 39 yX1_init RX5, .methodLinkNest RX0 9 yX1_init RX5, .methodLinkNest RX2 17 yX1_init RX5]
def zK (D : va_G) (cy : zY) (U : State) : Prop := va_K D vwCl (zty cy) U ∧ va_AO "BellCars$Image" U ∧ va_AO "BellCars$Moment" U ∧ ∀ w ∈ zNest, va_Nw w U
theorem zK.warm {D : va_G} {cy : zY} {s U : State} (hW : s.WarmedH U.vm) (h : zK D cy s) : zK D cy U := by
  refine ⟨va_K.moved hW.alike h.1, h.2.1.moved hW.alike, h.2.2.1.moved hW.alike, fun w hw => ?_⟩
  have h1 := h.2.2.2 w hw
  simp only [zNest, List.mem_cons, List.not_mem_nil, or_false] at hw
  rcases hw with rfl | rfl | rfl | rfl | rfl | rfl <;> exact va_Nw.warmM hW h1
theorem zK.same {D : va_G} {cy : zY} {s U : State} (hv : s.vm = U.vm) (h : zK D cy s) : zK D cy U := by
  refine ⟨va_K.moved (by rw [hv]; exact Vm.Alike.refl _) h.1, h.2.1.moved (by rw [hv]; exact Vm.Alike.refl _), h.2.2.1.moved (by rw [hv]; exact Vm.Alike.refl _), fun w hw => ?_⟩
  have h1 := h.2.2.2 w hw
  simp only [zNest, List.mem_cons, List.not_mem_nil, or_false] at hw
  rcases hw with rfl | rfl | rfl | rfl | rfl | rfl <;> exact va_Nw.same rfl hv h1
/-- a method's contract: from every world and answer wanted that 'sp' allows, it comes to its end, with an answer and a world that are wanted -/
def zPre (D : va_G) (cy : zY) (b n : Nat) (E : zE) (U : State) : Prop := U.heap.size = b + n ∧ va_P D vwCl (zwl b n E) U.heap ∧ zK D cy U
def zQ (D : va_G) (b n : Nat) (P : zPo) : Array Value → State → Outcome → State → Prop := fun _ st oc t => (∃ (v : Option Value) (E' : zE), oc = .returned v ∧ P v E' ∧ va_P D vwCl (zwl b n E') t.heap) ∧ va_F (fun q => b ≤ q) st t
def zMet (la : Launch) (y : MethodName) (ws : List Cond) (rm : Room) (mc ms : Nat) (sp : zSp) : Prop :=
  ∀ (D : va_G) (cy : zY) (b n : Nat) (as : List Value) (E : zE) (P : zPo), sp b cy as n E P → Met la y ws rm (va_Pc as (zPre D cy b n E)) (zQ D b (n + mc) P) mc ms (fun q => b ≤ q)
theorem zPre_blind {D : va_G} {cy : zY} {b n : Nat} {as : List Value} {E : zE} : FrameBlind (va_Pc as (zPre D cy b n E)) := fun a U g mk h => ⟨h.1, h.2.1, h.2.2.1, zK.same (s := U) (U := U.calling g mk a) rfl h.2.2.2⟩
def zgood (as : List Value) (nL : Nat) : Prop := as.length ≤ nL ∧ ∀ v ∈ as, v.category = 1
theorem zgood_args {as : List Value} (h : ∀ v ∈ as, v.category = 1) : ∀ i : Nat, (lg_sl as).length = as.length ∧ (∀ q ∈ lv_args i as, q.2.category = 1 ∧ i ≤ q.1) ∧ ((lv_args i as).map Prod.fst).Nodup := by
  induction as with
  | nil => exact fun i => ⟨rfl, fun q hq => absurd hq List.not_mem_nil, List.nodup_nil⟩
  | cons v t ih =>
    intro i
    have hv := h v List.mem_cons_self
    have hne : ¬ v.category = 2 := by omega
    obtain ⟨h1, h2, h3⟩ := ih (fun w hw => h w (List.mem_cons_of_mem _ hw)) (i + 1)
    have e : lv_args i (v :: t) = (i, v) :: lv_args (i + 1) t := by rw [lv_args, if_neg hne]
    refine ⟨?_, ?_, ?_⟩
    · have : lg_sl (v :: t) = [.val v] ++ lg_sl t := by simp [lg_sl, hne]
      rw [this, List.length_append, h1]; simp; omega
    · rw [e]
      intro q hq
      rcases List.mem_cons.mp hq with rfl | hq
      · exact ⟨hv, Nat.le_refl _⟩
      · have := h2 q hq; exact ⟨this.1, by omega⟩
    · rw [e, List.map_cons, List.nodup_cons]
      refine ⟨fun hm => ?_, h3⟩
      obtain ⟨q, hq, he⟩ := List.mem_map.mp hm
      have := (h2 q hq).2
      have he' : q.1 = i := he
      omega
theorem zok_int : ∀ v, zok 0 v → narrow .int v = v ∧ fits .int v = true := by
  intro v h
  cases v <;> first | exact absurd h id | exact ⟨rfl, rfl⟩
theorem zok_long : ∀ v, zok 2 v → narrow .long v = v ∧ fits .long v = true := by
  intro v h
  cases v <;> first | exact absurd h id | exact ⟨rfl, rfl⟩
theorem zok_obj {C : String} : ∀ v, zok 1 v → narrow (.object C) v = v ∧ fits (.object C) v = true := by
  intro v h
  cases v <;> first | exact absurd h id | exact ⟨rfl, rfl⟩
theorem zok_arr {t : FieldType} : ∀ v, zok 1 v → narrow (.array t) v = v ∧ fits (.array t) v = true := by
  intro v h
  cases v <;> first | exact absurd h id | exact ⟨rfl, rfl⟩
theorem zok_bool : ∀ v, zok 3 v → narrow .boolean v = v ∧ fits .boolean v = true := by
  intro v h
  cases v with
  | int x =>
    have h : x = 0 ∨ x = 1 := h
    rcases h with rfl | rfl <;> exact ⟨rfl, rfl⟩
  | _ => exact absurd h id
section ZS
variable {p : Program} {la : Launch} {e : Env} {R : Room} {s : State} {m : MethodId} {args : Array Value} {below : List Frame} {meth : Method} {c : Code} {Q : State → Prop} {nL : Nat} {D : va_G} {cy : zY} {b n0 : Nat}
/-- from this place, with these locals, this stack and this world, the machine comes to a state with Q -/
def zAt (p : Program) (la : Launch) (e : Env) (R : Room) (s : State) (m : MethodId) (args : Array Value) (below : List Frame) (meth : Method) (c : Code) (Q : State → Prop) (nL : Nat) (D : va_G) (b n0 : Nat) (pc : Nat) : zC := fun l st k u E =>
  ∀ (ls : Array Slot) (H : Heap) (locs : List Loc), zhas ls nL l → va_P D vwCl (zwl b (n0 + k) E) H → va_S (fun q => b ≤ q) s.heap H locs → W p la e R s m args below meth c H locs k u Q (F0 m pc ls st)
def zS (p : Program) (la : Launch) (e : Env) (R : Room) (s : State) (m : MethodId) (args : Array Value) (below : List Frame) (meth : Method) (c : Code) (Q : State → Prop) (nL : Nat) (D : va_G) (b n0 : Nat) (pc : Nat) (K : zC) : Prop := ∀ l st k u E, K l st k u E → zAt p la e R s m args below meth c Q nL D b n0 pc l st k u E
/-- what a method's walk stands on -/
def zX (p : Program) (la : Launch) (e : Env) (R : Room) (s : State) (m : MethodId) (args : Array Value) (below : List Frame) (meth : Method) (c : Code) (nL : Nat) (D : va_G) (cy : zY) (b n0 : Nat) (cc : ByteArray) (Ts : List Cond) (own : String) : Prop :=
  CallFix p m c cc nL s args Ts own ∧ zK D cy s ∧ s.heap.size = b + n0 ∧ meth.locks = false
theorem zS_at {pc : Nat} : zS p la e R s m args below meth c Q nL D b n0 pc (zAt p la e R s m args below meth c Q nL D b n0 pc) := fun _ _ _ _ _ h => h
theorem s_cut {pc : Nat} {ks : List Nat} {K : zC} (hn : ks.Nodup) (h : zS p la e R s m args below meth c Q nL D b n0 pc K) : zS p la e R s m args below meth c Q nL D b n0 pc (z_cut ks K) := by
  intro l st k u E q ls H locs hl
  obtain ⟨r, h1, h2, h3⟩ := zpick_spec q
  exact h r st k u E h1 ls H locs ⟨⟨hl.1.1, hl.1.2.1, fun q hq => hl.1.2.2 q (h2 q hq)⟩, fun q hq => hl.2.1 q (h2 q hq), by rw [h3]; exact hn⟩
variable {cc : ByteArray} {Ts : List Cond} {own : String}
theorem s_iload_n (X : zX p la e R s m args below meth c nL D cy b n0 cc Ts own) {pc i : Nat} {j : Fin 4} {K : zC} (hd : decode cc pc = .ok (.iload_n j, 1)) (hj : (j : Nat) = i) (h : zS p la e R s m args below meth c Q nL D b n0 (pc + 1) K) : zS p la e R s m args below meth c Q nL D b n0 pc (z_iload i K) := by
  intro l st k u E q ls H locs hl hP hS
  obtain ⟨v, hm, hq⟩ := zld_mem q
  cases v with
  | int x => exact lv_iload_n X.1.1 X.1.2.1 hd hj (hl.1.2.2 _ hm) (h _ _ _ _ _ hq ls H locs hl hP hS)
  | _ => exact absurd hq id
theorem s_iload (X : zX p la e R s m args below meth c nL D cy b n0 cc Ts own) {pc i : Nat} {K : zC} (hd : decode cc pc = .ok (.iload i, 2)) (h : zS p la e R s m args below meth c Q nL D b n0 (pc + 2) K) : zS p la e R s m args below meth c Q nL D b n0 pc (z_iload i K) := by
  intro l st k u E q ls H locs hl hP hS
  obtain ⟨v, hm, hq⟩ := zld_mem q
  cases v with
  | int x => exact lv_iload X.1.1 X.1.2.1 hd (hl.1.2.2 _ hm) (h _ _ _ _ _ hq ls H locs hl hP hS)
  | _ => exact absurd hq id
theorem s_aload_n (X : zX p la e R s m args below meth c nL D cy b n0 cc Ts own) {pc i : Nat} {j : Fin 4} {K : zC} (hd : decode cc pc = .ok (.aload_n j, 1)) (hj : (j : Nat) = i) (h : zS p la e R s m args below meth c Q nL D b n0 (pc + 1) K) : zS p la e R s m args below meth c Q nL D b n0 pc (z_aload i K) := by
  intro l st k u E q ls H locs hl hP hS
  obtain ⟨v, hm, hq⟩ := zld_mem q
  cases v with
  | ref x => exact lv_aload_n X.1.1 X.1.2.1 hd hj (hl.1.2.2 _ hm) (h _ _ _ _ _ hq ls H locs hl hP hS)
  | _ => exact absurd hq id
theorem s_istore_n (X : zX p la e R s m args below meth c nL D cy b n0 cc Ts own) {pc i : Nat} {j : Fin 4} {K : zC} (hd : decode cc pc = .ok (.istore_n j, 1)) (hj : (j : Nat) = i) (hi : i < nL) (h : zS p la e R s m args below meth c Q nL D b n0 (pc + 1) K) : zS p la e R s m args below meth c Q nL D b n0 pc (z_istore i K) := by
  intro l st k u E q0 ls H locs hl hP hS
  match st, q0 with
  | .int x :: r, q => exact lv_istore_n X.1.1 X.1.2.1 hd hj hl.1 hi rfl (fun ls' hl' => h _ _ _ _ _ q ls' H locs (zhas_st hl.2.1 hl.2.2 rfl hl') hP hS)
theorem s_istore (X : zX p la e R s m args below meth c nL D cy b n0 cc Ts own) {pc i : Nat} {K : zC} (hd : decode cc pc = .ok (.istore i, 2)) (hi : i < nL) (h : zS p la e R s m args below meth c Q nL D b n0 (pc + 2) K) : zS p la e R s m args below meth c Q nL D b n0 pc (z_istore i K) := by
  intro l st k u E q0 ls H locs hl hP hS
  match st, q0 with
  | .int x :: r, q => exact lv_istore X.1.1 X.1.2.1 hd hl.1 hi rfl (fun ls' hl' => h _ _ _ _ _ q ls' H locs (zhas_st hl.2.1 hl.2.2 rfl hl') hP hS)
theorem s_astore_n (X : zX p la e R s m args below meth c nL D cy b n0 cc Ts own) {pc i : Nat} {j : Fin 4} {K : zC} (hd : decode cc pc = .ok (.astore_n j, 1)) (hj : (j : Nat) = i) (hi : i < nL) (h : zS p la e R s m args below meth c Q nL D b n0 (pc + 1) K) : zS p la e R s m args below meth c Q nL D b n0 pc (z_astore i K) := by
  intro l st k u E q0 ls H locs hl hP hS
  match st, q0 with
  | .ref x :: r, q => exact lv_astore_n X.1.1 X.1.2.1 hd hj hl.1 hi rfl (fun ls' hl' => h _ _ _ _ _ q ls' H locs (zhas_st hl.2.1 hl.2.2 rfl hl') hP hS)
theorem s_iinc (X : zX p la e R s m args below meth c nL D cy b n0 cc Ts own) {pc i : Nat} {n : Int} {d : Int32} {K : zC} (hd : decode cc pc = .ok (.iinc i n, 3)) (hn : Int32.ofInt n = d) (hi : i < nL) (h : zS p la e R s m args below meth c Q nL D b n0 (pc + 3) K) : zS p la e R s m args below meth c Q nL D b n0 pc (z_iinc i d K) := by
  intro l st k u E q ls H locs hl hP hS
  obtain ⟨v, hm, hq⟩ := zld_mem q
  cases v with
  | int x =>
    obtain ⟨t, ht⟩ := List.getElem?_of_mem hm
    exact lv_iinc (k := t) (v := x + d) X.1.1 X.1.2.1 hd hl.1 ht (by rw [hn]) hi rfl (fun ls' hl' => h _ _ _ _ _ hq ls' H locs (zhas_st hl.2.1 hl.2.2 rfl hl') hP hS)
  | _ => exact absurd hq id
theorem s_iconst (X : zX p la e R s m args below meth c nL D cy b n0 cc Ts own) {pc : Nat} {n : Int} {x : Int32} {K : zC} (hd : decode cc pc = .ok (.iconst n, 1)) (hn : Int32.ofInt n = x) (h : zS p la e R s m args below meth c Q nL D b n0 (pc + 1) K) : zS p la e R s m args below meth c Q nL D b n0 pc (z_const x K) :=
  fun l st k u E q ls H locs hl hP hS => lv_iconst X.1.1 X.1.2.1 hd hn (h _ _ _ _ _ q ls H locs hl hP hS)
theorem s_bipush (X : zX p la e R s m args below meth c nL D cy b n0 cc Ts own) {pc : Nat} {n : Int} {x : Int32} {K : zC} (hd : decode cc pc = .ok (.bipush n, 2)) (hn : (Int8.ofInt n).toInt32 = x) (h : zS p la e R s m args below meth c Q nL D b n0 (pc + 2) K) : zS p la e R s m args below meth c Q nL D b n0 pc (z_const x K) :=
  fun l st k u E q ls H locs hl hP hS => lv_bipush X.1.1 X.1.2.1 hd hn (h _ _ _ _ _ q ls H locs hl hP hS)
theorem s_sipush (X : zX p la e R s m args below meth c nL D cy b n0 cc Ts own) {pc : Nat} {n : Int} {x : Int32} {K : zC} (hd : decode cc pc = .ok (.sipush n, 3)) (hn : (Int16.ofInt n).toInt32 = x) (h : zS p la e R s m args below meth c Q nL D b n0 (pc + 3) K) : zS p la e R s m args below meth c Q nL D b n0 pc (z_const x K) :=
  fun l st k u E q ls H locs hl hP hS => lv_sipush X.1.1 X.1.2.1 hd hn (h _ _ _ _ _ q ls H locs hl hP hS)
theorem s_ldc (X : zX p la e R s m args below meth c nL D cy b n0 cc Ts own) {pc i : Nat} {x : Int32} {K : zC} (hd : decode cc pc = .ok (.ldc i, 2)) (hm : Cond.constant own i x ∈ Ts) (h : zS p la e R s m args below meth c Q nL D b n0 (pc + 2) K) : zS p la e R s m args below meth c Q nL D b n0 pc (z_const x K) :=
  fun l st k u E q ls H locs hl hP hS => lv_ldc X.1.1 X.1.2.1 X.1.2.2.2.1 (X.1.2.2.2.2 _ hm) hd (h _ _ _ _ _ q ls H locs hl hP hS)
theorem s_ldcw (X : zX p la e R s m args below meth c nL D cy b n0 cc Ts own) {pc i : Nat} {x : Int32} {K : zC} (hd : decode cc pc = .ok (.ldc_w i, 3)) (hm : Cond.constant own i x ∈ Ts) (h : zS p la e R s m args below meth c Q nL D b n0 (pc + 3) K) : zS p la e R s m args below meth c Q nL D b n0 pc (z_const x K) :=
  fun l st k u E q ls H locs hl hP hS => lv_ldcw X.1.1 X.1.2.1 X.1.2.2.2.1 (X.1.2.2.2.2 _ hm) hd (h _ _ _ _ _ q ls H locs hl hP hS)
theorem s_ldc2 (X : zX p la e R s m args below meth c nL D cy b n0 cc Ts own) {pc i : Nat} {x : Int64} {K : zC} (hd : decode cc pc = .ok (.ldc2_w i, 3)) (hm : Cond.constantLong own i x ∈ Ts) (h : zS p la e R s m args below meth c Q nL D b n0 (pc + 3) K) : zS p la e R s m args below meth c Q nL D b n0 pc (z_lconst x K) :=
  fun l st k u E q ls H locs hl hP hS => lv_ldc2 X.1.1 X.1.2.1 X.1.2.2.2.1 (X.1.2.2.2.2 _ hm) hd (h _ _ _ _ _ q ls H locs hl hP hS)
theorem s_lconst (X : zX p la e R s m args below meth c nL D cy b n0 cc Ts own) {pc : Nat} {n : Fin 2} {x : Int64} {K : zC} (hd : decode cc pc = .ok (.lconst n, 1)) (hn : Int64.ofNat (n : Nat) = x) (h : zS p la e R s m args below meth c Q nL D b n0 (pc + 1) K) : zS p la e R s m args below meth c Q nL D b n0 pc (z_lconst x K) :=
  fun l st k u E q ls H locs hl hP hS => lv_lconst X.1.1 X.1.2.1 hd hn (h _ _ _ _ _ q ls H locs hl hP hS)
theorem s_iadd (X : zX p la e R s m args below meth c nL D cy b n0 cc Ts own) {pc : Nat} {K : zC} (hd : decode cc pc = .ok (.iadd, 1)) (h : zS p la e R s m args below meth c Q nL D b n0 (pc + 1) K) : zS p la e R s m args below meth c Q nL D b n0 pc (z_bin (fun x y => x + y) K) := by
  intro l st k u E q0 ls H locs hl hP hS
  match st, q0 with
  | .int y :: .int x :: r, q => exact lv_iadd X.1.1 X.1.2.1 hd (h _ _ _ _ _ q ls H locs hl hP hS)
theorem s_isub (X : zX p la e R s m args below meth c nL D cy b n0 cc Ts own) {pc : Nat} {K : zC} (hd : decode cc pc = .ok (.isub, 1)) (h : zS p la e R s m args below meth c Q nL D b n0 (pc + 1) K) : zS p la e R s m args below meth c Q nL D b n0 pc (z_bin (fun x y => x - y) K) := by
  intro l st k u E q0 ls H locs hl hP hS
  match st, q0 with
  | .int y :: .int x :: r, q => exact lv_isub X.1.1 X.1.2.1 hd (h _ _ _ _ _ q ls H locs hl hP hS)
theorem s_imul (X : zX p la e R s m args below meth c nL D cy b n0 cc Ts own) {pc : Nat} {K : zC} (hd : decode cc pc = .ok (.imul, 1)) (h : zS p la e R s m args below meth c Q nL D b n0 (pc + 1) K) : zS p la e R s m args below meth c Q nL D b n0 pc (z_bin (fun x y => x * y) K) := by
  intro l st k u E q0 ls H locs hl hP hS
  match st, q0 with
  | .int y :: .int x :: r, q => exact lv_imul X.1.1 X.1.2.1 hd (h _ _ _ _ _ q ls H locs hl hP hS)
theorem s_iand (X : zX p la e R s m args below meth c nL D cy b n0 cc Ts own) {pc : Nat} {K : zC} (hd : decode cc pc = .ok (.iand, 1)) (h : zS p la e R s m args below meth c Q nL D b n0 (pc + 1) K) : zS p la e R s m args below meth c Q nL D b n0 pc (z_bin (fun x y => x &&& y) K) := by
  intro l st k u E q0 ls H locs hl hP hS
  match st, q0 with
  | .int y :: .int x :: r, q => exact lv_iand X.1.1 X.1.2.1 hd (h _ _ _ _ _ q ls H locs hl hP hS)
theorem s_ior (X : zX p la e R s m args below meth c nL D cy b n0 cc Ts own) {pc : Nat} {K : zC} (hd : decode cc pc = .ok (.ior, 1)) (h : zS p la e R s m args below meth c Q nL D b n0 (pc + 1) K) : zS p la e R s m args below meth c Q nL D b n0 pc (z_bin (fun x y => x ||| y) K) := by
  intro l st k u E q0 ls H locs hl hP hS
  match st, q0 with
  | .int y :: .int x :: r, q => exact lv_ior X.1.1 X.1.2.1 hd (h _ _ _ _ _ q ls H locs hl hP hS)
theorem s_ixor (X : zX p la e R s m args below meth c nL D cy b n0 cc Ts own) {pc : Nat} {K : zC} (hd : decode cc pc = .ok (.ixor, 1)) (h : zS p la e R s m args below meth c Q nL D b n0 (pc + 1) K) : zS p la e R s m args below meth c Q nL D b n0 pc (z_bin (fun x y => x ^^^ y) K) := by
  intro l st k u E q0 ls H locs hl hP hS
  match st, q0 with
  | .int y :: .int x :: r, q => exact lv_ixor X.1.1 X.1.2.1 hd (h _ _ _ _ _ q ls H locs hl hP hS)
theorem s_ishl (X : zX p la e R s m args below meth c nL D cy b n0 cc Ts own) {pc : Nat} {K : zC} (hd : decode cc pc = .ok (.ishl, 1)) (h : zS p la e R s m args below meth c Q nL D b n0 (pc + 1) K) : zS p la e R s m args below meth c Q nL D b n0 pc (z_bin (fun x y => x <<< (y &&& 31)) K) := by
  intro l st k u E q0 ls H locs hl hP hS
  match st, q0 with
  | .int y :: .int x :: r, q => exact lv_ishl X.1.1 X.1.2.1 hd (h _ _ _ _ _ q ls H locs hl hP hS)
theorem s_ishr (X : zX p la e R s m args below meth c nL D cy b n0 cc Ts own) {pc : Nat} {K : zC} (hd : decode cc pc = .ok (.ishr, 1)) (h : zS p la e R s m args below meth c Q nL D b n0 (pc + 1) K) : zS p la e R s m args below meth c Q nL D b n0 pc (z_bin (fun x y => x >>> (y &&& 31)) K) := by
  intro l st k u E q0 ls H locs hl hP hS
  match st, q0 with
  | .int y :: .int x :: r, q => exact lv_ishr X.1.1 X.1.2.1 hd (h _ _ _ _ _ q ls H locs hl hP hS)
theorem s_iushr (X : zX p la e R s m args below meth c nL D cy b n0 cc Ts own) {pc : Nat} {K : zC} (hd : decode cc pc = .ok (.iushr, 1)) (h : zS p la e R s m args below meth c Q nL D b n0 (pc + 1) K) : zS p la e R s m args below meth c Q nL D b n0 pc (z_bin (fun x y => (x.toUInt32 >>> (y.toUInt32 &&& Int32.toUInt32 31)).toInt32) K) := by
  intro l st k u E q0 ls H locs hl hP hS
  match st, q0 with
  | .int y :: .int x :: r, q => exact lv_iushr X.1.1 X.1.2.1 hd rfl (h _ _ _ _ _ q ls H locs hl hP hS)
theorem s_idiv (X : zX p la e R s m args below meth c nL D cy b n0 cc Ts own) {pc : Nat} {K : zC} (hd : decode cc pc = .ok (.idiv, 1)) (h : zS p la e R s m args below meth c Q nL D b n0 (pc + 1) K) : zS p la e R s m args below meth c Q nL D b n0 pc (z_bin0 (fun x y => x / y) K) := by
  intro l st k u E q0 ls H locs hl hP hS
  match st, q0 with
  | .int y :: .int x :: r, q => exact lv_idiv X.1.1 X.1.2.1 hd q.1 (h _ _ _ _ _ q.2 ls H locs hl hP hS)
theorem s_irem (X : zX p la e R s m args below meth c nL D cy b n0 cc Ts own) {pc : Nat} {K : zC} (hd : decode cc pc = .ok (.irem, 1)) (h : zS p la e R s m args below meth c Q nL D b n0 (pc + 1) K) : zS p la e R s m args below meth c Q nL D b n0 pc (z_bin0 (fun x y => x - x / y * y) K) := by
  intro l st k u E q0 ls H locs hl hP hS
  match st, q0 with
  | .int y :: .int x :: r, q => exact lv_irem X.1.1 X.1.2.1 hd q.1 (h _ _ _ _ _ q.2 ls H locs hl hP hS)
theorem s_ineg (X : zX p la e R s m args below meth c nL D cy b n0 cc Ts own) {pc : Nat} {K : zC} (hd : decode cc pc = .ok (.ineg, 1)) (h : zS p la e R s m args below meth c Q nL D b n0 (pc + 1) K) : zS p la e R s m args below meth c Q nL D b n0 pc (z_un (fun x => -x) K) := by
  intro l st k u E q0 ls H locs hl hP hS
  match st, q0 with
  | .int x :: r, q => exact lv_ineg X.1.1 X.1.2.1 hd (h _ _ _ _ _ q ls H locs hl hP hS)
theorem s_i2b (X : zX p la e R s m args below meth c nL D cy b n0 cc Ts own) {pc : Nat} {K : zC} (hd : decode cc pc = .ok (.i2b, 1)) (h : zS p la e R s m args below meth c Q nL D b n0 (pc + 1) K) : zS p la e R s m args below meth c Q nL D b n0 pc (z_un (fun x => x.toInt8.toInt32) K) := by
  intro l st k u E q0 ls H locs hl hP hS
  match st, q0 with
  | .int x :: r, q => exact lv_i2b X.1.1 X.1.2.1 hd rfl (h _ _ _ _ _ q ls H locs hl hP hS)
theorem s_ladd (X : zX p la e R s m args below meth c nL D cy b n0 cc Ts own) {pc : Nat} {K : zC} (hd : decode cc pc = .ok (.ladd, 1)) (h : zS p la e R s m args below meth c Q nL D b n0 (pc + 1) K) : zS p la e R s m args below meth c Q nL D b n0 pc (z_ladd K) := by
  intro l st k u E q0 ls H locs hl hP hS
  match st, q0 with
  | .long y :: .long x :: r, q => exact lv_ladd X.1.1 X.1.2.1 hd (h _ _ _ _ _ q ls H locs hl hP hS)
theorem s_dup (X : zX p la e R s m args below meth c nL D cy b n0 cc Ts own) {pc : Nat} {K : zC} (hd : decode cc pc = .ok (.dup, 1)) (h : zS p la e R s m args below meth c Q nL D b n0 (pc + 1) K) : zS p la e R s m args below meth c Q nL D b n0 pc (z_dup K) := by
  intro l st k u E q0 ls H locs hl hP hS
  match st, q0 with
  | .int x :: r, q => exact lv_dup X.1.1 X.1.2.1 hd rfl (h _ _ _ _ _ q ls H locs hl hP hS)
  | .ref x :: r, q => exact lv_dup X.1.1 X.1.2.1 hd rfl (h _ _ _ _ _ q ls H locs hl hP hS)
theorem s_dup2 (X : zX p la e R s m args below meth c nL D cy b n0 cc Ts own) {pc : Nat} {K : zC} (hd : decode cc pc = .ok (.dup2, 1)) (h : zS p la e R s m args below meth c Q nL D b n0 (pc + 1) K) : zS p la e R s m args below meth c Q nL D b n0 pc (z_dup2 K) := by
  intro l st k u E q0 ls H locs hl hP hS
  match st, q0 with
  | .int x :: .ref y :: r, q => exact lv_dup2_11 X.1.1 X.1.2.1 hd rfl rfl (h _ _ _ _ _ q ls H locs hl hP hS)
theorem s_pop (X : zX p la e R s m args below meth c nL D cy b n0 cc Ts own) {pc : Nat} {K : zC} (hd : decode cc pc = .ok (.pop, 1)) (h : zS p la e R s m args below meth c Q nL D b n0 (pc + 1) K) : zS p la e R s m args below meth c Q nL D b n0 pc (z_pop K) := by
  intro l st k u E q0 ls H locs hl hP hS
  match st, q0 with
  | .int x :: r, q => exact lv_pop X.1.1 X.1.2.1 hd rfl (h _ _ _ _ _ q ls H locs hl hP hS)
theorem s_goto (X : zX p la e R s m args below meth c nL D cy b n0 cc Ts own) {pc tgt : Nat} {off : Int} {K : zC} (hd : decode cc pc = .ok (.goto off, 3)) (ht : (pc : Int) + off = (tgt : Int)) (h : zS p la e R s m args below meth c Q nL D b n0 tgt K) : zS p la e R s m args below meth c Q nL D b n0 pc K :=
  fun l st k u E q ls H locs hl hP hS => lv_goto X.1.1 X.1.2.1 hd ht (h _ _ _ _ _ q ls H locs hl hP hS)
theorem s_if_eq (X : zX p la e R s m args below meth c nL D cy b n0 cc Ts own) {pc tgt : Nat} {off : Int} {Kt Kf : zC} (hd : decode cc pc = .ok (.ifCond .eq off, 3)) (ht : (pc : Int) + off = (tgt : Int)) (h1 : zS p la e R s m args below meth c Q nL D b n0 tgt Kt) (h2 : zS p la e R s m args below meth c Q nL D b n0 (pc + 3) Kf) : zS p la e R s m args below meth c Q nL D b n0 pc (z_if (fun x => x = 0) Kt Kf) := by
  intro l st k u E q0 ls H locs hl hP hS
  match st, q0 with
  | .int x :: r, q => exact lv_if_eq X.1.1 X.1.2.1 hd ht (fun w => h1 _ _ _ _ _ (q.1 w) ls H locs hl hP hS) (fun w => h2 _ _ _ _ _ (q.2 w) ls H locs hl hP hS)
theorem s_if_ne (X : zX p la e R s m args below meth c nL D cy b n0 cc Ts own) {pc tgt : Nat} {off : Int} {Kt Kf : zC} (hd : decode cc pc = .ok (.ifCond .ne off, 3)) (ht : (pc : Int) + off = (tgt : Int)) (h1 : zS p la e R s m args below meth c Q nL D b n0 tgt Kt) (h2 : zS p la e R s m args below meth c Q nL D b n0 (pc + 3) Kf) : zS p la e R s m args below meth c Q nL D b n0 pc (z_if (fun x => x = 0) Kf Kt) := by
  intro l st k u E q0 ls H locs hl hP hS
  match st, q0 with
  | .int x :: r, q => exact lv_if_ne X.1.1 X.1.2.1 hd ht (fun w => h1 _ _ _ _ _ (q.2 w) ls H locs hl hP hS) (fun w => h2 _ _ _ _ _ (q.1 w) ls H locs hl hP hS)
theorem s_if_lt (X : zX p la e R s m args below meth c nL D cy b n0 cc Ts own) {pc tgt : Nat} {off : Int} {Kt Kf : zC} (hd : decode cc pc = .ok (.ifCond .lt off, 3)) (ht : (pc : Int) + off = (tgt : Int)) (h1 : zS p la e R s m args below meth c Q nL D b n0 tgt Kt) (h2 : zS p la e R s m args below meth c Q nL D b n0 (pc + 3) Kf) : zS p la e R s m args below meth c Q nL D b n0 pc (z_if (fun x => x < 0) Kt Kf) := by
  intro l st k u E q0 ls H locs hl hP hS
  match st, q0 with
  | .int x :: r, q => exact lv_if_lt X.1.1 X.1.2.1 hd ht (fun w => h1 _ _ _ _ _ (q.1 w) ls H locs hl hP hS) (fun w => h2 _ _ _ _ _ (q.2 w) ls H locs hl hP hS)
theorem s_if_ge (X : zX p la e R s m args below meth c nL D cy b n0 cc Ts own) {pc tgt : Nat} {off : Int} {Kt Kf : zC} (hd : decode cc pc = .ok (.ifCond .ge off, 3)) (ht : (pc : Int) + off = (tgt : Int)) (h1 : zS p la e R s m args below meth c Q nL D b n0 tgt Kt) (h2 : zS p la e R s m args below meth c Q nL D b n0 (pc + 3) Kf) : zS p la e R s m args below meth c Q nL D b n0 pc (z_if (fun x => 0 ≤ x) Kt Kf) := by
  intro l st k u E q0 ls H locs hl hP hS
  match st, q0 with
  | .int x :: r, q => exact lv_if_ge X.1.1 X.1.2.1 hd ht (fun w => h1 _ _ _ _ _ (q.1 w) ls H locs hl hP hS) (fun w => h2 _ _ _ _ _ (q.2 w) ls H locs hl hP hS)
theorem s_if_gt (X : zX p la e R s m args below meth c nL D cy b n0 cc Ts own) {pc tgt : Nat} {off : Int} {Kt Kf : zC} (hd : decode cc pc = .ok (.ifCond .gt off, 3)) (ht : (pc : Int) + off = (tgt : Int)) (h1 : zS p la e R s m args below meth c Q nL D b n0 tgt Kt) (h2 : zS p la e R s m args below meth c Q nL D b n0 (pc + 3) Kf) : zS p la e R s m args below meth c Q nL D b n0 pc (z_if (fun x => 0 < x) Kt Kf) := by
  intro l st k u E q0 ls H locs hl hP hS
  match st, q0 with
  | .int x :: r, q => exact lv_if_gt X.1.1 X.1.2.1 hd ht (fun w => h1 _ _ _ _ _ (q.1 w) ls H locs hl hP hS) (fun w => h2 _ _ _ _ _ (q.2 w) ls H locs hl hP hS)
theorem s_if_le (X : zX p la e R s m args below meth c nL D cy b n0 cc Ts own) {pc tgt : Nat} {off : Int} {Kt Kf : zC} (hd : decode cc pc = .ok (.ifCond .le off, 3)) (ht : (pc : Int) + off = (tgt : Int)) (h1 : zS p la e R s m args below meth c Q nL D b n0 tgt Kt) (h2 : zS p la e R s m args below meth c Q nL D b n0 (pc + 3) Kf) : zS p la e R s m args below meth c Q nL D b n0 pc (z_if (fun x => x ≤ 0) Kt Kf) := by
  intro l st k u E q0 ls H locs hl hP hS
  match st, q0 with
  | .int x :: r, q => exact lv_if_le X.1.1 X.1.2.1 hd ht (fun w => h1 _ _ _ _ _ (q.1 w) ls H locs hl hP hS) (fun w => h2 _ _ _ _ _ (q.2 w) ls H locs hl hP hS)
theorem s_icmp_eq (X : zX p la e R s m args below meth c nL D cy b n0 cc Ts own) {pc tgt : Nat} {off : Int} {Kt Kf : zC} (hd : decode cc pc = .ok (.if_icmp .eq off, 3)) (ht : (pc : Int) + off = (tgt : Int)) (h1 : zS p la e R s m args below meth c Q nL D b n0 tgt Kt) (h2 : zS p la e R s m args below meth c Q nL D b n0 (pc + 3) Kf) : zS p la e R s m args below meth c Q nL D b n0 pc (z_icmp (fun x y => x = y) Kt Kf) := by
  intro l st k u E q0 ls H locs hl hP hS
  match st, q0 with
  | .int y :: .int x :: r, q => exact lv_icmp_eq X.1.1 X.1.2.1 hd ht (fun w => h1 _ _ _ _ _ (q.1 w) ls H locs hl hP hS) (fun w => h2 _ _ _ _ _ (q.2 w) ls H locs hl hP hS)
theorem s_icmp_ne (X : zX p la e R s m args below meth c nL D cy b n0 cc Ts own) {pc tgt : Nat} {off : Int} {Kt Kf : zC} (hd : decode cc pc = .ok (.if_icmp .ne off, 3)) (ht : (pc : Int) + off = (tgt : Int)) (h1 : zS p la e R s m args below meth c Q nL D b n0 tgt Kt) (h2 : zS p la e R s m args below meth c Q nL D b n0 (pc + 3) Kf) : zS p la e R s m args below meth c Q nL D b n0 pc (z_icmp (fun x y => x = y) Kf Kt) := by
  intro l st k u E q0 ls H locs hl hP hS
  match st, q0 with
  | .int y :: .int x :: r, q => exact lv_icmp_ne X.1.1 X.1.2.1 hd ht (fun w => h1 _ _ _ _ _ (q.2 w) ls H locs hl hP hS) (fun w => h2 _ _ _ _ _ (q.1 w) ls H locs hl hP hS)
theorem s_icmp_lt (X : zX p la e R s m args below meth c nL D cy b n0 cc Ts own) {pc tgt : Nat} {off : Int} {Kt Kf : zC} (hd : decode cc pc = .ok (.if_icmp .lt off, 3)) (ht : (pc : Int) + off = (tgt : Int)) (h1 : zS p la e R s m args below meth c Q nL D b n0 tgt Kt) (h2 : zS p la e R s m args below meth c Q nL D b n0 (pc + 3) Kf) : zS p la e R s m args below meth c Q nL D b n0 pc (z_icmp (fun x y => x < y) Kt Kf) := by
  intro l st k u E q0 ls H locs hl hP hS
  match st, q0 with
  | .int y :: .int x :: r, q => exact lv_icmp_lt X.1.1 X.1.2.1 hd ht (fun w => h1 _ _ _ _ _ (q.1 w) ls H locs hl hP hS) (fun w => h2 _ _ _ _ _ (q.2 w) ls H locs hl hP hS)
theorem s_icmp_ge (X : zX p la e R s m args below meth c nL D cy b n0 cc Ts own) {pc tgt : Nat} {off : Int} {Kt Kf : zC} (hd : decode cc pc = .ok (.if_icmp .ge off, 3)) (ht : (pc : Int) + off = (tgt : Int)) (h1 : zS p la e R s m args below meth c Q nL D b n0 tgt Kt) (h2 : zS p la e R s m args below meth c Q nL D b n0 (pc + 3) Kf) : zS p la e R s m args below meth c Q nL D b n0 pc (z_icmp (fun x y => y ≤ x) Kt Kf) := by
  intro l st k u E q0 ls H locs hl hP hS
  match st, q0 with
  | .int y :: .int x :: r, q => exact lv_icmp_ge X.1.1 X.1.2.1 hd ht (fun w => h1 _ _ _ _ _ (q.1 w) ls H locs hl hP hS) (fun w => h2 _ _ _ _ _ (q.2 w) ls H locs hl hP hS)
theorem s_icmp_gt (X : zX p la e R s m args below meth c nL D cy b n0 cc Ts own) {pc tgt : Nat} {off : Int} {Kt Kf : zC} (hd : decode cc pc = .ok (.if_icmp .gt off, 3)) (ht : (pc : Int) + off = (tgt : Int)) (h1 : zS p la e R s m args below meth c Q nL D b n0 tgt Kt) (h2 : zS p la e R s m args below meth c Q nL D b n0 (pc + 3) Kf) : zS p la e R s m args below meth c Q nL D b n0 pc (z_icmp (fun x y => y < x) Kt Kf) := by
  intro l st k u E q0 ls H locs hl hP hS
  match st, q0 with
  | .int y :: .int x :: r, q => exact lv_icmp_gt X.1.1 X.1.2.1 hd ht (fun w => h1 _ _ _ _ _ (q.1 w) ls H locs hl hP hS) (fun w => h2 _ _ _ _ _ (q.2 w) ls H locs hl hP hS)
theorem s_icmp_le (X : zX p la e R s m args below meth c nL D cy b n0 cc Ts own) {pc tgt : Nat} {off : Int} {Kt Kf : zC} (hd : decode cc pc = .ok (.if_icmp .le off, 3)) (ht : (pc : Int) + off = (tgt : Int)) (h1 : zS p la e R s m args below meth c Q nL D b n0 tgt Kt) (h2 : zS p la e R s m args below meth c Q nL D b n0 (pc + 3) Kf) : zS p la e R s m args below meth c Q nL D b n0 pc (z_icmp (fun x y => x ≤ y) Kt Kf) := by
  intro l st k u E q0 ls H locs hl hP hS
  match st, q0 with
  | .int y :: .int x :: r, q => exact lv_icmp_le X.1.1 X.1.2.1 hd ht (fun w => h1 _ _ _ _ _ (q.1 w) ls H locs hl hP hS) (fun w => h2 _ _ _ _ _ (q.2 w) ls H locs hl hP hS)
theorem s_get (X : zX p la e R s m args below meth c nL D cy b n0 cc Ts own) {pc ci fk idx N : Nat} {C : String} {T : u_T} {K : zC} (hd : decode cc pc = .ok (.getfield idx, 3)) (hc : vwCl[ci]? = some (C, T, N)) (hin : ∀ w ∈ u_ws C T N, w ∈ Ts) (hk : fk < N) (hl : Cond.fieldLink own idx (T fk).1 (T fk).2.1 (T fk).2.2.1 ∈ Ts) (h : zS p la e R s m args below meth c Q nL D b n0 (pc + 3) K) : zS p la e R s m args below meth c Q nL D b n0 pc (z_get b n0 ci fk K) := by
  intro l st k u E q0 ls H locs hls hP hS
  match st, q0 with
  | .ref a :: r, q =>
    obtain ⟨h1, h2, q⟩ := q
    obtain ⟨i, rfl⟩ := Nat.exists_eq_add_of_le h1
    rw [Nat.add_sub_cancel_left] at h2 q
    rcases hE : E i with o | ⟨cc1, fs⟩
    · rw [hE] at q; exact absurd q id
    · rw [hE] at q
      obtain ⟨rfl, q⟩ := q
      rcases hv : fs[fk]? with _ | v
      · rw [hv] at q; exact absurd q id
      · rw [hv] at q
        exact va_get X.1.1 X.1.2.1 X.1.2.2.2.2 hin X.1.2.2.2.1 X.2.1.1 hP i (by rw [zwl_at h2, hE]) hc fk hk (X.1.2.2.2.2 _ hl) (fun _ h9 => h9) hv hd (h _ _ _ _ _ q ls H locs hls hP hS)
theorem s_put (X : zX p la e R s m args below meth c nL D cy b n0 cc Ts own) {pc ci fk vt idx N : Nat} {C : String} {T : u_T} {ty0 : Nat → FieldType} {ty : FieldType} {K : zC} (hd : decode cc pc = .ok (.putfield idx, 3)) (hc : vwCl[ci]? = some (C, T, N)) (hin : ∀ w ∈ u_ws C T N, w ∈ Ts) (hty : ∀ k, k < N → parseFieldDescriptor (T k).2.2.1 = some (ty0 k)) (hnm : ∀ a, a < N → ∀ b, b < N → a ≠ b → (T a).2.1 ≠ (T b).2.1) (hk : fk < N) (hl : Cond.fieldLink own idx (T fk).1 (T fk).2.1 (T fk).2.2.1 ∈ Ts) (hfin : (T fk).2.2.2 = false) (hty1 : parseFieldDescriptor (T fk).2.2.1 = some ty) (hfit : ∀ v, zok vt v → narrow ty v = v ∧ fits ty v = true) (h : zS p la e R s m args below meth c Q nL D b n0 (pc + 3) K) : zS p la e R s m args below meth c Q nL D b n0 pc (z_put b n0 ci fk vt K) := by
  intro l st k u E q0 ls H locs hls hP hS
  match st, q0 with
  | v :: .ref a :: r, q =>
    obtain ⟨h1, h2, q⟩ := q
    obtain ⟨i, rfl⟩ := Nat.exists_eq_add_of_le h1
    rw [Nat.add_sub_cancel_left] at h2 q
    rcases hE : E i with o | ⟨cc1, fs⟩
    · rw [hE] at q; exact absurd q id
    · rw [hE] at q
      obtain ⟨rfl, hlen, hok, q⟩ := q
      refine va_put X.1.1 X.1.2.1 X.1.2.2.2.2 hin ty0 hty hnm X.1.2.2.2.1 X.2.1.1 hP zwl_D hS i (by rw [zwl_at h2, hE]) hc fk hk (X.1.2.2.2.2 _ hl) (fun _ h9 => h9) hfin hty1 (hfit v hok).1 (hfit v hok).2 hlen hd (fun H1 locs1 hP1 hD1 hS1 => ?_)
      rw [zwl_set _ h2] at hP1
      exact h _ _ _ _ _ q ls H1 locs1 hls hP1 hS1
theorem s_putF (X : zX p la e R s m args below meth c nL D cy b n0 cc Ts own) {pc ci fk vt idx N : Nat} {C : String} {T : u_T} {ty0 : Nat → FieldType} {ty : FieldType} {K : zC} (hd : decode cc pc = .ok (.putfield idx, 3)) (hinit : meth.name = "<init>") (hc : vwCl[ci]? = some (C, T, N)) (hin : ∀ w ∈ u_ws C T N, w ∈ Ts) (hty : ∀ k, k < N → parseFieldDescriptor (T k).2.2.1 = some (ty0 k)) (hnm : ∀ a, a < N → ∀ b, b < N → a ≠ b → (T a).2.1 ≠ (T b).2.1) (hk : fk < N) (hl : Cond.fieldLink own idx (T fk).1 (T fk).2.1 (T fk).2.2.1 ∈ Ts) (hfin : (T fk).2.2.2 = true) (hown2 : (T fk).1 = own) (hty1 : parseFieldDescriptor (T fk).2.2.1 = some ty) (hfit : ∀ v, zok vt v → narrow ty v = v ∧ fits ty v = true) (h : zS p la e R s m args below meth c Q nL D b n0 (pc + 3) K) : zS p la e R s m args below meth c Q nL D b n0 pc (z_put b n0 ci fk vt K) := by
  intro l st k u E q0 ls H locs hls hP hS
  match st, q0 with
  | v :: .ref a :: r, q =>
    obtain ⟨h1, h2, q⟩ := q
    obtain ⟨i, rfl⟩ := Nat.exists_eq_add_of_le h1
    rw [Nat.add_sub_cancel_left] at h2 q
    rcases hE : E i with o | ⟨cc1, fs⟩
    · rw [hE] at q; exact absurd q id
    · rw [hE] at q
      obtain ⟨rfl, hlen, hok, q⟩ := q
      refine va_putF X.1.1 X.1.2.1 X.1.2.2.2.2 hin ty0 hty hnm X.1.2.2.2.1 X.2.1.1 hP zwl_D hS i (by rw [zwl_at h2, hE]) hc fk hk (X.1.2.2.2.2 _ hl) (fun _ h9 => h9) hfin hinit hown2 hty1 (hfit v hok).1 (hfit v hok).2 hlen hd (fun H1 locs1 hP1 hD1 hS1 => ?_)
      rw [zwl_set _ h2] at hP1
      exact h _ _ _ _ _ q ls H1 locs1 hls hP1 hS1
theorem s_iald (X : zX p la e R s m args below meth c nL D cy b n0 cc Ts own) {pc : Nat} {K : zC} (hd : decode cc pc = .ok (.iaload, 1)) (h : zS p la e R s m args below meth c Q nL D b n0 (pc + 1) K) : zS p la e R s m args below meth c Q nL D b n0 pc (z_ald b n0 (cy 1) K) := by
  intro l st k u E q0 ls H locs hls hP hS
  match st, q0 with
  | .int i :: .ref a :: r, q =>
    obtain ⟨h1, h2, q⟩ := q
    obtain ⟨j, rfl⟩ := Nat.exists_eq_add_of_le h1
    rw [Nat.add_sub_cancel_left] at h2 q
    rcases hE : E j with ⟨c0, len, f | f⟩ | o
    case inl.inr => rw [hE] at q; exact absurd q id
    case inr => rw [hE] at q; exact absurd q id
    · rw [hE] at q
      obtain ⟨rfl, hi, q⟩ := q
      exact va_iald X.1.1 X.1.2.1 X.2.1.1 hP j 1 (by rw [zwl_at h2, hE]) rfl hi hd (h _ _ _ _ _ q ls H locs hls hP hS)
theorem s_bald (X : zX p la e R s m args below meth c nL D cy b n0 cc Ts own) {pc : Nat} {K : zC} (hd : decode cc pc = .ok (.baload, 1)) (h : zS p la e R s m args below meth c Q nL D b n0 (pc + 1) K) : zS p la e R s m args below meth c Q nL D b n0 pc (z_ald b n0 (cy 0) K) := by
  intro l st k u E q0 ls H locs hls hP hS
  match st, q0 with
  | .int i :: .ref a :: r, q =>
    obtain ⟨h1, h2, q⟩ := q
    obtain ⟨j, rfl⟩ := Nat.exists_eq_add_of_le h1
    rw [Nat.add_sub_cancel_left] at h2 q
    rcases hE : E j with ⟨c0, len, f | f⟩ | o
    case inl.inr => rw [hE] at q; exact absurd q id
    case inr => rw [hE] at q; exact absurd q id
    · rw [hE] at q
      obtain ⟨rfl, hi, q⟩ := q
      exact va_bald X.1.1 X.1.2.1 X.2.1.1 hP j 0 (by rw [zwl_at h2, hE]) rfl hi hd (h _ _ _ _ _ q ls H locs hls hP hS)
theorem s_zald (X : zX p la e R s m args below meth c nL D cy b n0 cc Ts own) {pc : Nat} {K : zC} (hd : decode cc pc = .ok (.baload, 1)) (h : zS p la e R s m args below meth c Q nL D b n0 (pc + 1) K) : zS p la e R s m args below meth c Q nL D b n0 pc (z_ald b n0 (cy 2) K) := by
  intro l st k u E q0 ls H locs hls hP hS
  match st, q0 with
  | .int i :: .ref a :: r, q =>
    obtain ⟨h1, h2, q⟩ := q
    obtain ⟨j, rfl⟩ := Nat.exists_eq_add_of_le h1
    rw [Nat.add_sub_cancel_left] at h2 q
    rcases hE : E j with ⟨c0, len, f | f⟩ | o
    case inl.inr => rw [hE] at q; exact absurd q id
    case inr => rw [hE] at q; exact absurd q id
    · rw [hE] at q
      obtain ⟨rfl, hi, q⟩ := q
      exact va_zald X.1.1 X.1.2.1 X.2.1.1 hP j 2 (by rw [zwl_at h2, hE]) rfl hi hd (h _ _ _ _ _ q ls H locs hls hP hS)
theorem s_iast (X : zX p la e R s m args below meth c nL D cy b n0 cc Ts own) {pc : Nat} {K : zC} (hd : decode cc pc = .ok (.iastore, 1)) (h : zS p la e R s m args below meth c Q nL D b n0 (pc + 1) K) : zS p la e R s m args below meth c Q nL D b n0 pc (z_ast b n0 (cy 1) (fun x => x) K) := by
  intro l st k u E q0 ls H locs hls hP hS
  match st, q0 with
  | .int x :: .int i :: .ref a :: r, q =>
    obtain ⟨h1, h2, q⟩ := q
    obtain ⟨j, rfl⟩ := Nat.exists_eq_add_of_le h1
    rw [Nat.add_sub_cancel_left] at h2 q
    rcases hE : E j with ⟨c0, len, f | f⟩ | o
    case inl.inr => rw [hE] at q; exact absurd q id
    case inr => rw [hE] at q; exact absurd q id
    · rw [hE] at q
      obtain ⟨rfl, hi, q⟩ := q
      refine va_iast X.1.1 X.1.2.1 X.2.1.1 hP zwl_D hS j 1 (by rw [zwl_at h2, hE]) rfl hi hd (fun H1 locs1 hP1 hD1 hS1 => ?_)
      rw [zwl_set _ h2] at hP1
      exact h _ _ _ _ _ q ls H1 locs1 hls hP1 hS1
theorem s_bast (X : zX p la e R s m args below meth c nL D cy b n0 cc Ts own) {pc : Nat} {K : zC} (hd : decode cc pc = .ok (.bastore, 1)) (h : zS p la e R s m args below meth c Q nL D b n0 (pc + 1) K) : zS p la e R s m args below meth c Q nL D b n0 pc (z_ast b n0 (cy 0) (fun x => vp_nar .byte x) K) := by
  intro l st k u E q0 ls H locs hls hP hS
  match st, q0 with
  | .int x :: .int i :: .ref a :: r, q =>
    obtain ⟨h1, h2, q⟩ := q
    obtain ⟨j, rfl⟩ := Nat.exists_eq_add_of_le h1
    rw [Nat.add_sub_cancel_left] at h2 q
    rcases hE : E j with ⟨c0, len, f | f⟩ | o
    case inl.inr => rw [hE] at q; exact absurd q id
    case inr => rw [hE] at q; exact absurd q id
    · rw [hE] at q
      obtain ⟨rfl, hi, q⟩ := q
      refine va_bast X.1.1 X.1.2.1 X.2.1.1 hP zwl_D hS j 0 (by rw [zwl_at h2, hE]) rfl hi hd (fun H1 locs1 hP1 hD1 hS1 => ?_)
      rw [zwl_set _ h2] at hP1
      exact h _ _ _ _ _ q ls H1 locs1 hls hP1 hS1
theorem s_zast (X : zX p la e R s m args below meth c nL D cy b n0 cc Ts own) {pc : Nat} {K : zC} (hd : decode cc pc = .ok (.bastore, 1)) (h : zS p la e R s m args below meth c Q nL D b n0 (pc + 1) K) : zS p la e R s m args below meth c Q nL D b n0 pc (z_ast b n0 (cy 2) (fun x => vp_nar .boolean x) K) := by
  intro l st k u E q0 ls H locs hls hP hS
  match st, q0 with
  | .int x :: .int i :: .ref a :: r, q =>
    obtain ⟨h1, h2, q⟩ := q
    obtain ⟨j, rfl⟩ := Nat.exists_eq_add_of_le h1
    rw [Nat.add_sub_cancel_left] at h2 q
    rcases hE : E j with ⟨c0, len, f | f⟩ | o
    case inl.inr => rw [hE] at q; exact absurd q id
    case inr => rw [hE] at q; exact absurd q id
    · rw [hE] at q
      obtain ⟨rfl, hi, q⟩ := q
      refine va_zast X.1.1 X.1.2.1 X.2.1.1 hP zwl_D hS j 2 (by rw [zwl_at h2, hE]) rfl hi hd (fun H1 locs1 hP1 hD1 hS1 => ?_)
      rw [zwl_set _ h2] at hP1
      exact h _ _ _ _ _ q ls H1 locs1 hls hP1 hS1
theorem s_aald (X : zX p la e R s m args below meth c nL D cy b n0 cc Ts own) {pc t0 : Nat} {C : String} {cA : ClassId} {K : zC} (hd : decode cc pc = .ok (.aaload, 1)) (ht : (zty cy)[t0]? = some (cA, .object C)) (h : zS p la e R s m args below meth c Q nL D b n0 (pc + 1) K) : zS p la e R s m args below meth c Q nL D b n0 pc (z_aald b n0 cA K) := by
  intro l st k u E q0 ls H locs hls hP hS
  match st, q0 with
  | .int i :: .ref a :: r, q =>
    obtain ⟨h1, h2, q⟩ := q
    obtain ⟨j, rfl⟩ := Nat.exists_eq_add_of_le h1
    rw [Nat.add_sub_cancel_left] at h2 q
    rcases hE : E j with ⟨c0, len, f | f | f | f | f⟩ | o
    case inl.inr.inr.inr.inr =>
      rw [hE] at q
      obtain ⟨rfl, hi, q⟩ := q
      exact va_aldq X.1.1 X.1.2.1 X.2.1.1 hP j t0 (by rw [zwl_at h2, hE]) ht hi hd (h _ _ _ _ _ q ls H locs hls hP hS)
    all_goals (rw [hE] at q; exact absurd q id)
theorem s_aast (X : zX p la e R s m args below meth c nL D cy b n0 cc Ts own) {pc t0 ci : Nat} {rr : vw_C} {cA : ClassId} {K : zC} (hd : decode cc pc = .ok (.aastore, 1)) (hc : vwCl[ci]? = some rr) (ht : (zty cy)[t0]? = some (cA, .object rr.1)) (h : zS p la e R s m args below meth c Q nL D b n0 (pc + 1) K) : zS p la e R s m args below meth c Q nL D b n0 pc (z_aast b n0 cA ci K) := by
  intro l st k u E q0 ls H locs hls hP hS
  match st, q0 with
  | .ref v :: .int i :: .ref a :: r, q =>
    obtain ⟨h1, h2, h3, h4, q2, q⟩ := q
    obtain ⟨j, rfl⟩ := Nat.exists_eq_add_of_le h1
    obtain ⟨jv, rfl⟩ := Nat.exists_eq_add_of_le h3
    rw [Nat.add_sub_cancel_left] at h2 h4 q q2
    rcases hV : E jv with o | ⟨cv, fv⟩
    · rw [hV] at q2; exact absurd q2 id
    rw [hV] at q2
    replace q2 : cv = ci := q2
    subst q2
    rcases hE : E j with ⟨c0, len, f | f | f | f | f⟩ | o
    case inl.inr.inr.inr.inr =>
      rw [hE] at q
      obtain ⟨rfl, hi, q⟩ := q
      refine va_astq X.1.1 X.1.2.1 X.2.1.1 hP zwl_D hS j t0 jv cv (by rw [zwl_at h2, hE]) ht (by rw [zwl_at h4, hV]) hc hi hd (fun H1 locs1 hP1 hD1 hS1 => ?_)
      rw [zwl_set _ h2] at hP1
      exact h _ _ _ _ _ q ls H1 locs1 hls hP1 hS1
    all_goals (rw [hE] at q; exact absurd q id)
theorem z_cat {st : List Value} (h : st.length ≤ 4) : (st.map fun v => v.category).sum ≤ 8 := by
  have h2 : ∀ st : List Value, (st.map fun v => v.category).sum ≤ 2 * st.length := by
    intro st
    induction st with
    | nil => simp
    | cons v t ih =>
      rw [List.map_cons, List.sum_cons, List.length_cons]
      have : v.category ≤ 2 := by rcases lv_cat v with h | h <;> omega
      omega
  have := h2 st
  omega
theorem z_fits_int : ∀ i : Nat, ∀ (f : Nat → Int32), fits .int (.int (f i)) = true := fun _ _ => rfl
theorem s_copy (X : zX p la e R s m args below meth c nL D cy b n0 cc Ts own) {pc idx : Nat} {K : zC} (hd : decode cc pc = .ok (.invokestatic idx, 3)) (hl : Cond.methodLink own idx arraycopyName ∈ Ts) (hn : Cond.native arraycopyName ∈ Ts) (hs : Cond.static arraycopyName ∈ Ts) (hi : Cond.initialized "java/lang/System" ∈ Ts) (hf : 1 ≤ R.frames) (hr : 40 ≤ R.locals) (h : zS p la e R s m args below meth c Q nL D b n0 (pc + 3) K) : zS p la e R s m args below meth c Q nL D b n0 pc (z_copy b n0 (cy 1) K) := by
  intro l st k u E q0 ls H locs hls hP hS
  match st, q0 with
  | .int n :: .int dp :: .ref a :: .int sp :: .ref a0 :: r, q =>
    obtain ⟨hlen, h1, h2, h3, h4, rfl, rfl, hn0, q⟩ := q
    obtain ⟨j, rfl⟩ := Nat.exists_eq_add_of_le h1
    obtain ⟨j0, rfl⟩ := Nat.exists_eq_add_of_le h3
    rw [Nat.add_sub_cancel_left] at h2 h4 q
    rcases hE0 : E j0 with ⟨c0, len0, f | f⟩ | o
    case inl.inr => rw [hE0] at q; exact absurd q id
    case inr => rw [hE0] at q; exact absurd q id
    · rw [hE0] at q
      replace q : (match E (b + j - b) with | .inl (c1, len1, .inl g) => c0 = cy 1 ∧ c1 = cy 1 ∧ n.toNatClampNeg ≤ len0 ∧ n.toNatClampNeg ≤ len1 ∧ K l r k u (va_up E (b + j - b) (.inl (cy 1, len1, .inl (va_cpy f g 0 0 n.toNatClampNeg)))) | _ => False) := q
      rw [Nat.add_sub_cancel_left] at q
      rcases hE : E j with ⟨c1, len1, g | g⟩ | o
      case inl.inr => rw [hE] at q; exact absurd q id
      case inr => rw [hE] at q; exact absurd q id
      · rw [hE] at q
        obtain ⟨rfl, rfl, hn1, hn2, q⟩ := q
        have hc := z_cat hlen
        have e0 : (0 : Int32).toNatClampNeg = 0 := rfl
        refine va_copyi (sp := 0) (dp := 0) X.1.1 X.1.2.1 (by rw [X.1.2.2.1]; exact hls.1.1.symm) X.1.2.2.2.1 (X.1.2.2.2.2 _ hl) (X.1.2.2.2.2 _ hn) (X.1.2.2.2.2 _ hs) (X.1.2.2.2.2 _ hi) X.2.1.1 hP zwl_D hS j0 j 1 1 (by rw [zwl_at h4, hE0]) (by rw [zwl_at h2, hE]) rfl rfl rfl (by decide) (by decide) hn0 (by rw [e0]; omega) (by rw [e0]; omega) (fun _ _ => rfl) hf ?_ hd (fun H1 locs1 hP1 hD1 hS1 => ?_)
        · have : nativeFrameWords "java/lang/System" "arraycopy" 5 ≤ 20 := by decide +kernel
          omega
        · rw [zwl_set _ h2] at hP1
          exact h _ _ _ _ _ q ls H1 locs1 hls hP1 hS1
theorem z_size (X : zX p la e R s m args below meth c nL D cy b n0 cc Ts own) {H : Heap} {locs : List Loc} {k u : Nat} {E : zE} {g : JFrame} (hP : va_P D vwCl (zwl b (n0 + k) E) H) (hS : va_S (fun q => b ≤ q) s.heap H locs) (kk : H.size = b + (n0 + k) → W p la e R s m args below meth c H locs k u Q g) : W p la e R s m args below meth c H locs k u Q g := by
  intro T hT Xs
  refine kk ?_ T hT Xs
  have h1 : H.size ≤ s.heap.size + k := by rw [← hT]; exact Xs.same.2.2.1
  have h2 : b + (n0 + k) ≤ H.size := by
    by_cases e : n0 + k = 0
    · have := hS.1
      have h5 := X.2.2.1
      omega
    · have h6 : n0 + k - 1 < n0 + k := by omega
      have h7 := (hP _ _ (zwl_at (b := b) (E := E) h6)).lt
      show _ ≤ _
      have h8 : b + (n0 + k - 1) < H.size := h7
      omega
  have h5 := X.2.2.1
  omega
theorem z_fresh (X : zX p la e R s m args below meth c nL D cy b n0 cc Ts own) {H H1 : Heap} {k : Nat} {E : zE} {a : Nat} {e0 : va_E} (hP : va_P D vwCl (zwl b (n0 + k) E) H) (hP1 : va_P D vwCl (zwl b (n0 + k) E ++ [(a, e0)]) H1) (hD1 : va_D (fun q => b ≤ q) (zwl b (n0 + k) E ++ [(a, e0)])) (hz : H1.size ≤ s.heap.size + (k + 1)) : a = b + (n0 + k) := by
  have hl : (zwl b (n0 + k) E ++ [(a, e0)])[n0 + k]? = some (a, e0) := by
    rw [List.getElem?_append_right (by rw [zwl_len]; exact Nat.le_refl _), zwl_len, Nat.sub_self]
    rfl
  have h1 : a < H1.size := (hP1 _ _ hl).lt
  have h2 : b ≤ a := hD1.2 _ _ hl
  have h5 := X.2.2.1
  rcases Nat.lt_or_ge a (b + (n0 + k)) with h3 | h3
  · exfalso
    have h4 : a - b < n0 + k := by omega
    have h6 : (zwl b (n0 + k) E ++ [(a, e0)])[a - b]? = some (b + (a - b), E (a - b)) := by
      rw [List.getElem?_append_left (by rw [zwl_len]; exact h4)]
      exact zwl_at h4
    have h7 := hD1.1 _ _ _ _ h6 hl (by show b + (a - b) = a; omega)
    omega
  · omega
theorem s_table (X : zX p la e R s m args below meth c nL D cy b n0 cc Ts own) {pc len tgt : Nat} {dflt lo hi : Int} {offs : Array Int} {t : List (Int32 × zC)} {Kd : zC} (hd : decode cc pc = .ok (.tableswitch dflt lo hi offs, len))
    (ht : ∀ (x : Int32), (∀ q ∈ t, ¬ x = q.1) → x.toInt < lo ∨ hi < x.toInt) (htd : (pc : Int) + dflt = (tgt : Int)) (hKd : zS p la e R s m args below meth c Q nL D b n0 tgt Kd)
    (hc : ∀ q ∈ t, ∃ (off : Int) (tg : Nat), ¬ q.1.toInt < lo ∧ ¬ hi < q.1.toInt ∧ offs[(q.1.toInt - lo).toNat]? = some off ∧ (pc : Int) + off = (tg : Int) ∧ zS p la e R s m args below meth c Q nL D b n0 tg q.2) : zS p la e R s m args below meth c Q nL D b n0 pc (z_switch t Kd) := by
  intro l st k u E q0 ls H locs hls hP hS
  match st, q0 with
  | .int x :: r, q =>
    have key : ∀ t' : List (Int32 × zC), z_sw t' Kd x l r k u E → (∃ v K, (v, K) ∈ t' ∧ x = v ∧ K l r k u E) ∨ ((∀ v K, (v, K) ∈ t' → ¬ x = v) ∧ Kd l r k u E) := by
      intro t'
      induction t' with
      | nil => exact fun h => Or.inr ⟨fun v K h => absurd h List.not_mem_nil, h⟩
      | cons w t' ih =>
        obtain ⟨v, K⟩ := w
        intro h
        by_cases e : x = v
        · exact Or.inl ⟨v, K, List.mem_cons_self, e, h.1 e⟩
        · rcases ih (h.2 e) with ⟨v', K', h1, h2, h3⟩ | ⟨h1, h2⟩
          · exact Or.inl ⟨v', K', List.mem_cons_of_mem _ h1, h2, h3⟩
          · refine Or.inr ⟨fun v' K' hm => ?_, h2⟩
            rcases List.mem_cons.mp hm with e2 | e2
            · cases e2; exact e
            · exact h1 v' K' e2
    rcases key t q with ⟨v, K, h1, rfl, h3⟩ | ⟨h1, h2⟩
    · obtain ⟨off, tg, g1, g2, g3, g4, g5⟩ := hc (x, K) h1
      exact lv_tableIn X.1.1 X.1.2.1 hd g1 g2 g3 g4 (g5 _ _ _ _ _ h3 ls H locs hls hP hS)
    · exact lv_tableOut X.1.1 X.1.2.1 hd (ht x (fun q hq => h1 q.1 q.2 hq)) htd (hKd _ _ _ _ _ h2 ls H locs hls hP hS)
theorem s_lookup (X : zX p la e R s m args below meth c nL D cy b n0 cc Ts own) {pc len tgt : Nat} {dflt : Int} {ps : Array (Int × Int)} {t : List (Int32 × zC)} {Kd : zC} (hd : decode cc pc = .ok (.lookupswitch dflt ps, len)) (hp : (ps.toList.zip (ps.toList.drop 1)).all (fun (a, next) => a.1 < next.1) = true)
    (ht : ∀ (x : Int32), (∀ q ∈ t, ¬ x = q.1) → Op.lookupswitch.offset ps.toList dflt x.toInt = dflt) (htd : (pc : Int) + dflt = (tgt : Int)) (hKd : zS p la e R s m args below meth c Q nL D b n0 tgt Kd)
    (hc : ∀ q ∈ t, ∃ (off : Int) (tg : Nat), Op.lookupswitch.offset ps.toList dflt q.1.toInt = off ∧ (pc : Int) + off = (tg : Int) ∧ zS p la e R s m args below meth c Q nL D b n0 tg q.2) : zS p la e R s m args below meth c Q nL D b n0 pc (z_switch t Kd) := by
  intro l st k u E q0 ls H locs hls hP hS
  match st, q0 with
  | .int x :: r, q =>
    have key : ∀ t' : List (Int32 × zC), z_sw t' Kd x l r k u E → (∃ v K, (v, K) ∈ t' ∧ x = v ∧ K l r k u E) ∨ ((∀ v K, (v, K) ∈ t' → ¬ x = v) ∧ Kd l r k u E) := by
      intro t'
      induction t' with
      | nil => exact fun h => Or.inr ⟨fun v K h => absurd h List.not_mem_nil, h⟩
      | cons w t' ih =>
        obtain ⟨v, K⟩ := w
        intro h
        by_cases e : x = v
        · exact Or.inl ⟨v, K, List.mem_cons_self, e, h.1 e⟩
        · rcases ih (h.2 e) with ⟨v', K', h1, h2, h3⟩ | ⟨h1, h2⟩
          · exact Or.inl ⟨v', K', List.mem_cons_of_mem _ h1, h2, h3⟩
          · refine Or.inr ⟨fun v' K' hm => ?_, h2⟩
            rcases List.mem_cons.mp hm with e2 | e2
            · cases e2; exact e
            · exact h1 v' K' e2
    rcases key t q with ⟨v, K, h1, rfl, h3⟩ | ⟨h1, h2⟩
    · obtain ⟨off, tg, g1, g2, g3⟩ := hc (x, K) h1
      exact lv_lookup X.1.1 X.1.2.1 hd hp g1 g2 (g3 _ _ _ _ _ h3 ls H locs hls hP hS)
    · exact lv_lookup X.1.1 X.1.2.1 hd hp (ht x (fun q hq => h1 q.1 q.2 hq)) htd (hKd _ _ _ _ _ h2 ls H locs hls hP hS)
theorem s_min (X : zX p la e R s m args below meth c nL D cy b n0 cc Ts own) {pc idx : Nat} {K : zC} (hd : decode cc pc = .ok (.invokestatic idx, 3)) (hl : Cond.methodLink own idx Lib.Math.min.name ∈ Ts) (hs : Cond.static Lib.Math.min.name ∈ Ts) (hi : Cond.initialized "java/lang/Math" ∈ Ts) (hco : Cond.code Lib.Math.min.name Lib.Math.min.code 2 (some .int) ∈ Ts) (hf : 1 ≤ R.frames) (hr : 40 ≤ R.locals) (h : zS p la e R s m args below meth c Q nL D b n0 (pc + 3) K) : zS p la e R s m args below meth c Q nL D b n0 pc (z_min R.cells R.slots K) := by
  intro l st k u E q0 ls H locs hls hP hS
  match st, q0 with
  | .int y :: .int x :: r, q =>
    obtain ⟨hlen, hc1, hs1, q⟩ := q
    have hc := z_cat hlen
    exact va_mmin X.1.1 X.1.2.1 (by rw [X.1.2.2.1]; exact hls.1.1.symm) X.1.2.2.2.1 (X.1.2.2.2.2 _ hl) (X.1.2.2.2.2 _ hs) (X.1.2.2.2.2 _ hi) (X.1.2.2.2.2 _ hco) hf (by omega) hc1 hs1 hd (h _ _ _ _ _ q ls H locs hls hP hS)
theorem s_abs (X : zX p la e R s m args below meth c nL D cy b n0 cc Ts own) {pc idx : Nat} {K : zC} (hd : decode cc pc = .ok (.invokestatic idx, 3)) (hl : Cond.methodLink own idx Lib.Math.abs.name ∈ Ts) (hs : Cond.static Lib.Math.abs.name ∈ Ts) (hi : Cond.initialized "java/lang/Math" ∈ Ts) (hco : Cond.code Lib.Math.abs.name Lib.Math.abs.code 1 (some .int) ∈ Ts) (hf : 1 ≤ R.frames) (hr : 40 ≤ R.locals) (h : zS p la e R s m args below meth c Q nL D b n0 (pc + 3) K) : zS p la e R s m args below meth c Q nL D b n0 pc (z_abs R.cells R.slots K) := by
  intro l st k u E q0 ls H locs hls hP hS
  match st, q0 with
  | .int x :: r, q =>
    obtain ⟨hlen, hc1, hs1, q⟩ := q
    have hc := z_cat hlen
    exact va_mabs X.1.1 X.1.2.1 (by rw [X.1.2.2.1]; exact hls.1.1.symm) X.1.2.2.2.1 (X.1.2.2.2.2 _ hl) (X.1.2.2.2.2 _ hs) (X.1.2.2.2.2 _ hi) (X.1.2.2.2.2 _ hco) hf (by omega) hc1 hs1 hd (h _ _ _ _ _ q ls H locs hls hP hS)
theorem s_objInit (X : zX p la e R s m args below meth c nL D cy b n0 cc Ts own) {pc idx : Nat} {K : zC} (hd : decode cc pc = .ok (.invokespecial idx, 3)) (hl : Cond.methodLink own idx Lib.objectInit ∈ Ts) (hs : Cond.instanceMethod Lib.objectInit ∈ Ts) (hco : Cond.code Lib.objectInit ⟨#[0xb1]⟩ 1 none ∈ Ts) (hf : 1 ≤ R.frames) (hr : 40 ≤ R.locals) (h : zS p la e R s m args below meth c Q nL D b n0 (pc + 3) K) : zS p la e R s m args below meth c Q nL D b n0 pc (z_oinit K) := by
  intro l st k u E q0 ls H locs hls hP hS
  match st, q0 with
  | .ref a :: r, q =>
    obtain ⟨hlen, q⟩ := q
    have hc := z_cat hlen
    exact W.objInit X.1.1 X.1.2.1 X.1.2.2.2.1 (X.1.2.2.2.2 _ hl) (X.1.2.2.2.2 _ hs) (X.1.2.2.2.2 _ hco) rfl (by rw [X.1.2.2.1]; exact hls.1.1) rfl hd hf (by show 2 * 0 + _ + 12 ≤ _; omega) (h _ _ _ _ _ q ls H locs hls hP hS)
theorem s_new (X : zX p la e R s m args below meth c nL D cy b n0 cc Ts own) {pc ci nf idx : Nat} {C : String} {T : u_T} {ty0 : Nat → FieldType} {fs : List Value} {K : zC} (hd : decode cc pc = .ok (.new idx, 3)) (hc : vwCl[ci]? = some (C, T, nf)) (hin : ∀ w ∈ u_ws C T nf, w ∈ Ts) (hty : ∀ k, k < nf → parseFieldDescriptor (T k).2.2.1 = some (ty0 k)) (hcl : Cond.classLink own idx C ∈ Ts) (hins : Cond.instantiable C nf ∈ Ts) (hini : Cond.initialized C ∈ Ts) (hfs : ∀ j, j < nf → defaultValue (ty0 j) = vp_V fs j) (h : zS p la e R s m args below meth c Q nL D b n0 (pc + 3) K) : zS p la e R s m args below meth c Q nL D b n0 pc (z_new b n0 R.cells R.slots ci nf fs K) := by
  intro l st k u E q ls H locs hls hP hS
  obtain ⟨h1, h2, q⟩ := q
  refine va_new X.1.1 X.1.2.1 X.1.2.2.2.2 hin ty0 hty X.1.2.2.2.1 (X.1.2.2.2.2 _ hcl) (X.1.2.2.2.2 _ hins) (X.1.2.2.2.2 _ hini) X.2.1.1 hP zwl_D hS (fun q hq => by have := X.2.2.1; show b ≤ q; omega) hc hfs h1 h2 hd (fun a H1 hP1 hD1 hS1 => ?_)
  intro T hT Xs
  obtain rfl := z_fresh X hP hP1 hD1 (by rw [← hT]; exact Xs.same.2.2.1)
  rw [zwl_push] at hP1
  exact h _ _ _ _ _ q ls H1 locs hls hP1 hS1 T hT Xs
theorem s_newa (X : zX p la e R s m args below meth c nL D cy b n0 cc Ts own) {pc t0 : Nat} {atype : ArrayType} {ty : FieldType} {cA : ClassId} {K : zC} (hd : decode cc pc = .ok (.newarray atype, 2)) (hty : newarray.typeOf atype = ty) (ht : (zty cy)[t0]? = some (cA, ty)) (hcl : Cond.arrayClass ty ∈ Ts) (hby : componentBytes ty ≤ 8) (hnm : ∀ c1 c2, va_RA s c1 ty → va_RA s c2 ty → c1 = c2) (hcell : ∀ (c0 : ClassId) (N : Nat), vp_cell c0 (N, .inl (fun _ => 0)) = arrV c0 N (fun _ => defaultValue ty)) (h : zS p la e R s m args below meth c Q nL D b n0 (pc + 2) K) : zS p la e R s m args below meth c Q nL D b n0 pc (z_newa b n0 R.cells R.slots cA K) := by
  intro l st k u E q0 ls H locs hls hP hS
  match st, q0 with
  | .int n :: r, q =>
    obtain ⟨hn0, hn1, h1, h2, q⟩ := q
    refine va_newa (N' := n.toNatClampNeg) (a0 := (n.toNatClampNeg, .inl (fun _ => 0))) X.1.1 X.1.2.1 (by rw [hty]; exact X.1.2.2.2.2 _ hcl) hty X.2.1.1 hP zwl_D hS (fun q hq => by have := X.2.2.1; show b ≤ q; omega) (fun c0 => hcell c0 _) hn0 rfl (by have := Nat.mul_le_mul hn1 hby; omega) h1 h2 hd (fun a c1 H1 hK1 hP1 hD1 hS1 => ?_)
    have e1 : c1 = cA := hnm _ _ (hK1.2 5 (c1, ty) rfl).2 (X.2.1.1.2 t0 _ ht).2
    subst e1
    intro T hT Xs
    obtain rfl := z_fresh X hP hP1 hD1 (by rw [← hT]; exact Xs.same.2.2.1)
    rw [zwl_push] at hP1
    exact h _ _ _ _ _ q ls H1 locs hls hP1 hS1 T hT Xs
theorem s_anewa (X : zX p la e R s m args below meth c nL D cy b n0 cc Ts own) {pc t0 idx : Nat} {C : String} {cA : ClassId} {K : zC} (hd : decode cc pc = .ok (.anewarray idx, 3)) (ht : (zty cy)[t0]? = some (cA, .object C)) (hcl : Cond.classLink own idx C ∈ Ts) (hao : zK D cy s → va_AO C s) (h : zS p la e R s m args below meth c Q nL D b n0 (pc + 3) K) : zS p la e R s m args below meth c Q nL D b n0 pc (z_anewa b n0 R.cells R.slots cA K) := by
  intro l st k u E q0 ls H locs hls hP hS
  match st, q0 with
  | .int n :: r, q =>
    obtain ⟨hn0, hn1, h1, h2, q⟩ := q
    refine va_newq (N' := n.toNatClampNeg) X.1.1 X.1.2.1 X.1.2.2.2.1 (X.1.2.2.2.2 _ hcl) (hao X.2.1) X.2.1.1 hP zwl_D hS (fun q hq => by have := X.2.2.1; show b ≤ q; omega) hn0 rfl (by omega) h1 h2 hd (fun a c1 H1 hK1 hP1 hD1 hS1 => ?_)
    have e1 : c1 = cA := by
      obtain ⟨_, _, _, _, _, f1⟩ := (hK1.2 5 (c1, .object C) rfl).2
      obtain ⟨_, _, _, _, _, f2⟩ := (X.2.1.1.2 t0 _ ht).2
      exact Option.some.inj (f1.symm.trans f2)
    subst e1
    intro T hT Xs
    obtain rfl := z_fresh X hP hP1 hD1 (by rw [← hT]; exact Xs.same.2.2.1)
    rw [zwl_push] at hP1
    exact h _ _ _ _ _ q ls H1 locs hls hP1 hS1 T hT Xs
theorem s_iret (X : zX p la e R s m args below meth c nL D cy b n0 cc Ts own) {pc mc ms : Nat} {P : zPo} (hd : decode cc pc = .ok (.ireturn, 1)) (hr : meth.sig.returnType = some .int) : zS p la e R s m args below meth c (MQ below (zQ D b (n0 + mc) P) args s mc ms (fun q => b ≤ q)) nL D b n0 pc (z_iret mc ms P) := by
  intro l st k u E q0 ls H locs hls hP hS
  match st, q0 with
  | [.int x], q =>
    obtain ⟨rfl, hu, q⟩ := q
    refine W.widen (Nat.le_refl _) hu ?_
    exact W.iret X.1.1 X.1.2.1 hr (fun t ht hW => ⟨⟨some (.int x), E, rfl, q, by rw [ht]; exact hP⟩, hS.F ht⟩) hS.2.2 hd X.2.2.2
theorem s_lret (X : zX p la e R s m args below meth c nL D cy b n0 cc Ts own) {pc mc ms : Nat} {P : zPo} (hd : decode cc pc = .ok (.lreturn, 1)) (hr : meth.sig.returnType = some .long) : zS p la e R s m args below meth c (MQ below (zQ D b (n0 + mc) P) args s mc ms (fun q => b ≤ q)) nL D b n0 pc (z_lret mc ms P) := by
  intro l st k u E q0 ls H locs hls hP hS
  match st, q0 with
  | [.long x], q =>
    obtain ⟨rfl, hu, q⟩ := q
    refine W.widen (Nat.le_refl _) hu ?_
    exact W.lret X.1.1 X.1.2.1 hr (fun t ht hW => ⟨⟨some (.long x), E, rfl, q, by rw [ht]; exact hP⟩, hS.F ht⟩) hS.2.2 hd X.2.2.2
theorem s_zret (X : zX p la e R s m args below meth c nL D cy b n0 cc Ts own) {pc mc ms : Nat} {P : zPo} (hd : decode cc pc = .ok (.ireturn, 1)) (hr : meth.sig.returnType = some .boolean) : zS p la e R s m args below meth c (MQ below (zQ D b (n0 + mc) P) args s mc ms (fun q => b ≤ q)) nL D b n0 pc (z_zret mc ms P) := by
  intro l st k u E q0 ls H locs hls hP hS
  match st, q0 with
  | [.int x], q =>
    obtain ⟨rfl, hu, hx, q⟩ := q
    refine W.widen (Nat.le_refl _) hu ?_
    exact W.zret X.1.1 X.1.2.1 hr (by rcases hx with rfl | rfl <;> rfl) (fun t ht hW => ⟨⟨some (.int x), E, rfl, q, by rw [ht]; exact hP⟩, hS.F ht⟩) hS.2.2 hd X.2.2.2
theorem s_vret (X : zX p la e R s m args below meth c nL D cy b n0 cc Ts own) {pc mc ms : Nat} {P : zPo} (hd : decode cc pc = .ok (.return_, 1)) (hr : meth.sig.returnType = none) : zS p la e R s m args below meth c (MQ below (zQ D b (n0 + mc) P) args s mc ms (fun q => b ≤ q)) nL D b n0 pc (z_vret mc ms P) := by
  intro l st k u E q0 ls H locs hls hP hS
  match st, q0 with
  | [], q =>
    obtain ⟨rfl, hu, q⟩ := q
    refine W.widen (Nat.le_refl _) hu ?_
    exact W.vret X.1.1 X.1.2.1 hr (fun t ht hW => ⟨⟨none, E, rfl, q, by rw [ht]; exact hP⟩, hS.F ht⟩) hS.2.2 hd X.2.2.2
theorem z_after {H : Heap} {locs : List Loc} {k u mc ms : Nat} {pc : Nat} {ls : Array Slot} {st r : List Value} {l : zL} {K : zC} {P : zPo} {av : Array Value} (hls : zhas ls nL l) (hS : va_S (fun q => b ≤ q) s.heap H locs)
    (hrun : va_Run p la e R s m args below meth c H locs k u mc ms (F0 m pc ls st) r (zQ D b (n0 + k + mc) P av) (fun q => b ≤ q)) (hPK : ∀ v E', P v E' → K l (v.toList ++ r) (k + mc) (u + ms) E') (h : zS p la e R s m args below meth c Q nL D b n0 (pc + 3) K) : W p la e R s m args below meth c H locs k u Q (F0 m pc ls st) := by
  intro T hT Xs
  obtain ⟨v, st₀, t, T', L, h0, X', hL, e1, e2, ⟨⟨v', E', hv, hp, hP'⟩, hz, hk⟩, st'⟩ := hrun T hT Xs
  cases hv
  rw [h0] at hz hk
  obtain ⟨t2, a1, b1⟩ := h _ _ _ _ _ (hPK _ _ hp) ls T'.heap (locs ++ L) hls (by rw [e1, ← Nat.add_assoc]; exact hP')
    ⟨Nat.le_trans hS.1 (by rw [e1]; exact hz), fun q h1 h2 => by rw [e1, hk q (Nat.lt_of_lt_of_le h1 hS.1) h2]; exact hS.2.1 q h1 h2, fun q hq => by
      rcases List.mem_append.mp hq with h | h
      · exact hS.2.2 q h
      · exact hL q h⟩ T' rfl X'
  exact ⟨t2, st' t2 a1, b1⟩
theorem s_callV (X : zX p la e R s m args below meth c nL D cy b n0 cc Ts own) {pc idx ci na mc ms maxL N : Nat} {C : String} {T0 : u_T} {y : MethodName} {ws ws' : List Cond} {rm : Room} {bytes : ByteArray} {ret : Option FieldType} {sp : zSp} {K : zC} (hM : zMet la y ws rm mc ms sp) (hd : decode cc pc = .ok (.invokevirtual idx, 3)) (hc : vwCl[ci]? = some (C, T0, N)) (hG : GoodIn Ts (wsV own idx C y ws)) (hw : ws = Cond.code y bytes maxL ret :: ws') (hrc : rm.cells = mc) (hrs : rm.slots = ms)
    (hdd : y.cls = C ∧ y.cls ≠ "java/lang/invoke/MethodHandle" ∧ y.cls ≠ "java/lang/invoke/VarHandle" ∧ (parseMethodDescriptor y.desc).map (fun d => d.parameters.length) = some na) (hR : rm.frames + 1 ≤ R.frames ∧ 8 + (maxL + 11) + rm.locals ≤ R.locals) (h : zS p la e R s m args below meth c Q nL D b n0 (pc + 3) K) : zS p la e R s m args below meth c Q nL D b n0 pc (z_callV b n0 R.cells R.slots cy ci na mc ms sp K) := by
  intro l st k u E q0 ls H locs hls hP hS
  unfold z_callV at q0
  match hst : st.drop na, q0 with
  | .ref a :: r, q =>
    obtain ⟨hlen, hna, hc1, hs1, h1, h2, hE, hsp⟩ := q
    obtain ⟨j, rfl⟩ := Nat.exists_eq_add_of_le h1
    rw [Nat.add_sub_cancel_left] at h2 hE
    refine z_size X hP hS (fun hz => ?_)
    rcases hEj : E j with o | ⟨cj, fj⟩
    · rw [hEj] at hE; exact absurd hE id
    · rw [hEj] at hE
      replace hE : cj = ci := hE
      subst hE
      have hrun := va_runV (e := e) (R := R) (below := below) (meth := meth) (H := H) (locs := locs) (cells := k) (slots := u) (g := F0 m pc ls st) (As := (st.take na).reverse) (rest := r) (b := b + j) X.1 (hM D cy b (n0 + k) _ E _ hsp) (cwV na X.1.2.2.2.2 hG hw hrc hrs hdd hR)
        ⟨zPre_blind, va_recv X.2.1.1 hP hc (by rw [zwl_at h2, hEj]), fun U hU hW => ⟨rfl, by rw [hU]; exact hz, by rw [hU]; exact hP, X.2.1.warm hW⟩⟩ rfl (by rw [List.length_reverse]; exact hna) hls.1.1 (by rw [List.reverse_reverse, ← hst, List.take_append_drop]) (lv_room (z_cat hlen)) hd ⟨hc1, hs1⟩
      exact z_after hls hS hrun (fun v E' hv => hv) h
theorem s_callS (X : zX p la e R s m args below meth c nL D cy b n0 cc Ts own) {pc idx na mc ms maxL : Nat} {y : MethodName} {ws ws' : List Cond} {rm : Room} {bytes : ByteArray} {ret : Option FieldType} {sp : zSp} {K : zC} (hM : zMet la y ws rm mc ms sp) (hd : decode cc pc = .ok (.invokestatic idx, 3)) (hG : GoodIn Ts (va_wsS own idx y ws)) (hw : ws = Cond.code y bytes maxL ret :: ws') (hrc : rm.cells = mc) (hrs : rm.slots = ms)
    (hdd : y.cls ≠ "java/lang/invoke/MethodHandle" ∧ y.cls ≠ "java/lang/invoke/VarHandle" ∧ (parseMethodDescriptor y.desc).map (fun d => d.parameters.length) = some na) (hR : rm.frames + 1 ≤ R.frames ∧ 8 + (maxL + 11) + rm.locals ≤ R.locals) (h : zS p la e R s m args below meth c Q nL D b n0 (pc + 3) K) : zS p la e R s m args below meth c Q nL D b n0 pc (z_callS b n0 R.cells R.slots cy na mc ms sp K) := by
  intro l st k u E q ls H locs hls hP hS
  obtain ⟨hlen, hna, hc1, hs1, hsp⟩ := q
  refine z_size X hP hS (fun hz => ?_)
  have hrun := va_runS (e := e) (R := R) (below := below) (meth := meth) (H := H) (locs := locs) (cells := k) (slots := u) (g := F0 m pc ls st) (As := (st.take na).reverse) (rest := st.drop na) X.1 (hM D cy b (n0 + k) _ E _ hsp) (va_cwS na X.1.2.2.2.2 hG hw hrc hrs hdd hR)
    ⟨zPre_blind, fun U hU hW => ⟨rfl, by rw [hU]; exact hz, by rw [hU]; exact hP, X.2.1.warm hW⟩⟩ rfl (by rw [List.length_reverse]; exact hna) hls.1.1 (by rw [List.reverse_reverse, List.take_append_drop]) (lv_room (z_cat hlen)) hd ⟨hc1, hs1⟩
  exact z_after hls hS hrun (fun v E' hv => hv) h
theorem s_callI (X : zX p la e R s m args below meth c nL D cy b n0 cc Ts own) {pc idx mc ms maxL : Nat} {y : MethodName} {ws ws' : List Cond} {rm : Room} {bytes : ByteArray} {sp : zSp} {K : zC} (hM : zMet la y ws rm mc ms sp) (hd : decode cc pc = .ok (.invokespecial idx, 3)) (hG : GoodIn Ts ws) (hw : ws = Cond.code y bytes maxL none :: ws') (hrc : rm.cells = mc) (hrs : rm.slots = ms) (hini : Cond.initialized y.cls ∈ Ts) (hl : Cond.methodLink own idx y ∈ Ts) (hin : Cond.instanceMethod y ∈ Ts) (hy1 : y.name = "<init>")
    (hdd : y.cls ≠ "java/lang/invoke/MethodHandle" ∧ y.cls ≠ "java/lang/invoke/VarHandle" ∧ (parseMethodDescriptor y.desc).map (fun d => d.parameters.length) = some 0) (hR : rm.frames + 1 ≤ R.frames ∧ 8 + (maxL + 11) + rm.locals ≤ R.locals) (h : zS p la e R s m args below meth c Q nL D b n0 (pc + 3) K) : zS p la e R s m args below meth c Q nL D b n0 pc (z_callI b n0 R.cells R.slots cy mc ms sp K) := by
  intro l st k u E q0 ls H locs hls hP hS
  match st, q0 with
  | .ref a :: r, q =>
    obtain ⟨hlen, hc1, hs1, hsp⟩ := q
    refine z_size X hP hS (fun hz => ?_)
    have hrun := va_runI (e := e) (R := R) (below := below) (meth := meth) (H := H) (locs := locs) (cells := k) (slots := u) (g := F0 m pc ls (.ref a :: r)) (As := []) (b := a) (rest := r) X.1 (hM D cy b (n0 + k) _ E _ hsp) (cwI 0 X.1.2.2.2.2 hG hw hrc hrs (X.1.2.2.2.2 _ hini) (X.1.2.2.2.2 _ hl) (X.1.2.2.2.2 _ hin) hy1 hdd hR)
      ⟨zPre_blind, fun U hU hW => ⟨rfl, by rw [hU]; exact hz, by rw [hU]; exact hP, X.2.1.warm hW⟩⟩ rfl rfl hls.1.1 rfl (lv_room (z_cat hlen)) hd ⟨hc1, hs1⟩
    exact z_after hls hS hrun (fun v E' hv => hv) h
theorem s_callN (X : zX p la e R s m args below meth c nL D cy b n0 cc Ts own) {pc idx mc ms maxL : Nat} {y : MethodName} {host : String} {ws ws' : List Cond} {rm : Room} {bytes : ByteArray} {sp : zSp} {K : zC} (hM : zMet la y ws rm mc ms sp) (hd : decode cc pc = .ok (.invokespecial idx, 3)) (hG : GoodIn Ts ws) (hw : ws = Cond.code y bytes maxL none :: ws') (hrc : rm.cells = mc) (hrs : rm.slots = ms) (hini : Cond.initialized y.cls ∈ Ts) (hl : Cond.methodLinkNest own idx y host ∈ zNest) (hin : Cond.instanceMethod y ∈ Ts) (hy1 : y.name = "<init>")
    (hdd : y.cls ≠ "java/lang/invoke/MethodHandle" ∧ y.cls ≠ "java/lang/invoke/VarHandle" ∧ (parseMethodDescriptor y.desc).map (fun d => d.parameters.length) = some 0) (hR : rm.frames + 1 ≤ R.frames ∧ 8 + (maxL + 11) + rm.locals ≤ R.locals) (h : zS p la e R s m args below meth c Q nL D b n0 (pc + 3) K) : zS p la e R s m args below meth c Q nL D b n0 pc (z_callI b n0 R.cells R.slots cy mc ms sp K) := by
  intro l st k u E q0 ls H locs hls hP hS
  match st, q0 with
  | .ref a :: r, q =>
    obtain ⟨hlen, hc1, hs1, hsp⟩ := q
    refine z_size X hP hS (fun hz => ?_)
    have hrun := va_runIN (e := e) (R := R) (below := below) (meth := meth) (H := H) (locs := locs) (cells := k) (slots := u) (g := F0 m pc ls (.ref a :: r)) (As := []) (b := a) (rest := r) (n := 0) X.1 (hM D cy b (n0 + k) _ E _ hsp) ⟨va_cnB 0 X.1.2.2.2.2 hG hw hrc hrs (X.2.1.2.2.2 _ hl) (X.1.2.2.2.2 _ hini) hdd hR, hy1, X.1.2.2.2.2 _ hin⟩
      ⟨zPre_blind, fun U hU hW => ⟨rfl, by rw [hU]; exact hz, by rw [hU]; exact hP, X.2.1.warm hW⟩⟩ rfl rfl hls.1.1 rfl (lv_room (z_cat hlen)) hd ⟨hc1, hs1⟩
    exact z_after hls hS hrun (fun v E' hv => hv) h
end ZS
theorem z_of {la : Launch} {y : MethodName} {ws ws' : List Cond} {rm : Room} {mc ms maxL : Nat} {sp : zSp} {cc : ByteArray} {ret : Option FieldType} (hy : plainName y.cls = true) (hw : ws = Cond.code y cc maxL ret :: ws')
    (body : ∀ (p : Program) (e : Env) (s : State) (m : MethodId) (args : Array Value) (below : List Frame) (meth : Method) (c : Code) (D : va_G) (cy : zY) (b n : Nat) (as : List Value) (E : zE) (P : zPo), sp b cy as n E P → zX p la e rm s m args below meth c maxL D cy b n cc ws y.cls → meth.sig.returnType = ret → (y.name = "<init>" → meth.name = "<init>") →
      zgood as maxL ∧ zAt p la e rm s m args below meth c (MQ below (zQ D b (n + mc) P) args s mc ms (fun q => b ≤ q)) maxL D b n 0 (lv_args 0 as) [] 0 0 E) : zMet la y ws rm mc ms sp := by
  intro D cy b n as E P hsp
  refine Met.ofW (cc := cc) (maxL := maxL) (ret := ret) hy hw ?_
  intro p e s m args below meth c s₁ B hml hv
  obtain ⟨rfl, hz, hP, hK⟩ := hv
  have hts := atoms_spec (ws := ws) B.pre
  have hown : s.vm.findClass y.cls = some m.cls := findClass_of_methodNamed B.named
  have X : zX p la e rm s m as.toArray below meth c maxL D cy b n cc ws y.cls := ⟨⟨B.exec, B.bytes, hml, hown, hts⟩, hK, hz, B.notSynchronized⟩
  obtain ⟨⟨g1, g2⟩, hat⟩ := body p e s m as.toArray below meth c D cy b n as E P hsp X B.returns (fun h => by rw [← h]; exact (name_of_methodNamed B.named B.method).1)
  obtain ⟨f1, f2, f3⟩ := zgood_args g2 0
  have hl := lv_entry as (n := maxL) (by rw [f1]; exact g1)
  rw [lg_entry_eq]
  exact hat _ s.heap [] ⟨hl, fun q hq => (f2 q hq).1, f3⟩ hP va_S.rf
