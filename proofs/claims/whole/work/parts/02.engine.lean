
/-! locals by their slots -/
def lvT (L : List (Option Value)) : List (Nat × Value) := (List.range L.length).filterMap (fun k => (L[k]?.join).map (fun v => (k, v)))
theorem lvT_mem {L : List (Option Value)} {k : Nat} {v : Value} : (k, v) ∈ lvT L ↔ L[k]? = some (some v) := by
  unfold lvT
  rw [List.mem_filterMap]
  constructor
  · rintro ⟨j, hj, h⟩
    cases hL : L[j]? with
    | none => rw [hL] at h; simp at h
    | some o =>
      cases o with
      | none => rw [hL] at h; simp at h
      | some w =>
        rw [hL] at h
        simp at h
        obtain ⟨rfl, rfl⟩ := h
        exact hL
  · intro h
    refine ⟨k, ?_, ?_⟩
    · have := (List.getElem?_eq_some_iff.mp h).1
      simpa using this
    · rw [h]; rfl
def lvh (ls : Array Slot) (n : Nat) (L : List (Option Value)) : Prop := lv_has ls n (lvT L)
theorem lvh_at {ls : Array Slot} {n : Nat} {L : List (Option Value)} (h : lvh ls n L) {k : Nat} {v : Value} (hk : L[k]? = some (some v)) : ls[k]? = some (.val v) := h.2.2 (k, v) (lvT_mem.mpr hk)
def okp (L : List (Option Value)) (i : Nat) : Bool := match i with
  | 0 => true
  | j + 1 => match L[j]? with
    | some (some w) => w.category != 2
    | _ => true
theorem okp_ne {L : List (Option Value)} {k i : Nat} {w : Value} (ho : okp L i = true) (hk : L[k]? = some (some w)) (e : k + 1 = i) : ¬ w.category = 2 := by
  subst e
  unfold okp at ho
  simp only [hk] at ho
  simpa using ho
theorem lvh_st1 {ls : Array Slot} {n i : Nat} {v : Value} {L : List (Option Value)} (h : lv_has ls n ((i, v) :: (lvT L).filter (fun q => !(q.1 == i) && !(q.1 + 1 == i && q.2.category == 2)))) (ho : okp L i = true) : lvh ls n (L.set i (some v)) := by
  refine ⟨h.1, h.2.1, fun q hq => ?_⟩
  obtain ⟨k, w⟩ := q
  rw [lvT_mem] at hq
  by_cases hk : k = i
  · subst hk
    by_cases hl : k < L.length
    · rw [List.getElem?_set_self hl] at hq
      cases hq
      exact h.2.2 (k, v) List.mem_cons_self
    · rw [List.getElem?_eq_none (by simpa using hl)] at hq
      cases hq
  · rw [List.getElem?_set_ne (fun e => hk e.symm)] at hq
    refine h.2.2 (k, w) (List.mem_cons_of_mem _ (List.mem_filter.mpr ⟨lvT_mem.mpr hq, ?_⟩))
    have h2 := fun e => okp_ne ho hq e
    simp [hk]
    exact (Classical.em (k + 1 = i)).elim (fun e => Or.inr (h2 e)) Or.inl
theorem lvh_st2 {ls : Array Slot} {n i : Nat} {v : Value} {L : List (Option Value)} (h : lv_has ls n ((i, v) :: (lvT L).filter (fun q => !(q.1 == i) && (!(q.1 == i + 1) && !(q.1 + 1 == i && q.2.category == 2))))) (ho : okp L i = true) : lvh ls n ((L.set i (some v)).set (i + 1) none) := by
  refine ⟨h.1, h.2.1, fun q hq => ?_⟩
  obtain ⟨k, w⟩ := q
  rw [lvT_mem] at hq
  by_cases hk1 : k = i + 1
  · subst hk1
    by_cases hl : i + 1 < (L.set i (some v)).length
    · rw [List.getElem?_set_self hl] at hq
      cases hq
    · rw [List.getElem?_eq_none (by simpa using hl)] at hq
      cases hq
  · rw [List.getElem?_set_ne (fun e => hk1 e.symm)] at hq
    by_cases hk : k = i
    · subst hk
      by_cases hl : k < L.length
      · rw [List.getElem?_set_self hl] at hq
        cases hq
        exact h.2.2 (k, v) List.mem_cons_self
      · rw [List.getElem?_eq_none (by simpa using hl)] at hq
        cases hq
    · rw [List.getElem?_set_ne (fun e => hk e.symm)] at hq
      refine h.2.2 (k, w) (List.mem_cons_of_mem _ (List.mem_filter.mpr ⟨lvT_mem.mpr hq, ?_⟩))
      have h2 := fun e => okp_ne ho hq e
      simp [hk, hk1]
      exact (Classical.em (k + 1 = i)).elim (fun e => Or.inr (h2 e)) Or.inl
theorem lv_args_mem : ∀ (vs : List Value) (i k : Nat) (v : Value), (∀ w ∈ vs, w.category = 1) → vs[k]? = some v → (i + k, v) ∈ lv_args i vs
  | [], i, k, v, _, h => by simp at h
  | a :: vs, i, k, v, hc, h => by
    have ha : a.category = 1 := hc a List.mem_cons_self
    unfold lv_args
    rw [if_neg (by omega)]
    cases k with
    | zero => simp at h; subst h; exact List.mem_cons_self
    | succ k =>
      have h1 : vs[k]? = some v := by simpa using h
      have := lv_args_mem vs (i + 1) k v (fun w hw => hc w (List.mem_cons_of_mem _ hw)) h1
      rw [show i + (k + 1) = i + 1 + k by omega]
      exact List.mem_cons_of_mem _ this
theorem lg_sl_len : ∀ (vs : List Value), (∀ w ∈ vs, w.category = 1) → (lg_sl vs).length = vs.length
  | [], _ => rfl
  | a :: vs, hc => by
    have ha : a.category = 1 := hc a List.mem_cons_self
    have ih := lg_sl_len vs (fun w hw => hc w (List.mem_cons_of_mem _ hw))
    simp [lg_sl, ha] at ih ⊢
    exact ih
/-! the judgement: the machine at pc with locals L, operands S, and the world ws -/
def J (p : Program) (l : Launch) (e : Env) (R : Room) (s : State) (m : MethodId) (args : Array Value) (below : List Frame) (meth : Method) (c : Code) (cells slots : Nat) (Q : State → Prop) (n : Nat) (D : va_G) (A : Nat → Prop) (pc : Nat) (L : List (Option Value)) (S : List Value) (ws : va_W) : Prop :=
  ∀ (H : Heap) (locs : List Loc) (ls : Array Slot), lvh ls n L → va_P D vwCl ws H → va_D A ws → va_S A s.heap H locs → W p l e R s m args below meth c H locs cells slots Q (F0 m pc ls S)
def tyA (cI cO : ClassId) : List (ClassId × FieldType) := [(cI, .int), (cO, .object "CountLearner$Table")]
def Cx (p : Program) (R : Room) (s : State) (m : MethodId) (args : Array Value) (meth : Method) (c : Code) (cells slots : Nat) (n : Nat) (D : va_G) (A : Nat → Prop) (cc : ByteArray) (own : String) (Ts : List Cond) (ret : Option FieldType) (cI cO : ClassId) : Prop :=
  p.tables.exec = Jvm.exec ∧ c.code = cc ∧ c.maxLocals = n ∧ s.vm.findClass own = some m.cls ∧ (∀ w ∈ Ts, w.before args s = true) ∧ meth.locks = false ∧ va_K D vwCl (tyA cI cO) s ∧ meth.sig.returnType = ret ∧ cells ≤ R.cells ∧ slots ≤ R.slots ∧ (∀ q : Nat, s.heap.size ≤ q → A q)
def rmH (h : Nat) : Room := { frames := h, cells := 0, slots := 0, locals := 34 * h }
def Qg {σ : Type} (D : va_G) (wf : σ → va_W) (post : Option Value → σ → Prop) (A : Nat → Prop) : Array Value → State → Outcome → State → Prop := fun _ st oc t => (∃ (v : Option Value) (u : σ), oc = .returned v ∧ post v u ∧ va_P D vwCl (wf u) t.heap) ∧ va_F A st t
def Kt (l : Launch) (y : MethodName) (wsd : List Cond) (h : Nat) {σ : Type} (wf : σ → va_W) (D : va_G) (cI cO : ClassId) (X : State → Prop) (vs : List Value) (u : σ) (post : Option Value → σ → Prop) : Prop :=
  ∀ sz : Nat, Met l y wsd (rmH h) (va_Pc vs (fun U => U.heap.size = sz ∧ va_P D vwCl (wf u) U.heap ∧ va_K D vwCl (tyA cI cO) U ∧ va_D (fun _ => True) (wf u) ∧ X U)) (Qg D wf post (va_A (wf u) sz)) 0 0 (va_A (wf u) sz)
def RQ {σ : Type} (below : List Frame) (args : Array Value) (s : State) (D : va_G) (wf : σ → va_W) (post : Option Value → σ → Prop) (A : Nat → Prop) : State → Prop := MQ below (Qg D wf post A) args s 0 0 A
section ENG
variable {p : Program} {l : Launch} {e : Env} {R : Room} {s : State} {m : MethodId} {args : Array Value} {below : List Frame} {meth : Method} {c : Code} {cells slots : Nat} {Q : State → Prop} {n : Nat} {D : va_G} {A : Nat → Prop} {cc : ByteArray} {own : String} {Ts : List Cond} {ret : Option FieldType} {cI cO : ClassId} {pc pc' : Nat} {L : List (Option Value)} {S : List Value} {ws : va_W}
theorem j_iconst {z : Int} (C : Cx p R s m args meth c cells slots n D A cc own Ts ret cI cO) (hd : decode cc pc = .ok (.iconst z, 1)) (hp : pc + 1 = pc') (v : Int32) (hv : Int32.ofInt z = v)
    (k : J p l e R s m args below meth c cells slots Q n D A (pc') (L) (.int v :: S) (ws)) : J p l e R s m args below meth c cells slots Q n D A (pc) (L) (S) (ws) := by
  subst hp; intro H locs ls hl hP hD hS; exact lv_iconst C.1 C.2.1 hd hv (k H locs ls hl hP hD hS)
theorem j_bipush {z : Int} (C : Cx p R s m args meth c cells slots n D A cc own Ts ret cI cO) (hd : decode cc pc = .ok (.bipush z, 2)) (hp : pc + 2 = pc') (v : Int32) (hv : (Int8.ofInt z).toInt32 = v)
    (k : J p l e R s m args below meth c cells slots Q n D A (pc') (L) (.int v :: S) (ws)) : J p l e R s m args below meth c cells slots Q n D A (pc) (L) (S) (ws) := by
  subst hp; intro H locs ls hl hP hD hS; exact lv_bipush C.1 C.2.1 hd hv (k H locs ls hl hP hD hS)
theorem j_sipush {z : Int} (C : Cx p R s m args meth c cells slots n D A cc own Ts ret cI cO) (hd : decode cc pc = .ok (.sipush z, 3)) (hp : pc + 3 = pc') (v : Int32) (hv : (Int16.ofInt z).toInt32 = v)
    (k : J p l e R s m args below meth c cells slots Q n D A (pc') (L) (.int v :: S) (ws)) : J p l e R s m args below meth c cells slots Q n D A (pc) (L) (S) (ws) := by
  subst hp; intro H locs ls hl hP hD hS; exact lv_sipush C.1 C.2.1 hd hv (k H locs ls hl hP hD hS)
theorem j_lconst {z : Fin 2} (C : Cx p R s m args meth c cells slots n D A cc own Ts ret cI cO) (hd : decode cc pc = .ok (.lconst z, 1)) (hp : pc + 1 = pc') (v : Int64) (hv : Int64.ofNat (z : Nat) = v)
    (k : J p l e R s m args below meth c cells slots Q n D A (pc') (L) (.long v :: S) (ws)) : J p l e R s m args below meth c cells slots Q n D A (pc) (L) (S) (ws) := by
  subst hp; intro H locs ls hl hP hD hS; exact lv_lconst C.1 C.2.1 hd hv (k H locs ls hl hP hD hS)
theorem j_ldc {ix : Nat} (C : Cx p R s m args meth c cells slots n D A cc own Ts ret cI cO) (hd : decode cc pc = .ok (.ldc ix, 2)) (hp : pc + 2 = pc') (v : Int32) (hm : Cond.constant own ix v ∈ Ts)
    (k : J p l e R s m args below meth c cells slots Q n D A (pc') (L) (.int v :: S) (ws)) : J p l e R s m args below meth c cells slots Q n D A (pc) (L) (S) (ws) := by
  subst hp; intro H locs ls hl hP hD hS; exact lv_ldc C.1 C.2.1 C.2.2.2.1 (C.2.2.2.2.1 _ hm) hd (k H locs ls hl hP hD hS)
theorem j_ldc2 {ix : Nat} (C : Cx p R s m args meth c cells slots n D A cc own Ts ret cI cO) (hd : decode cc pc = .ok (.ldc2_w ix, 3)) (hp : pc + 3 = pc') (v : Int64) (hm : Cond.constantLong own ix v ∈ Ts)
    (k : J p l e R s m args below meth c cells slots Q n D A (pc') (L) (.long v :: S) (ws)) : J p l e R s m args below meth c cells slots Q n D A (pc) (L) (S) (ws) := by
  subst hp; intro H locs ls hl hP hD hS; exact lv_ldc2 C.1 C.2.1 C.2.2.2.1 (C.2.2.2.2.1 _ hm) hd (k H locs ls hl hP hD hS)
theorem j_iload_n {i : Fin 4} {x : Int32} (C : Cx p R s m args meth c cells slots n D A cc own Ts ret cI cO) (hd : decode cc pc = .ok (.iload_n i, 1)) (hp : pc + 1 = pc') (h : L[(i : Nat)]? = some (some (.int x)))
    (k : J p l e R s m args below meth c cells slots Q n D A (pc') (L) (.int x :: S) (ws)) : J p l e R s m args below meth c cells slots Q n D A (pc) (L) (S) (ws) := by
  subst hp; intro H locs ls hl hP hD hS; exact lv_iload_n C.1 C.2.1 hd rfl (lvh_at hl h) (k H locs ls hl hP hD hS)
theorem j_iload {i : Nat} {x : Int32} (C : Cx p R s m args meth c cells slots n D A cc own Ts ret cI cO) (hd : decode cc pc = .ok (.iload i, 2)) (hp : pc + 2 = pc') (h : L[i]? = some (some (.int x)))
    (k : J p l e R s m args below meth c cells slots Q n D A (pc') (L) (.int x :: S) (ws)) : J p l e R s m args below meth c cells slots Q n D A (pc) (L) (S) (ws) := by
  subst hp; intro H locs ls hl hP hD hS; exact lv_iload C.1 C.2.1 hd (lvh_at hl h) (k H locs ls hl hP hD hS)
theorem j_lload_n {i : Fin 4} {x : Int64} (C : Cx p R s m args meth c cells slots n D A cc own Ts ret cI cO) (hd : decode cc pc = .ok (.lload_n i, 1)) (hp : pc + 1 = pc') (h : L[(i : Nat)]? = some (some (.long x)))
    (k : J p l e R s m args below meth c cells slots Q n D A (pc') (L) (.long x :: S) (ws)) : J p l e R s m args below meth c cells slots Q n D A (pc) (L) (S) (ws) := by
  subst hp; intro H locs ls hl hP hD hS; exact lv_lload_n C.1 C.2.1 hd rfl (lvh_at hl h) (k H locs ls hl hP hD hS)
theorem j_lload {i : Nat} {x : Int64} (C : Cx p R s m args meth c cells slots n D A cc own Ts ret cI cO) (hd : decode cc pc = .ok (.lload i, 2)) (hp : pc + 2 = pc') (h : L[i]? = some (some (.long x)))
    (k : J p l e R s m args below meth c cells slots Q n D A (pc') (L) (.long x :: S) (ws)) : J p l e R s m args below meth c cells slots Q n D A (pc) (L) (S) (ws) := by
  subst hp; intro H locs ls hl hP hD hS; exact lv_lload C.1 C.2.1 hd (lvh_at hl h) (k H locs ls hl hP hD hS)
theorem j_aload_n {i : Fin 4} {x : Nat} (C : Cx p R s m args meth c cells slots n D A cc own Ts ret cI cO) (hd : decode cc pc = .ok (.aload_n i, 1)) (hp : pc + 1 = pc') (h : L[(i : Nat)]? = some (some (.ref x)))
    (k : J p l e R s m args below meth c cells slots Q n D A (pc') (L) (.ref x :: S) (ws)) : J p l e R s m args below meth c cells slots Q n D A (pc) (L) (S) (ws) := by
  subst hp; intro H locs ls hl hP hD hS; exact lv_aload_n C.1 C.2.1 hd rfl (lvh_at hl h) (k H locs ls hl hP hD hS)
theorem j_aload {i : Nat} {x : Nat} (C : Cx p R s m args meth c cells slots n D A cc own Ts ret cI cO) (hd : decode cc pc = .ok (.aload i, 2)) (hp : pc + 2 = pc') (h : L[i]? = some (some (.ref x)))
    (k : J p l e R s m args below meth c cells slots Q n D A (pc') (L) (.ref x :: S) (ws)) : J p l e R s m args below meth c cells slots Q n D A (pc) (L) (S) (ws) := by
  subst hp; intro H locs ls hl hP hD hS; exact lv_aload C.1 C.2.1 hd (lvh_at hl h) (k H locs ls hl hP hD hS)
theorem j_aload_nN {i : Fin 4} (C : Cx p R s m args meth c cells slots n D A cc own Ts ret cI cO) (hd : decode cc pc = .ok (.aload_n i, 1)) (hp : pc + 1 = pc') (h : L[(i : Nat)]? = some (some .null))
    (k : J p l e R s m args below meth c cells slots Q n D A (pc') (L) (.null :: S) (ws)) : J p l e R s m args below meth c cells slots Q n D A (pc) (L) (S) (ws) := by
  subst hp; intro H locs ls hl hP hD hS; exact lv_aload_nN C.1 C.2.1 hd rfl (lvh_at hl h) (k H locs ls hl hP hD hS)
theorem j_aloadN {i : Nat} (C : Cx p R s m args meth c cells slots n D A cc own Ts ret cI cO) (hd : decode cc pc = .ok (.aload i, 2)) (hp : pc + 2 = pc') (h : L[i]? = some (some .null))
    (k : J p l e R s m args below meth c cells slots Q n D A (pc') (L) (.null :: S) (ws)) : J p l e R s m args below meth c cells slots Q n D A (pc) (L) (S) (ws) := by
  subst hp; intro H locs ls hl hP hD hS; exact lv_aloadN C.1 C.2.1 hd (lvh_at hl h) (k H locs ls hl hP hD hS)
theorem j_istore_n {i : Fin 4} {x : Int32} (C : Cx p R s m args meth c cells slots n D A cc own Ts ret cI cO) (hd : decode cc pc = .ok (.istore_n i, 1)) (hp : pc + 1 = pc') (hi : (i : Nat) < n) (ho : okp L i = true)
    (k : J p l e R s m args below meth c cells slots Q n D A (pc') (L.set i (some (.int x))) (S) (ws)) : J p l e R s m args below meth c cells slots Q n D A (pc) (L) (.int x :: S) (ws) := by
  subst hp; intro H locs ls hl hP hD hS; exact lv_istore_n C.1 C.2.1 hd rfl hl hi rfl (fun ls' h' => k H locs ls' (lvh_st1 h' ho) hP hD hS)
theorem j_istore {i : Nat} {x : Int32} (C : Cx p R s m args meth c cells slots n D A cc own Ts ret cI cO) (hd : decode cc pc = .ok (.istore i, 2)) (hp : pc + 2 = pc') (hi : i < n) (ho : okp L i = true)
    (k : J p l e R s m args below meth c cells slots Q n D A (pc') (L.set i (some (.int x))) (S) (ws)) : J p l e R s m args below meth c cells slots Q n D A (pc) (L) (.int x :: S) (ws) := by
  subst hp; intro H locs ls hl hP hD hS; exact lv_istore C.1 C.2.1 hd hl hi rfl (fun ls' h' => k H locs ls' (lvh_st1 h' ho) hP hD hS)
theorem j_astore_n {i : Fin 4} {x : Nat} (C : Cx p R s m args meth c cells slots n D A cc own Ts ret cI cO) (hd : decode cc pc = .ok (.astore_n i, 1)) (hp : pc + 1 = pc') (hi : (i : Nat) < n) (ho : okp L i = true)
    (k : J p l e R s m args below meth c cells slots Q n D A (pc') (L.set i (some (.ref x))) (S) (ws)) : J p l e R s m args below meth c cells slots Q n D A (pc) (L) (.ref x :: S) (ws) := by
  subst hp; intro H locs ls hl hP hD hS; exact lv_astore_n C.1 C.2.1 hd rfl hl hi rfl (fun ls' h' => k H locs ls' (lvh_st1 h' ho) hP hD hS)
theorem j_astore {i : Nat} {x : Nat} (C : Cx p R s m args meth c cells slots n D A cc own Ts ret cI cO) (hd : decode cc pc = .ok (.astore i, 2)) (hp : pc + 2 = pc') (hi : i < n) (ho : okp L i = true)
    (k : J p l e R s m args below meth c cells slots Q n D A (pc') (L.set i (some (.ref x))) (S) (ws)) : J p l e R s m args below meth c cells slots Q n D A (pc) (L) (.ref x :: S) (ws) := by
  subst hp; intro H locs ls hl hP hD hS; exact lv_astore C.1 C.2.1 hd hl hi rfl (fun ls' h' => k H locs ls' (lvh_st1 h' ho) hP hD hS)
theorem j_astore_nN {i : Fin 4} (C : Cx p R s m args meth c cells slots n D A cc own Ts ret cI cO) (hd : decode cc pc = .ok (.astore_n i, 1)) (hp : pc + 1 = pc') (hi : (i : Nat) < n) (ho : okp L i = true)
    (k : J p l e R s m args below meth c cells slots Q n D A (pc') (L.set i (some .null)) (S) (ws)) : J p l e R s m args below meth c cells slots Q n D A (pc) (L) (.null :: S) (ws) := by
  subst hp; intro H locs ls hl hP hD hS; exact lv_astore_nN C.1 C.2.1 hd rfl hl hi rfl (fun ls' h' => k H locs ls' (lvh_st1 h' ho) hP hD hS)
theorem j_astoreN {i : Nat} (C : Cx p R s m args meth c cells slots n D A cc own Ts ret cI cO) (hd : decode cc pc = .ok (.astore i, 2)) (hp : pc + 2 = pc') (hi : i < n) (ho : okp L i = true)
    (k : J p l e R s m args below meth c cells slots Q n D A (pc') (L.set i (some .null)) (S) (ws)) : J p l e R s m args below meth c cells slots Q n D A (pc) (L) (.null :: S) (ws) := by
  subst hp; intro H locs ls hl hP hD hS; exact lv_astoreN C.1 C.2.1 hd hl hi rfl (fun ls' h' => k H locs ls' (lvh_st1 h' ho) hP hD hS)
theorem j_lstore_n {i : Fin 4} {x : Int64} (C : Cx p R s m args meth c cells slots n D A cc own Ts ret cI cO) (hd : decode cc pc = .ok (.lstore_n i, 1)) (hp : pc + 1 = pc') (hi : (i : Nat) + 1 < n) (ho : okp L i = true)
    (k : J p l e R s m args below meth c cells slots Q n D A (pc') ((L.set i (some (.long x))).set (i + 1) none) (S) (ws)) : J p l e R s m args below meth c cells slots Q n D A (pc) (L) (.long x :: S) (ws) := by
  subst hp; intro H locs ls hl hP hD hS; exact lv_lstore_n C.1 C.2.1 hd rfl hl hi rfl (fun ls' h' => k H locs ls' (lvh_st2 h' ho) hP hD hS)
theorem j_lstore {i : Nat} {x : Int64} (C : Cx p R s m args meth c cells slots n D A cc own Ts ret cI cO) (hd : decode cc pc = .ok (.lstore i, 2)) (hp : pc + 2 = pc') (hi : i + 1 < n) (ho : okp L i = true)
    (k : J p l e R s m args below meth c cells slots Q n D A (pc') ((L.set i (some (.long x))).set (i + 1) none) (S) (ws)) : J p l e R s m args below meth c cells slots Q n D A (pc) (L) (.long x :: S) (ws) := by
  subst hp; intro H locs ls hl hP hD hS; exact lv_lstore C.1 C.2.1 hd hl hi rfl (fun ls' h' => k H locs ls' (lvh_st2 h' ho) hP hD hS)
theorem j_iinc {i : Nat} {z : Int} {x : Int32} (C : Cx p R s m args meth c cells slots n D A cc own Ts ret cI cO) (hd : decode cc pc = .ok (.iinc i z, 3)) (hp : pc + 3 = pc') (d : Int32) (hz : Int32.ofInt z = d) (h : L[i]? = some (some (.int x))) (hi : i < n) (ho : okp L i = true)
    (k : J p l e R s m args below meth c cells slots Q n D A (pc') (L.set i (some (.int (x + d)))) (S) (ws)) : J p l e R s m args below meth c cells slots Q n D A (pc) (L) (S) (ws) := by
  subst hp; intro H locs ls hl hP hD hS
  obtain ⟨q, hq⟩ := List.getElem?_of_mem (lvT_mem.mpr h)
  exact lv_iinc C.1 C.2.1 hd hl hq (by rw [hz]) hi rfl (fun ls' h' => k H locs ls' (lvh_st1 h' ho) hP hD hS)
theorem j_iadd {x y : Int32} (C : Cx p R s m args meth c cells slots n D A cc own Ts ret cI cO) (hd : decode cc pc = .ok (.iadd, 1)) (hp : pc + 1 = pc')
    (k : J p l e R s m args below meth c cells slots Q n D A (pc') (L) (.int (x + y) :: S) (ws)) : J p l e R s m args below meth c cells slots Q n D A (pc) (L) (.int y :: .int x :: S) (ws) := by
  subst hp; intro H locs ls hl hP hD hS; exact lv_iadd C.1 C.2.1 hd  (k H locs ls hl hP hD hS)
theorem j_isub {x y : Int32} (C : Cx p R s m args meth c cells slots n D A cc own Ts ret cI cO) (hd : decode cc pc = .ok (.isub, 1)) (hp : pc + 1 = pc')
    (k : J p l e R s m args below meth c cells slots Q n D A (pc') (L) (.int (x - y) :: S) (ws)) : J p l e R s m args below meth c cells slots Q n D A (pc) (L) (.int y :: .int x :: S) (ws) := by
  subst hp; intro H locs ls hl hP hD hS; exact lv_isub C.1 C.2.1 hd  (k H locs ls hl hP hD hS)
theorem j_imul {x y : Int32} (C : Cx p R s m args meth c cells slots n D A cc own Ts ret cI cO) (hd : decode cc pc = .ok (.imul, 1)) (hp : pc + 1 = pc')
    (k : J p l e R s m args below meth c cells slots Q n D A (pc') (L) (.int (x * y) :: S) (ws)) : J p l e R s m args below meth c cells slots Q n D A (pc) (L) (.int y :: .int x :: S) (ws) := by
  subst hp; intro H locs ls hl hP hD hS; exact lv_imul C.1 C.2.1 hd  (k H locs ls hl hP hD hS)
theorem j_iand {x y : Int32} (C : Cx p R s m args meth c cells slots n D A cc own Ts ret cI cO) (hd : decode cc pc = .ok (.iand, 1)) (hp : pc + 1 = pc')
    (k : J p l e R s m args below meth c cells slots Q n D A (pc') (L) (.int (x &&& y) :: S) (ws)) : J p l e R s m args below meth c cells slots Q n D A (pc) (L) (.int y :: .int x :: S) (ws) := by
  subst hp; intro H locs ls hl hP hD hS; exact lv_iand C.1 C.2.1 hd  (k H locs ls hl hP hD hS)
theorem j_ishl {x y : Int32} (C : Cx p R s m args meth c cells slots n D A cc own Ts ret cI cO) (hd : decode cc pc = .ok (.ishl, 1)) (hp : pc + 1 = pc')
    (k : J p l e R s m args below meth c cells slots Q n D A (pc') (L) (.int (x <<< (y &&& 31)) :: S) (ws)) : J p l e R s m args below meth c cells slots Q n D A (pc) (L) (.int y :: .int x :: S) (ws) := by
  subst hp; intro H locs ls hl hP hD hS; exact lv_ishl C.1 C.2.1 hd  (k H locs ls hl hP hD hS)
theorem j_ishr {x y : Int32} (C : Cx p R s m args meth c cells slots n D A cc own Ts ret cI cO) (hd : decode cc pc = .ok (.ishr, 1)) (hp : pc + 1 = pc')
    (k : J p l e R s m args below meth c cells slots Q n D A (pc') (L) (.int (x >>> (y &&& 31)) :: S) (ws)) : J p l e R s m args below meth c cells slots Q n D A (pc) (L) (.int y :: .int x :: S) (ws) := by
  subst hp; intro H locs ls hl hP hD hS; exact lv_ishr C.1 C.2.1 hd  (k H locs ls hl hP hD hS)
theorem j_idiv {x y : Int32} (C : Cx p R s m args meth c cells slots n D A cc own Ts ret cI cO) (hd : decode cc pc = .ok (.idiv, 1)) (hp : pc + 1 = pc') (hne : ¬ y = 0)
    (k : J p l e R s m args below meth c cells slots Q n D A (pc') (L) (.int (x / y) :: S) (ws)) : J p l e R s m args below meth c cells slots Q n D A (pc) (L) (.int y :: .int x :: S) (ws) := by
  subst hp; intro H locs ls hl hP hD hS; exact lv_idiv C.1 C.2.1 hd hne (k H locs ls hl hP hD hS)
theorem j_irem {x y : Int32} (C : Cx p R s m args meth c cells slots n D A cc own Ts ret cI cO) (hd : decode cc pc = .ok (.irem, 1)) (hp : pc + 1 = pc') (hne : ¬ y = 0)
    (k : J p l e R s m args below meth c cells slots Q n D A (pc') (L) (.int (x - x / y * y) :: S) (ws)) : J p l e R s m args below meth c cells slots Q n D A (pc) (L) (.int y :: .int x :: S) (ws) := by
  subst hp; intro H locs ls hl hP hD hS; exact lv_irem C.1 C.2.1 hd hne (k H locs ls hl hP hD hS)
theorem j_ineg {x : Int32} (C : Cx p R s m args meth c cells slots n D A cc own Ts ret cI cO) (hd : decode cc pc = .ok (.ineg, 1)) (hp : pc + 1 = pc')
    (k : J p l e R s m args below meth c cells slots Q n D A (pc') (L) (.int (-x) :: S) (ws)) : J p l e R s m args below meth c cells slots Q n D A (pc) (L) (.int x :: S) (ws) := by
  subst hp; intro H locs ls hl hP hD hS; exact lv_ineg C.1 C.2.1 hd  (k H locs ls hl hP hD hS)
theorem j_ladd {x y : Int64} (C : Cx p R s m args meth c cells slots n D A cc own Ts ret cI cO) (hd : decode cc pc = .ok (.ladd, 1)) (hp : pc + 1 = pc')
    (k : J p l e R s m args below meth c cells slots Q n D A (pc') (L) (.long (x + y) :: S) (ws)) : J p l e R s m args below meth c cells slots Q n D A (pc) (L) (.long y :: .long x :: S) (ws) := by
  subst hp; intro H locs ls hl hP hD hS; exact lv_ladd C.1 C.2.1 hd  (k H locs ls hl hP hD hS)
theorem j_lsub {x y : Int64} (C : Cx p R s m args meth c cells slots n D A cc own Ts ret cI cO) (hd : decode cc pc = .ok (.lsub, 1)) (hp : pc + 1 = pc')
    (k : J p l e R s m args below meth c cells slots Q n D A (pc') (L) (.long (x - y) :: S) (ws)) : J p l e R s m args below meth c cells slots Q n D A (pc) (L) (.long y :: .long x :: S) (ws) := by
  subst hp; intro H locs ls hl hP hD hS; exact lv_lsub C.1 C.2.1 hd  (k H locs ls hl hP hD hS)
theorem j_lmul {x y : Int64} (C : Cx p R s m args meth c cells slots n D A cc own Ts ret cI cO) (hd : decode cc pc = .ok (.lmul, 1)) (hp : pc + 1 = pc')
    (k : J p l e R s m args below meth c cells slots Q n D A (pc') (L) (.long (x * y) :: S) (ws)) : J p l e R s m args below meth c cells slots Q n D A (pc) (L) (.long y :: .long x :: S) (ws) := by
  subst hp; intro H locs ls hl hP hD hS; exact lv_lmul C.1 C.2.1 hd  (k H locs ls hl hP hD hS)
theorem j_i2l {x : Int32} (C : Cx p R s m args meth c cells slots n D A cc own Ts ret cI cO) (hd : decode cc pc = .ok (.i2l, 1)) (hp : pc + 1 = pc')
    (k : J p l e R s m args below meth c cells slots Q n D A (pc') (L) (.long x.toInt64 :: S) (ws)) : J p l e R s m args below meth c cells slots Q n D A (pc) (L) (.int x :: S) (ws) := by
  subst hp; intro H locs ls hl hP hD hS; exact lv_i2l C.1 C.2.1 hd rfl (k H locs ls hl hP hD hS)
theorem j_lcmp {x y : Int64} (C : Cx p R s m args meth c cells slots n D A cc own Ts ret cI cO) (hd : decode cc pc = .ok (.lcmp, 1)) (hp : pc + 1 = pc')
    (k : J p l e R s m args below meth c cells slots Q n D A (pc') (L) (.int (lg_cmp x y) :: S) (ws)) : J p l e R s m args below meth c cells slots Q n D A (pc) (L) (.long y :: .long x :: S) (ws) := by
  subst hp; intro H locs ls hl hP hD hS; exact W.lcmp C.1 C.2.1 hd  (k H locs ls hl hP hD hS)
theorem j_dup {v : Value} (C : Cx p R s m args meth c cells slots n D A cc own Ts ret cI cO) (hd : decode cc pc = .ok (.dup, 1)) (hp : pc + 1 = pc') (hv : v.category = 1)
    (k : J p l e R s m args below meth c cells slots Q n D A (pc') (L) (v :: v :: S) (ws)) : J p l e R s m args below meth c cells slots Q n D A (pc) (L) (v :: S) (ws) := by
  subst hp; intro H locs ls hl hP hD hS; exact lv_dup C.1 C.2.1 hd hv (k H locs ls hl hP hD hS)
theorem j_pop {v : Value} (C : Cx p R s m args meth c cells slots n D A cc own Ts ret cI cO) (hd : decode cc pc = .ok (.pop, 1)) (hp : pc + 1 = pc') (hv : v.category = 1)
    (k : J p l e R s m args below meth c cells slots Q n D A (pc') (L) (S) (ws)) : J p l e R s m args below meth c cells slots Q n D A (pc) (L) (v :: S) (ws) := by
  subst hp; intro H locs ls hl hP hD hS; exact lv_pop C.1 C.2.1 hd hv (k H locs ls hl hP hD hS)
theorem j_dup2 {v w : Value} (C : Cx p R s m args meth c cells slots n D A cc own Ts ret cI cO) (hd : decode cc pc = .ok (.dup2, 1)) (hp : pc + 1 = pc') (hv : v.category = 1) (hw : w.category = 1)
    (k : J p l e R s m args below meth c cells slots Q n D A (pc') (L) (v :: w :: v :: w :: S) (ws)) : J p l e R s m args below meth c cells slots Q n D A (pc) (L) (v :: w :: S) (ws) := by
  subst hp; intro H locs ls hl hP hD hS; exact lv_dup2_11 C.1 C.2.1 hd hv hw (k H locs ls hl hP hD hS)
theorem j_null (C : Cx p R s m args meth c cells slots n D A cc own Ts ret cI cO) (hd : decode cc pc = .ok (.aconst_null, 1)) (hp : pc + 1 = pc')
    (k : J p l e R s m args below meth c cells slots Q n D A (pc') (L) (.null :: S) (ws)) : J p l e R s m args below meth c cells slots Q n D A (pc) (L) (S) (ws) := by
  subst hp; intro H locs ls hl hP hD hS; exact lv_null C.1 C.2.1 hd  (k H locs ls hl hP hD hS)
theorem j_if_eq {x : Int32} {off : Int} {tgt : Nat} (C : Cx p R s m args meth c cells slots n D A cc own Ts ret cI cO) (hd : decode cc pc = .ok (.ifCond .eq off, 3)) (ht : (pc : Int) + off = (tgt : Int)) (hp : pc + 3 = pc')
    (kt : x = 0 → J p l e R s m args below meth c cells slots Q n D A (tgt) (L) (S) (ws)) (kf : ¬ (x = 0) → J p l e R s m args below meth c cells slots Q n D A (pc') (L) (S) (ws)) : J p l e R s m args below meth c cells slots Q n D A (pc) (L) (.int x :: S) (ws) := by
  subst hp; intro H locs ls hl hP hD hS
  exact lv_if_eq C.1 C.2.1 hd ht (fun q => kt q H locs ls hl hP hD hS) (fun q => kf q H locs ls hl hP hD hS)
theorem j_icmp_eq {x y : Int32} {off : Int} {tgt : Nat} (C : Cx p R s m args meth c cells slots n D A cc own Ts ret cI cO) (hd : decode cc pc = .ok (.if_icmp .eq off, 3)) (ht : (pc : Int) + off = (tgt : Int)) (hp : pc + 3 = pc')
    (kt : x = y → J p l e R s m args below meth c cells slots Q n D A (tgt) (L) (S) (ws)) (kf : ¬ (x = y) → J p l e R s m args below meth c cells slots Q n D A (pc') (L) (S) (ws)) : J p l e R s m args below meth c cells slots Q n D A (pc) (L) (.int y :: .int x :: S) (ws) := by
  subst hp; intro H locs ls hl hP hD hS
  exact lv_icmp_eq C.1 C.2.1 hd ht (fun q => kt q H locs ls hl hP hD hS) (fun q => kf q H locs ls hl hP hD hS)
theorem j_if_ne {x : Int32} {off : Int} {tgt : Nat} (C : Cx p R s m args meth c cells slots n D A cc own Ts ret cI cO) (hd : decode cc pc = .ok (.ifCond .ne off, 3)) (ht : (pc : Int) + off = (tgt : Int)) (hp : pc + 3 = pc')
    (kt : ¬ x = 0 → J p l e R s m args below meth c cells slots Q n D A (tgt) (L) (S) (ws)) (kf : x = 0 → J p l e R s m args below meth c cells slots Q n D A (pc') (L) (S) (ws)) : J p l e R s m args below meth c cells slots Q n D A (pc) (L) (.int x :: S) (ws) := by
  subst hp; intro H locs ls hl hP hD hS
  exact lv_if_ne C.1 C.2.1 hd ht (fun q => kt q H locs ls hl hP hD hS) (fun q => kf q H locs ls hl hP hD hS)
theorem j_icmp_ne {x y : Int32} {off : Int} {tgt : Nat} (C : Cx p R s m args meth c cells slots n D A cc own Ts ret cI cO) (hd : decode cc pc = .ok (.if_icmp .ne off, 3)) (ht : (pc : Int) + off = (tgt : Int)) (hp : pc + 3 = pc')
    (kt : ¬ x = y → J p l e R s m args below meth c cells slots Q n D A (tgt) (L) (S) (ws)) (kf : x = y → J p l e R s m args below meth c cells slots Q n D A (pc') (L) (S) (ws)) : J p l e R s m args below meth c cells slots Q n D A (pc) (L) (.int y :: .int x :: S) (ws) := by
  subst hp; intro H locs ls hl hP hD hS
  exact lv_icmp_ne C.1 C.2.1 hd ht (fun q => kt q H locs ls hl hP hD hS) (fun q => kf q H locs ls hl hP hD hS)
theorem j_if_lt {x : Int32} {off : Int} {tgt : Nat} (C : Cx p R s m args meth c cells slots n D A cc own Ts ret cI cO) (hd : decode cc pc = .ok (.ifCond .lt off, 3)) (ht : (pc : Int) + off = (tgt : Int)) (hp : pc + 3 = pc')
    (kt : x < 0 → J p l e R s m args below meth c cells slots Q n D A (tgt) (L) (S) (ws)) (kf : ¬ (x < 0) → J p l e R s m args below meth c cells slots Q n D A (pc') (L) (S) (ws)) : J p l e R s m args below meth c cells slots Q n D A (pc) (L) (.int x :: S) (ws) := by
  subst hp; intro H locs ls hl hP hD hS
  exact lv_if_lt C.1 C.2.1 hd ht (fun q => kt q H locs ls hl hP hD hS) (fun q => kf q H locs ls hl hP hD hS)
theorem j_icmp_lt {x y : Int32} {off : Int} {tgt : Nat} (C : Cx p R s m args meth c cells slots n D A cc own Ts ret cI cO) (hd : decode cc pc = .ok (.if_icmp .lt off, 3)) (ht : (pc : Int) + off = (tgt : Int)) (hp : pc + 3 = pc')
    (kt : x < y → J p l e R s m args below meth c cells slots Q n D A (tgt) (L) (S) (ws)) (kf : ¬ (x < y) → J p l e R s m args below meth c cells slots Q n D A (pc') (L) (S) (ws)) : J p l e R s m args below meth c cells slots Q n D A (pc) (L) (.int y :: .int x :: S) (ws) := by
  subst hp; intro H locs ls hl hP hD hS
  exact lv_icmp_lt C.1 C.2.1 hd ht (fun q => kt q H locs ls hl hP hD hS) (fun q => kf q H locs ls hl hP hD hS)
theorem j_if_ge {x : Int32} {off : Int} {tgt : Nat} (C : Cx p R s m args meth c cells slots n D A cc own Ts ret cI cO) (hd : decode cc pc = .ok (.ifCond .ge off, 3)) (ht : (pc : Int) + off = (tgt : Int)) (hp : pc + 3 = pc')
    (kt : 0 ≤ x → J p l e R s m args below meth c cells slots Q n D A (tgt) (L) (S) (ws)) (kf : ¬ (0 ≤ x) → J p l e R s m args below meth c cells slots Q n D A (pc') (L) (S) (ws)) : J p l e R s m args below meth c cells slots Q n D A (pc) (L) (.int x :: S) (ws) := by
  subst hp; intro H locs ls hl hP hD hS
  exact lv_if_ge C.1 C.2.1 hd ht (fun q => kt q H locs ls hl hP hD hS) (fun q => kf q H locs ls hl hP hD hS)
theorem j_icmp_ge {x y : Int32} {off : Int} {tgt : Nat} (C : Cx p R s m args meth c cells slots n D A cc own Ts ret cI cO) (hd : decode cc pc = .ok (.if_icmp .ge off, 3)) (ht : (pc : Int) + off = (tgt : Int)) (hp : pc + 3 = pc')
    (kt : y ≤ x → J p l e R s m args below meth c cells slots Q n D A (tgt) (L) (S) (ws)) (kf : ¬ (y ≤ x) → J p l e R s m args below meth c cells slots Q n D A (pc') (L) (S) (ws)) : J p l e R s m args below meth c cells slots Q n D A (pc) (L) (.int y :: .int x :: S) (ws) := by
  subst hp; intro H locs ls hl hP hD hS
  exact lv_icmp_ge C.1 C.2.1 hd ht (fun q => kt q H locs ls hl hP hD hS) (fun q => kf q H locs ls hl hP hD hS)
theorem j_if_gt {x : Int32} {off : Int} {tgt : Nat} (C : Cx p R s m args meth c cells slots n D A cc own Ts ret cI cO) (hd : decode cc pc = .ok (.ifCond .gt off, 3)) (ht : (pc : Int) + off = (tgt : Int)) (hp : pc + 3 = pc')
    (kt : 0 < x → J p l e R s m args below meth c cells slots Q n D A (tgt) (L) (S) (ws)) (kf : ¬ (0 < x) → J p l e R s m args below meth c cells slots Q n D A (pc') (L) (S) (ws)) : J p l e R s m args below meth c cells slots Q n D A (pc) (L) (.int x :: S) (ws) := by
  subst hp; intro H locs ls hl hP hD hS
  exact lv_if_gt C.1 C.2.1 hd ht (fun q => kt q H locs ls hl hP hD hS) (fun q => kf q H locs ls hl hP hD hS)
theorem j_icmp_gt {x y : Int32} {off : Int} {tgt : Nat} (C : Cx p R s m args meth c cells slots n D A cc own Ts ret cI cO) (hd : decode cc pc = .ok (.if_icmp .gt off, 3)) (ht : (pc : Int) + off = (tgt : Int)) (hp : pc + 3 = pc')
    (kt : y < x → J p l e R s m args below meth c cells slots Q n D A (tgt) (L) (S) (ws)) (kf : ¬ (y < x) → J p l e R s m args below meth c cells slots Q n D A (pc') (L) (S) (ws)) : J p l e R s m args below meth c cells slots Q n D A (pc) (L) (.int y :: .int x :: S) (ws) := by
  subst hp; intro H locs ls hl hP hD hS
  exact lv_icmp_gt C.1 C.2.1 hd ht (fun q => kt q H locs ls hl hP hD hS) (fun q => kf q H locs ls hl hP hD hS)
theorem j_if_le {x : Int32} {off : Int} {tgt : Nat} (C : Cx p R s m args meth c cells slots n D A cc own Ts ret cI cO) (hd : decode cc pc = .ok (.ifCond .le off, 3)) (ht : (pc : Int) + off = (tgt : Int)) (hp : pc + 3 = pc')
    (kt : x ≤ 0 → J p l e R s m args below meth c cells slots Q n D A (tgt) (L) (S) (ws)) (kf : ¬ (x ≤ 0) → J p l e R s m args below meth c cells slots Q n D A (pc') (L) (S) (ws)) : J p l e R s m args below meth c cells slots Q n D A (pc) (L) (.int x :: S) (ws) := by
  subst hp; intro H locs ls hl hP hD hS
  exact lv_if_le C.1 C.2.1 hd ht (fun q => kt q H locs ls hl hP hD hS) (fun q => kf q H locs ls hl hP hD hS)
theorem j_icmp_le {x y : Int32} {off : Int} {tgt : Nat} (C : Cx p R s m args meth c cells slots n D A cc own Ts ret cI cO) (hd : decode cc pc = .ok (.if_icmp .le off, 3)) (ht : (pc : Int) + off = (tgt : Int)) (hp : pc + 3 = pc')
    (kt : x ≤ y → J p l e R s m args below meth c cells slots Q n D A (tgt) (L) (S) (ws)) (kf : ¬ (x ≤ y) → J p l e R s m args below meth c cells slots Q n D A (pc') (L) (S) (ws)) : J p l e R s m args below meth c cells slots Q n D A (pc) (L) (.int y :: .int x :: S) (ws) := by
  subst hp; intro H locs ls hl hP hD hS
  exact lv_icmp_le C.1 C.2.1 hd ht (fun q => kt q H locs ls hl hP hD hS) (fun q => kf q H locs ls hl hP hD hS)
theorem j_goto {off : Int} (C : Cx p R s m args meth c cells slots n D A cc own Ts ret cI cO) (hd : decode cc pc = .ok (.goto off, 3)) (hp : (pc : Int) + off = (pc' : Int))
    (k : J p l e R s m args below meth c cells slots Q n D A (pc') (L) (S) (ws)) : J p l e R s m args below meth c cells slots Q n D A (pc) (L) (S) (ws) := by
  intro H locs ls hl hP hD hS; exact lv_goto C.1 C.2.1 hd hp (k H locs ls hl hP hD hS)
theorem j_ifnull {x : Nat} {off : Int} (C : Cx p R s m args meth c cells slots n D A cc own Ts ret cI cO) (hd : decode cc pc = .ok (.ifnull off, 3)) (hp : pc + 3 = pc')
    (k : J p l e R s m args below meth c cells slots Q n D A (pc') (L) (S) (ws)) : J p l e R s m args below meth c cells slots Q n D A (pc) (L) (.ref x :: S) (ws) := by
  subst hp; intro H locs ls hl hP hD hS; exact lv_ifnull C.1 C.2.1 hd (k H locs ls hl hP hD hS)
theorem j_ifnullN {off : Int} (C : Cx p R s m args meth c cells slots n D A cc own Ts ret cI cO) (hd : decode cc pc = .ok (.ifnull off, 3)) (hp : (pc : Int) + off = (pc' : Int))
    (k : J p l e R s m args below meth c cells slots Q n D A (pc') (L) (S) (ws)) : J p l e R s m args below meth c cells slots Q n D A (pc) (L) (.null :: S) (ws) := by
  intro H locs ls hl hP hD hS; exact lv_ifnullN C.1 C.2.1 hd hp (k H locs ls hl hP hD hS)
theorem j_ifnonnull {x : Nat} {off : Int} (C : Cx p R s m args meth c cells slots n D A cc own Ts ret cI cO) (hd : decode cc pc = .ok (.ifnonnull off, 3)) (hp : (pc : Int) + off = (pc' : Int))
    (k : J p l e R s m args below meth c cells slots Q n D A (pc') (L) (S) (ws)) : J p l e R s m args below meth c cells slots Q n D A (pc) (L) (.ref x :: S) (ws) := by
  intro H locs ls hl hP hD hS; exact lv_ifnonnull C.1 C.2.1 hd hp (k H locs ls hl hP hD hS)
theorem j_ifnonnullN {off : Int} (C : Cx p R s m args meth c cells slots n D A cc own Ts ret cI cO) (hd : decode cc pc = .ok (.ifnonnull off, 3)) (hp : pc + 3 = pc')
    (k : J p l e R s m args below meth c cells slots Q n D A (pc') (L) (S) (ws)) : J p l e R s m args below meth c cells slots Q n D A (pc) (L) (.null :: S) (ws) := by
  subst hp; intro H locs ls hl hP hD hS; exact lv_ifnonnullN C.1 C.2.1 hd (k H locs ls hl hP hD hS)
theorem j_swOut {dflt lo hi : Int} {offs : Array Int} {len : Nat} {x : Int32} (C : Cx p R s m args meth c cells slots n D A cc own Ts ret cI cO) (hd : decode cc pc = .ok (.tableswitch dflt lo hi offs, len)) (hp : (pc : Int) + dflt = (pc' : Int)) (h : x.toInt < lo ∨ hi < x.toInt)
    (k : J p l e R s m args below meth c cells slots Q n D A (pc') (L) (S) (ws)) : J p l e R s m args below meth c cells slots Q n D A (pc) (L) (.int x :: S) (ws) := by
  intro H locs ls hl hP hD hS; exact lv_tableOut C.1 C.2.1 hd h hp (k H locs ls hl hP hD hS)
theorem j_swIn {dflt lo hi : Int} {offs : Array Int} {len : Nat} {x : Int32} {off : Int} (C : Cx p R s m args meth c cells slots n D A cc own Ts ret cI cO) (hd : decode cc pc = .ok (.tableswitch dflt lo hi offs, len)) (hp : (pc : Int) + off = (pc' : Int)) (h1 : ¬ x.toInt < lo) (h2 : ¬ hi < x.toInt) (ho : offs[(x.toInt - lo).toNat]? = some off)
    (k : J p l e R s m args below meth c cells slots Q n D A (pc') (L) (S) (ws)) : J p l e R s m args below meth c cells slots Q n D A (pc) (L) (.int x :: S) (ws) := by
  intro H locs ls hl hP hD hS; exact lv_tableIn C.1 C.2.1 hd h1 h2 ho hp (k H locs ls hl hP hD hS)
/-! fields and arrays of the world -/
theorem j_get {ix : Nat} {a ci N : Nat} {Cn : String} {T : u_T} {fs : List Value} {v : Value} (C : Cx p R s m args meth c cells slots n D A cc own Ts ret cI cO) (hd : decode cc pc = .ok (.getfield ix, 3)) (hp : pc + 3 = pc') (q0 k : Nat) (he : ws[q0]? = some (a, .inr (ci, fs))) (hc : vwCl[ci]? = some (Cn, T, N)) (hin : ∀ w ∈ u_ws Cn T N, w ∈ Ts) (hk : k < N) (hm : Cond.fieldLink own ix (T k).1 (T k).2.1 (T k).2.2.1 ∈ Ts) (hv : fs[k]? = some v)
    (kk : J p l e R s m args below meth c cells slots Q n D A (pc') (L) (v :: S) (ws)) : J p l e R s m args below meth c cells slots Q n D A (pc) (L) (.ref a :: S) (ws) := by
  subst hp; intro H locs ls hl hP hD hS
  exact va_get C.1 C.2.1 C.2.2.2.2.1 hin C.2.2.2.1 C.2.2.2.2.2.2.1 hP q0 he hc k hk (C.2.2.2.2.1 _ hm) (fun _ h => h) hv hd (kk H locs ls hl hP hD hS)
theorem j_put {ix : Nat} {a ci N : Nat} {Cn : String} {T : u_T} {fs : List Value} {v : Value} {ty : FieldType} {ws' : va_W} (C : Cx p R s m args meth c cells slots n D A cc own Ts ret cI cO) (hd : decode cc pc = .ok (.putfield ix, 3)) (hp : pc + 3 = pc') (q0 k : Nat) (ty0 : Nat → FieldType) (hty : ∀ k, k < N → parseFieldDescriptor (T k).2.2.1 = some (ty0 k)) (hnm : ∀ a, a < N → ∀ b, b < N → a ≠ b → (T a).2.1 ≠ (T b).2.1) (he : ws[q0]? = some (a, .inr (ci, fs))) (hc : vwCl[ci]? = some (Cn, T, N)) (hin : ∀ w ∈ u_ws Cn T N, w ∈ Ts) (hk : k < N) (hm : Cond.fieldLink own ix (T k).1 (T k).2.1 (T k).2.2.1 ∈ Ts) (hfin : (T k).2.2.2 = false) (hty1 : parseFieldDescriptor (T k).2.2.1 = some ty) (hn : narrow ty v = v) (hfit : fits ty v = true) (hl0 : k < fs.length) (hw : ws.set q0 (a, .inr (ci, fs.set k v)) = ws')
    (kk : J p l e R s m args below meth c cells slots Q n D A (pc') (L) (S) (ws')) : J p l e R s m args below meth c cells slots Q n D A (pc) (L) (v :: .ref a :: S) (ws) := by
  subst hp; subst hw; intro H locs ls hl hP hD hS
  exact va_put C.1 C.2.1 C.2.2.2.2.1 hin ty0 hty hnm C.2.2.2.1 C.2.2.2.2.2.2.1 hP hD hS q0 he hc k hk (C.2.2.2.2.1 _ hm) (fun _ h => h) hfin hty1 hn hfit hl0 hd (fun H1 locs1 hP1 hD1 hS1 => kk H1 locs1 ls hl hP1 hD1 hS1)
theorem j_ald {a len : Nat} {f : Nat → Int32} {i : Int32} (C : Cx p R s m args meth c cells slots n D A cc own Ts ret cI cO) (hd : decode cc pc = .ok (.iaload, 1)) (hp : pc + 1 = pc') (q0 : Nat) (he : ws[q0]? = some (a, .inl (cI, len, .inl f))) (hi : vp_in i len)
    (kk : J p l e R s m args below meth c cells slots Q n D A (pc') (L) (.int (f i.toNatClampNeg) :: S) (ws)) : J p l e R s m args below meth c cells slots Q n D A (pc) (L) (.int i :: .ref a :: S) (ws) := by
  subst hp; intro H locs ls hl hP hD hS
  exact va_iald C.1 C.2.1 C.2.2.2.2.2.2.1 hP q0 0 he rfl hi hd (kk H locs ls hl hP hD hS)
theorem j_ast {a len : Nat} {f : Nat → Int32} {i x : Int32} {ws' : va_W} (C : Cx p R s m args meth c cells slots n D A cc own Ts ret cI cO) (hd : decode cc pc = .ok (.iastore, 1)) (hp : pc + 1 = pc') (q0 : Nat) (he : ws[q0]? = some (a, .inl (cI, len, .inl f))) (hi : vp_in i len) (hw : ws.set q0 (a, .inl (cI, len, .inl (upd f i.toNatClampNeg x))) = ws')
    (kk : J p l e R s m args below meth c cells slots Q n D A (pc') (L) (S) (ws')) : J p l e R s m args below meth c cells slots Q n D A (pc) (L) (.int x :: .int i :: .ref a :: S) (ws) := by
  subst hp; subst hw; intro H locs ls hl hP hD hS
  exact va_iast C.1 C.2.1 C.2.2.2.2.2.2.1 hP hD hS q0 0 he rfl hi hd (fun H1 locs1 hP1 hD1 hS1 => kk H1 locs1 ls hl hP1 hD1 hS1)
theorem j_aald {a len : Nat} {f : Nat → Option Nat} {i : Int32} {b : Nat} (C : Cx p R s m args meth c cells slots n D A cc own Ts ret cI cO) (hd : decode cc pc = .ok (.aaload, 1)) (hp : pc + 1 = pc') (q0 : Nat) (he : ws[q0]? = some (a, .inl (cO, len, .inr (.inr (.inr (.inr f)))))) (hi : vp_in i len) (hb : f i.toNatClampNeg = some b)
    (kk : J p l e R s m args below meth c cells slots Q n D A (pc') (L) (.ref b :: S) (ws)) : J p l e R s m args below meth c cells slots Q n D A (pc) (L) (.int i :: .ref a :: S) (ws) := by
  subst hp; intro H locs ls hl hP hD hS
  refine va_aldq C.1 C.2.1 C.2.2.2.2.2.2.1 hP q0 1 he rfl hi hd ?_
  rw [hb]
  exact kk H locs ls hl hP hD hS
/-! the end of a method -/
theorem j_ret {σ : Type} {wf : σ → va_W} {post : Option Value → σ → Prop} {u : σ} {H : Heap} {locs : List Loc} {v : Option Value} (hpo : post v u) (hP : va_P D vwCl (wf u) H) (hS : va_S A s.heap H locs) : ∀ t : State, t.heap = H → s.WarmedH t.vm → Qg D wf post A args s (.returned v) t := fun t ht _ => ⟨⟨v, u, rfl, hpo, by rw [ht]; exact hP⟩, hS.F ht⟩
theorem j_ireturn {σ : Type} {wf : σ → va_W} {post : Option Value → σ → Prop} (u : σ) {x : Int32} (C : Cx p R s m args meth c 0 0 n D A cc own Ts (some .int) cI cO) (hd : decode cc pc = .ok (.ireturn, 1)) (hpo : post (some (.int x)) u) : J p l e R s m args below meth c 0 0 (RQ below args s D wf post A) n D A pc L (.int x :: []) (wf u) := by
  intro H locs ls hl hP hD hS
  exact W.iret C.1 C.2.1 C.2.2.2.2.2.2.2.1 (j_ret hpo hP hS) hS.2.2 hd (hlocks := C.2.2.2.2.2.1)
theorem j_lreturn {σ : Type} {wf : σ → va_W} {post : Option Value → σ → Prop} (u : σ) {x : Int64} (C : Cx p R s m args meth c 0 0 n D A cc own Ts (some .long) cI cO) (hd : decode cc pc = .ok (.lreturn, 1)) (hpo : post (some (.long x)) u) : J p l e R s m args below meth c 0 0 (RQ below args s D wf post A) n D A pc L (.long x :: []) (wf u) := by
  intro H locs ls hl hP hD hS
  exact W.lret C.1 C.2.1 C.2.2.2.2.2.2.2.1 (j_ret hpo hP hS) hS.2.2 hd (hlocks := C.2.2.2.2.2.1)
theorem j_return {σ : Type} {wf : σ → va_W} {post : Option Value → σ → Prop} (u : σ) (C : Cx p R s m args meth c 0 0 n D A cc own Ts none cI cO) (hd : decode cc pc = .ok (.return_, 1)) (hpo : post (none) u) : J p l e R s m args below meth c 0 0 (RQ below args s D wf post A) n D A pc L ([]) (wf u) := by
  intro H locs ls hl hP hD hS
  exact W.vret C.1 C.2.1 C.2.2.2.2.2.2.2.1 (j_ret hpo hP hS) hS.2.2 hd (hlocks := C.2.2.2.2.2.1)
theorem j_zreturn {σ : Type} {wf : σ → va_W} {post : Option Value → σ → Prop} (u : σ) {x : Int32} (C : Cx p R s m args meth c 0 0 n D A cc own Ts (some .boolean) cI cO) (hd : decode cc pc = .ok (.ireturn, 1)) (hx : x = 0 ∨ x = 1) (hpo : post (some (.int x)) u) : J p l e R s m args below meth c 0 0 (RQ below args s D wf post A) n D A pc L (.int x :: []) (wf u) := by
  intro H locs ls hl hP hD hS
  refine W.zret C.1 C.2.1 C.2.2.2.2.2.2.2.1 ?_ (j_ret hpo hP hS) hS.2.2 hd (hlocks := C.2.2.2.2.2.1)
  rcases hx with rfl | rfl <;> decide +kernel
theorem j_areturn {σ : Type} {wf : σ → va_W} {post : Option Value → σ → Prop} (u : σ) {v : Value} {cn : String} (C : Cx p R s m args meth c 0 0 n D A cc own Ts (some (.object cn)) cI cO) (hd : decode cc pc = .ok (.areturn, 1)) (hv : v = .null ∨ ∃ a, v = .ref a) (hpo : post (some v) u) : J p l e R s m args below meth c 0 0 (RQ below args s D wf post A) n D A pc L (v :: []) (wf u) := by
  intro H locs ls hl hP hD hS
  exact W.aret C.1 C.2.1 C.2.2.2.2.2.2.2.1 (Or.inl ⟨_, rfl⟩) hv (j_ret hpo hP hS) hS.2.2 hd (hlocks := C.2.2.2.2.2.1)
/-! calls -/
theorem va_D_same {B : Nat → Prop} {w w' : va_W} (h : w'.map Prod.fst = w.map Prod.fst) (hD : va_D B w) : va_D B w' := by
  have key : ∀ (k : Nat) (q : Nat × va_E), w'[k]? = some q → ∃ q0, w[k]? = some q0 ∧ q0.1 = q.1 := by
    intro k q hk
    have h1 : (w'.map Prod.fst)[k]? = some q.1 := by rw [List.getElem?_map, hk]; rfl
    rw [h, List.getElem?_map] at h1
    cases hw : w[k]? with
    | none => rw [hw] at h1; cases h1
    | some q0 => rw [hw] at h1; exact ⟨q0, rfl, Option.some.inj h1⟩
  refine ⟨fun i j p q hp hq hpq => ?_, fun k q hk => ?_⟩
  · obtain ⟨p0, a1, a2⟩ := key i p hp
    obtain ⟨q0, b1, b2⟩ := key j q hq
    exact hD.1 i j p0 q0 a1 b1 (by rw [a2, b2]; exact hpq)
  · obtain ⟨q0, a1, a2⟩ := key k q hk
    rw [← a2]
    exact hD.2 k q0 a1
theorem j_perm {ws' : va_W} (is : List Nat) (hn : va_nd is = true) (hs : is.map (fun i => ws[i]?) = ws'.map some) (k : J p l e R s m args below meth c cells slots Q n D A (pc) (L) (S) (ws')) : J p l e R s m args below meth c cells slots Q n D A (pc) (L) (S) (ws) := by
  intro H locs ls hl hP hD hS
  refine k H locs ls hl (hP.sub is ?_) (hD.sub is hn hs) hS
  have : ∀ (is : List Nat) (w : va_W), is.map (fun i => ws[i]?) = w.map some → is.filterMap (fun i => ws[i]?) = w := by
    intro is
    induction is with
    | nil => intro w h; cases w with
      | nil => rfl
      | cons a w => simp at h
    | cons i is ih =>
      intro w h
      cases w with
      | nil => simp at h
      | cons a w =>
        simp only [List.map_cons, List.cons.injEq] at h
        rw [List.filterMap_cons_some h.1, ih w h.2]
  exact this is ws' hs
theorem j_tail {σ : Type} {wfc : σ → va_W} {uc : σ} {post : Option Value → σ → Prop} {rest : List Value} {wr : va_W} {aL : Array Value} (C : Cx p R s m args meth c cells slots n D A cc own Ts ret cI cO) (isC isR : List Nat) (hC : isC.map (fun i => ws[i]?) = (wfc uc).map some) (hR : isR.map (fun i => ws[i]?) = wr.map some) (hnC : va_nd isC = true) (hn : va_nd isR = true) (hdis : ∀ i ∈ isR, i ∉ isC)
    (haddr : ∀ u, (wfc u).map Prod.fst = (wfc uc).map Prod.fst)
    (run : ∀ (H : Heap) (locs : List Loc) (ls : Array Slot), lvh ls n L → va_P D vwCl (wfc uc) H → va_D A (wfc uc) → va_S A s.heap H locs → va_Run p l e R s m args below meth c H locs cells slots 0 0 (F0 m pc ls S) rest (Qg D wfc post (va_A (wfc uc) H.size) aL) (va_A (wfc uc) H.size))
    (kk : ∀ (v : Option Value) (u : σ), post v u → J p l e R s m args below meth c cells slots Q n D A (pc + 3) (L) (v.toList ++ rest) (wr ++ wfc u)) : J p l e R s m args below meth c cells slots Q n D A (pc) (L) (S) (ws) := by
  intro H locs ls hl hP hD hS
  have hPc : va_P D vwCl (wfc uc) H := by
    intro k q hk
    have h1 : (isC.map (fun i => ws[i]?))[k]? = some (some q) := by rw [hC, List.getElem?_map, hk]; rfl
    rw [List.getElem?_map] at h1
    cases hi : isC[k]? with
    | none => rw [hi] at h1; cases h1
    | some i => rw [hi] at h1; exact hP i q (Option.some.inj h1)
  have hDc : va_D A (wfc uc) := hD.sub isC hnC hC
  have hFc := va_free (wc := wfc uc) hD hS C.2.2.2.2.2.2.2.2.2.2 isC hC
  intro T hT X
  obtain ⟨v, st₀, t, T', L2, h0, X', hL, e1, e2, ⟨⟨v', u, hv, hp, hb⟩, hz, hk⟩, st⟩ := run H locs ls hl hPc hDc hS T hT X
  cases hv
  rw [h0] at hz hk
  have hP1 : va_P D vwCl (wfc u) T'.heap := by rw [e1]; exact hb
  have hD1 : va_D (va_A (wfc uc) H.size) (wfc u) := va_D_same (haddr u) hDc.self
  obtain ⟨hP2, hD2⟩ := va_join (wr := wr) (w1 := wfc u) hP hD isC isR hC hR hn hdis (fun q h1 h2 => by rw [e1]; exact hk q h1 h2) hFc hP1 hD1
  obtain ⟨t2, a1, b1⟩ := kk v u hp T'.heap (locs ++ L2) ls hl hP2 hD2
    ⟨Nat.le_trans hS.1 (by rw [e1]; exact hz), fun q h1 h2 => by rw [e1, hk q (Nat.lt_of_lt_of_le h1 hS.1) (fun z => h2 (hFc q z))]; exact hS.2.1 q h1 h2, fun q hq => by
      rcases List.mem_append.mp hq with h | h
      · exact hS.2.2 q h
      · exact hFc _ (hL q h)⟩ T' rfl X'
  exact ⟨t2, st t2 a1, b1⟩
theorem j_pre {σ : Type} {wfc : σ → va_W} {uc : σ} {X : State → Prop} {vs : List Value} {H : Heap} {locs : List Loc} (C : Cx p R s m args meth c cells slots n D A cc own Ts ret cI cO) (hXb : ∀ (a : Array Value) (U : State) (g : JFrame) (mk : MethodId), X U → X (U.calling g mk a)) (hX : ∀ (H : Heap) (locs : List Loc) (U : State), va_S A s.heap H locs → U.heap = H → s.WarmedH U.vm → X U) (hP : va_P D vwCl (wfc uc) H) (hD : va_D A (wfc uc)) (hS : va_S A s.heap H locs) : PreS s H (va_Pc vs (fun U => U.heap.size = H.size ∧ va_P D vwCl (wfc uc) U.heap ∧ va_K D vwCl (tyA cI cO) U ∧ va_D (fun _ => True) (wfc uc) ∧ X U)) vs :=
  ⟨fun a U g mk q => by obtain ⟨q0, q1, qP, qK, qD, qX⟩ := q; exact ⟨q0, q1, qP, va_K.moved (u := U) (U := U.calling g mk a) (Vm.Alike.refl U.vm) qK, qD, hXb a U g mk qX⟩, fun U hU hW => ⟨rfl, by rw [hU], by rw [hU]; exact hP, va_K.moved hW.alike C.2.2.2.2.2.2.1, hD.weaken (fun _ _ _ _ => trivial), hX H locs U hS hU hW⟩⟩
theorem j_callV {σ : Type} {wfc : σ → va_W} {uc : σ} {post : Option Value → σ → Prop} {X : State → Prop} {rest : List Value} {wr : va_W} {y : MethodName} {wsd ws' : List Cond} {h maxL ix : Nat} {bytes : ByteArray} {rt : Option FieldType} {b : Nat} {As : List Value} (C : Cx p R s m args meth c cells slots n D A cc own Ts ret cI cO) (hM : Kt l y wsd h wfc D cI cO X (.ref b :: As) uc post)
    (nA : Nat) (hG : GoodIn Ts (wsV own ix y.cls y wsd)) (hw : wsd = Cond.code y bytes maxL rt :: ws') (hd : y.cls ≠ "java/lang/invoke/MethodHandle" ∧ y.cls ≠ "java/lang/invoke/VarHandle" ∧ (parseMethodDescriptor y.desc).map (fun d => d.parameters.length) = some nA) (hR0 : h + 1 ≤ R.frames ∧ 8 + (maxL + 11) + 34 * h ≤ R.locals) (hnA : As.length = nA) (hst : S = As.reverse ++ .ref b :: rest) (hrs : (rest.map fun v => v.category).sum ≤ 8)
    (hXb : ∀ (a : Array Value) (U : State) (g : JFrame) (mk : MethodId), X U → X (U.calling g mk a)) (hX : ∀ (H : Heap) (locs : List Loc) (U : State), va_S A s.heap H locs → U.heap = H → s.WarmedH U.vm → X U)
    (ci q0 : Nat) {cl0 : vw_C} {fs : List Value} (hcl : vwCl[ci]? = some cl0) (hcn : cl0.1 = y.cls) (hob : (wfc uc)[q0]? = some (b, .inr (ci, fs)))
    (isC isR : List Nat) (hC : isC.map (fun i => ws[i]?) = (wfc uc).map some) (hR : isR.map (fun i => ws[i]?) = wr.map some) (hnC : va_nd isC = true) (hn : va_nd isR = true) (hdis : ∀ i ∈ isR, i ∉ isC)
    (haddr : ∀ u, (wfc u).map Prod.fst = (wfc uc).map Prod.fst) (hdec : decode cc pc = .ok (.invokevirtual ix, 3))
    (kk : ∀ (v : Option Value) (u : σ), post v u → J p l e R s m args below meth c cells slots Q n D A (pc + 3) (L) (v.toList ++ rest) (wr ++ wfc u)) : J p l e R s m args below meth c cells slots Q n D A (pc) (L) (S) (ws) := by
  refine j_tail C isC isR hC hR hnC hn hdis haddr (aL := (Value.ref b :: As).toArray) (fun H locs ls hl hP hD hS => ?_) kk
  have hpre := j_pre (vs := .ref b :: As) C hXb hX hP hD hS
  refine va_runV (As := As) (rest := rest) (b := b) (C := y.cls) ⟨C.1, C.2.1, C.2.2.1, C.2.2.2.1, C.2.2.2.2.1⟩ (hM H.size) (cwV nA C.2.2.2.2.1 hG hw rfl rfl ⟨rfl, hd⟩ hR0) ⟨hpre.1, ?_, hpre.2⟩ rfl hnA hl.1 hst (lv_room hrs) hdec ⟨C.2.2.2.2.2.2.2.2.1, C.2.2.2.2.2.2.2.2.2.1⟩
  have := va_recv C.2.2.2.2.2.2.1 hP hcl hob
  rw [hcn] at this
  exact this
theorem j_callS {σ : Type} {wfc : σ → va_W} {uc : σ} {post : Option Value → σ → Prop} {X : State → Prop} {rest : List Value} {wr : va_W} {y : MethodName} {wsd ws' : List Cond} {h maxL ix : Nat} {bytes : ByteArray} {rt : Option FieldType} {As : List Value} (C : Cx p R s m args meth c cells slots n D A cc own Ts ret cI cO) (hM : Kt l y wsd h wfc D cI cO X As uc post)
    (nA : Nat) (hG : GoodIn Ts (va_wsS own ix y wsd)) (hw : wsd = Cond.code y bytes maxL rt :: ws') (hd : y.cls ≠ "java/lang/invoke/MethodHandle" ∧ y.cls ≠ "java/lang/invoke/VarHandle" ∧ (parseMethodDescriptor y.desc).map (fun d => d.parameters.length) = some nA) (hR0 : h + 1 ≤ R.frames ∧ 8 + (maxL + 11) + 34 * h ≤ R.locals) (hnA : As.length = nA) (hst : S = As.reverse ++ rest) (hrs : (rest.map fun v => v.category).sum ≤ 8)
    (hXb : ∀ (a : Array Value) (U : State) (g : JFrame) (mk : MethodId), X U → X (U.calling g mk a)) (hX : ∀ (H : Heap) (locs : List Loc) (U : State), va_S A s.heap H locs → U.heap = H → s.WarmedH U.vm → X U)
    (isC isR : List Nat) (hC : isC.map (fun i => ws[i]?) = (wfc uc).map some) (hR : isR.map (fun i => ws[i]?) = wr.map some) (hnC : va_nd isC = true) (hn : va_nd isR = true) (hdis : ∀ i ∈ isR, i ∉ isC)
    (haddr : ∀ u, (wfc u).map Prod.fst = (wfc uc).map Prod.fst) (hdec : decode cc pc = .ok (.invokestatic ix, 3))
    (kk : ∀ (v : Option Value) (u : σ), post v u → J p l e R s m args below meth c cells slots Q n D A (pc + 3) (L) (v.toList ++ rest) (wr ++ wfc u)) : J p l e R s m args below meth c cells slots Q n D A (pc) (L) (S) (ws) := by
  refine j_tail C isC isR hC hR hnC hn hdis haddr (aL := As.toArray) (fun H locs ls hl hP hD hS => ?_) kk
  have ok : ∀ w ∈ va_wsS own ix y wsd, w.before args s = true := fun w h => C.2.2.2.2.1 w (hG w h).1
  refine va_runS (As := As) (rest := rest) ⟨C.1, C.2.1, C.2.2.1, C.2.2.2.1, C.2.2.2.2.1⟩ (hM H.size) ⟨callB_of nA C.2.2.2.2.1 (fun w h => hG w (by unfold va_wsS; exact List.mem_append_right _ h)) hw rfl rfl (ok _ (by simp [va_wsS])) (ok _ (by simp [va_wsS])) hd hR0, ok _ (by simp [va_wsS])⟩ (j_pre (vs := As) C hXb hX hP hD hS) rfl hnA hl.1 hst (lv_room hrs) hdec ⟨C.2.2.2.2.2.2.2.2.1, C.2.2.2.2.2.2.2.2.2.1⟩
theorem j_max {ix : Nat} {x y : Int32} (C : Cx p R s m args meth c cells slots n D A cc own Ts ret cI cO) (hd : decode cc pc = .ok (.invokestatic ix, 3)) (hp : pc + 3 = pc') (h1 : Cond.methodLink own ix Lib.Math.max.name ∈ Ts) (h2 : Cond.static Lib.Math.max.name ∈ Ts) (h3 : Cond.initialized "java/lang/Math" ∈ Ts) (h4 : Cond.code Lib.Math.max.name Lib.Math.max.code 2 (some .int) ∈ Ts) (h5 : 1 ≤ R.frames) (h6 : (S.map fun v => v.category).sum + 13 ≤ R.locals)
    (k : J p l e R s m args below meth c cells slots Q n D A (pc') (L) (.int (if x < y then y else x) :: S) (ws)) : J p l e R s m args below meth c cells slots Q n D A (pc) (L) (.int y :: .int x :: S) (ws) := by
  subst hp; intro H locs ls hl hP hD hS
  exact va_mmax C.1 C.2.1 (C.2.2.1.trans hl.1.symm) C.2.2.2.1 (C.2.2.2.2.1 _ h1) (C.2.2.2.2.1 _ h2) (C.2.2.2.2.1 _ h3) (C.2.2.2.2.1 _ h4) h5 h6 C.2.2.2.2.2.2.2.2.1 C.2.2.2.2.2.2.2.2.2.1 hd (k H locs ls hl hP hD hS)
theorem j_min {ix : Nat} {x y : Int32} (C : Cx p R s m args meth c cells slots n D A cc own Ts ret cI cO) (hd : decode cc pc = .ok (.invokestatic ix, 3)) (hp : pc + 3 = pc') (h1 : Cond.methodLink own ix Lib.Math.min.name ∈ Ts) (h2 : Cond.static Lib.Math.min.name ∈ Ts) (h3 : Cond.initialized "java/lang/Math" ∈ Ts) (h4 : Cond.code Lib.Math.min.name Lib.Math.min.code 2 (some .int) ∈ Ts) (h5 : 1 ≤ R.frames) (h6 : (S.map fun v => v.category).sum + 13 ≤ R.locals)
    (k : J p l e R s m args below meth c cells slots Q n D A (pc') (L) (.int (if y < x then y else x) :: S) (ws)) : J p l e R s m args below meth c cells slots Q n D A (pc) (L) (.int y :: .int x :: S) (ws) := by
  subst hp; intro H locs ls hl hP hD hS
  exact va_mmin C.1 C.2.1 (C.2.2.1.trans hl.1.symm) C.2.2.2.1 (C.2.2.2.2.1 _ h1) (C.2.2.2.2.1 _ h2) (C.2.2.2.2.1 _ h3) (C.2.2.2.2.1 _ h4) h5 h6 C.2.2.2.2.2.2.2.2.1 C.2.2.2.2.2.2.2.2.2.1 hd (k H locs ls hl hP hD hS)
theorem j_copy {ix : Nat} {a0 a1 n0 n1 : Nat} {f g : Nat → Int32} {ws' : va_W} {k : Int32} (C : Cx p R s m args meth c cells slots n D A cc own Ts ret cI cO) (hd : decode cc pc = .ok (.invokestatic ix, 3)) (hp : pc + 3 = pc') (q0 q1 : Nat) (h1 : Cond.methodLink own ix arraycopyName ∈ Ts) (h2 : Cond.native arraycopyName ∈ Ts) (h3 : Cond.static arraycopyName ∈ Ts) (h4 : Cond.initialized "java/lang/System" ∈ Ts) (ha0 : ws[q0]? = some (a0, .inl (cI, n0, .inl f))) (ha1 : ws[q1]? = some (a1, .inl (cI, n1, .inl g))) (hk : ¬ k < 0) (hk0 : k.toNatClampNeg ≤ n0) (hk1 : k.toNatClampNeg ≤ n1) (hw : ws.set q1 (a1, .inl (cI, n1, .inl (va_cpy f g 0 0 k.toNatClampNeg))) = ws') (h5 : 1 ≤ R.frames) (h6 : (S.map fun v => v.category).sum + (nativeFrameWords "java/lang/System" "arraycopy" 5 + 11) ≤ R.locals)
    (kk : J p l e R s m args below meth c cells slots Q n D A (pc') (L) (S) (ws')) : J p l e R s m args below meth c cells slots Q n D A (pc) (L) (.int k :: .int 0 :: .ref a1 :: .int 0 :: .ref a0 :: S) (ws) := by
  subst hp; subst hw; intro H locs ls hl hP hD hS
  exact va_copyi C.1 C.2.1 (C.2.2.1.trans hl.1.symm) C.2.2.2.1 (C.2.2.2.2.1 _ h1) (C.2.2.2.2.1 _ h2) (C.2.2.2.2.1 _ h3) (C.2.2.2.2.1 _ h4) C.2.2.2.2.2.2.1 hP hD hS q0 q1 0 0 ha0 ha1 rfl rfl rfl (by decide) (by decide) hk (by rw [sb_cl0]; omega) (by rw [sb_cl0]; omega) (fun _ _ => rfl) h5 h6 hd (fun H1 locs1 hP1 hD1 hS1 => kk H1 locs1 ls hl hP1 hD1 hS1)
end ENG
theorem Kt_of {l : Launch} {y : MethodName} {wsd ws' : List Cond} {h n : Nat} {σ : Type} {wf : σ → va_W} {D : va_G} {cI cO : ClassId} {X : State → Prop} {vs : List Value} {u : σ} {post : Option Value → σ → Prop} {cc : ByteArray} {ret : Option FieldType} (hw : wsd = Cond.code y cc n ret :: ws') (hy : plainName y.cls = true) (hlen : vs.length ≤ n) (hcat0 : (vs.all fun v => v.category == 1) = true) (L : List (Option Value)) (hL : L = vs.map some ++ List.replicate (n - vs.length) none)
    (body : ∀ (p : Program) (e : Env) (s : State) (m : MethodId) (args : Array Value) (below : List Frame) (meth : Method) (c : Code) (A : Nat → Prop), Cx p (rmH h) s m args meth c 0 0 n D A cc y.cls wsd ret cI cO → X s → (∀ q : Nat, A q → va_A (wf u) s.heap.size q) → J p l e (rmH h) s m args below meth c 0 0 (RQ below args s D wf post A) n D A 0 L [] (wf u)) : Kt l y wsd h wf D cI cO X vs u post := by
  intro sz
  have hcat : ∀ v ∈ vs, v.category = 1 := fun v hv => by have := List.all_eq_true.mp hcat0 v hv; simpa using this
  refine Met.ofW (cc := cc) (maxL := n) (ret := ret) hy hw ?_
  intro p e s m args below meth c s₁ B hml hv
  obtain ⟨rfl, hsz, hP, hK, hD0, hX⟩ := hv
  subst hsz
  have hown : s.vm.findClass y.cls = some m.cls := findClass_of_methodNamed B.named
  have hts := atoms_spec (ws := wsd) B.pre
  have hl := lv_entry vs (n := n) (by rw [lg_sl_len vs hcat]; exact hlen)
  rw [lg_entry_eq]
  refine body p e s m vs.toArray below meth c (va_A (wf u) s.heap.size) ⟨B.exec, B.bytes, hml, hown, hts, B.notSynchronized, hK, B.returns, Nat.zero_le _, Nat.zero_le _, fun q hq => Or.inr hq⟩ hX (fun _ h => h) s.heap [] _ ?_ hP hD0.self va_S.rf
  refine ⟨hl.1, hl.2.1, fun q hq => ?_⟩
  obtain ⟨k, v⟩ := q
  rw [lvT_mem, hL] at hq
  have hv : vs[k]? = some v := by
    rcases Nat.lt_or_ge k vs.length with hk | hk
    · rw [List.getElem?_append_left (by simpa using hk), List.getElem?_map] at hq
      cases hvk : vs[k]? with
      | none => rw [hvk] at hq; cases hq
      | some w => rw [hvk] at hq; simpa using hq
    · rw [List.getElem?_append_right (by simpa using hk)] at hq
      have := List.eq_of_mem_replicate (List.mem_of_getElem? hq)
      cases this
  have := lv_args_mem vs 0 k v hcat hv
  rw [Nat.zero_add] at this
  exact hl.2.2 (k, v) this
