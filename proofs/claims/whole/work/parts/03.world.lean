
/-! the worlds: a Table (object at B 0, arrays at B 3 .. B 11), the Model (object at B 10, arrays at B 0 .. B 9, B 11), one array, nothing -/
abbrev TS : Type := (Nat → Int32) × (Nat → Nat → Int32)
def ua (f : Nat → Nat → Int32) (k : Nat) (g : Nat → Int32) : Nat → Nat → Int32 := fun j => if j = k then g else f j
theorem ua_s (f : Nat → Nat → Int32) (k : Nat) (g : Nat → Int32) : ua f k g k = g := if_pos rfl
theorem ua_n (f : Nat → Nat → Int32) {k j : Nat} (g : Nat → Int32) (h : j ≠ k) : ua f k g j = f j := if_neg h
def lenT (k : Nat) : Nat := if k ≤ 7 then 40 else if k = 8 then 64 else 65
def fldT (B : Nat → Nat) (t : TS) : List Value := [.int (t.1 0), .int (t.1 1), .int (t.1 2), .ref (B 3), .ref (B 4), .ref (B 5), .ref (B 6), .ref (B 7), .ref (B 8), .ref (B 9), .ref (B 10), .ref (B 11), .int (t.1 12), .int (t.1 13)]
def wT (cI : ClassId) (B : Nat → Nat) (t : TS) : va_W := [(B 0, .inr (0, fldT B t)), (B 3, .inl (cI, 40, .inl (t.2 3))), (B 4, .inl (cI, 40, .inl (t.2 4))), (B 5, .inl (cI, 40, .inl (t.2 5))), (B 6, .inl (cI, 40, .inl (t.2 6))), (B 7, .inl (cI, 40, .inl (t.2 7))), (B 8, .inl (cI, 64, .inl (t.2 8))), (B 9, .inl (cI, 65, .inl (t.2 9))), (B 10, .inl (cI, 65, .inl (t.2 10))), (B 11, .inl (cI, 65, .inl (t.2 11)))]
def lenM (k : Nat) : Nat := if k ≤ 2 then 3 else if k ≤ 7 then 120 else if k = 8 then 192 else if k = 9 then 4225 else 195
def fldM (B : Nat → Nat) (t : TS) : List Value := [.ref (B 0), .ref (B 1), .ref (B 2), .ref (B 3), .ref (B 4), .ref (B 5), .ref (B 6), .ref (B 7), .ref (B 8), .ref (B 9), .int (t.1 10), .ref (B 11)]
def wM (cI : ClassId) (B : Nat → Nat) (t : TS) : va_W := [(B 0, .inl (cI, 3, .inl (t.2 0))), (B 1, .inl (cI, 3, .inl (t.2 1))), (B 2, .inl (cI, 3, .inl (t.2 2))), (B 3, .inl (cI, 120, .inl (t.2 3))), (B 4, .inl (cI, 120, .inl (t.2 4))), (B 5, .inl (cI, 120, .inl (t.2 5))), (B 6, .inl (cI, 120, .inl (t.2 6))), (B 7, .inl (cI, 120, .inl (t.2 7))), (B 8, .inl (cI, 192, .inl (t.2 8))), (B 9, .inl (cI, 4225, .inl (t.2 9))), (B 10, .inr (2, fldM B t)), (B 11, .inl (cI, 195, .inl (t.2 11)))]
def wA (cI : ClassId) (a len : Nat) (f : Nat → Int32) : va_W := [(a, .inl (cI, len, .inl f))]
def wN (_ : Unit) : va_W := []
theorem wT_obj (cI : ClassId) (B : Nat → Nat) (t : TS) : (wT cI B t)[0]? = some (B 0, .inr (0, fldT B t)) := rfl
theorem wM_obj (cI : ClassId) (B : Nat → Nat) (t : TS) : (wM cI B t)[10]? = some (B 10, .inr (2, fldM B t)) := rfl
theorem wT_arr (cI : ClassId) (B : Nat → Nat) (t : TS) {k : Nat} (hk : 3 ≤ k ∧ k ≤ 11) : (wT cI B t)[k - 2]? = some (B k, .inl (cI, lenT k, .inl (t.2 k))) := by
  rcases (show k = 3 ∨ k = 4 ∨ k = 5 ∨ k = 6 ∨ k = 7 ∨ k = 8 ∨ k = 9 ∨ k = 10 ∨ k = 11 by omega) with rfl | rfl | rfl | rfl | rfl | rfl | rfl | rfl | rfl <;> rfl
theorem wT_setA (cI : ClassId) (B : Nat → Nat) (t : TS) {k : Nat} (hk : 3 ≤ k ∧ k ≤ 11) (g : Nat → Int32) : (wT cI B t).set (k - 2) (B k, .inl (cI, lenT k, .inl g)) = wT cI B (t.1, ua t.2 k g) := by
  rcases (show k = 3 ∨ k = 4 ∨ k = 5 ∨ k = 6 ∨ k = 7 ∨ k = 8 ∨ k = 9 ∨ k = 10 ∨ k = 11 by omega) with rfl | rfl | rfl | rfl | rfl | rfl | rfl | rfl | rfl <;> rfl
theorem wM_arr (cI : ClassId) (B : Nat → Nat) (t : TS) {k : Nat} (hk : k ≤ 11 ∧ k ≠ 10) : (wM cI B t)[k]? = some (B k, .inl (cI, lenM k, .inl (t.2 k))) := by
  rcases (show k = 0 ∨ k = 1 ∨ k = 2 ∨ k = 3 ∨ k = 4 ∨ k = 5 ∨ k = 6 ∨ k = 7 ∨ k = 8 ∨ k = 9 ∨ k = 11 by omega) with rfl | rfl | rfl | rfl | rfl | rfl | rfl | rfl | rfl | rfl | rfl <;> rfl
theorem wM_setA (cI : ClassId) (B : Nat → Nat) (t : TS) {k : Nat} (hk : k ≤ 11 ∧ k ≠ 10) (g : Nat → Int32) : (wM cI B t).set k (B k, .inl (cI, lenM k, .inl g)) = wM cI B (t.1, ua t.2 k g) := by
  rcases (show k = 0 ∨ k = 1 ∨ k = 2 ∨ k = 3 ∨ k = 4 ∨ k = 5 ∨ k = 6 ∨ k = 7 ∨ k = 8 ∨ k = 9 ∨ k = 11 by omega) with rfl | rfl | rfl | rfl | rfl | rfl | rfl | rfl | rfl | rfl | rfl <;> rfl
def isIT (k : Nat) : Prop := k = 0 ∨ k = 1 ∨ k = 2 ∨ k = 12 ∨ k = 13
theorem fldT_i (B : Nat → Nat) (t : TS) {k : Nat} (hk : isIT k) : (fldT B t)[k]? = some (.int (t.1 k)) := by
  rcases hk with rfl | rfl | rfl | rfl | rfl <;> rfl
theorem fldT_a (B : Nat → Nat) (t : TS) {k : Nat} (hk : 3 ≤ k ∧ k ≤ 11) : (fldT B t)[k]? = some (.ref (B k)) := by
  rcases (show k = 3 ∨ k = 4 ∨ k = 5 ∨ k = 6 ∨ k = 7 ∨ k = 8 ∨ k = 9 ∨ k = 10 ∨ k = 11 by omega) with rfl | rfl | rfl | rfl | rfl | rfl | rfl | rfl | rfl <;> rfl
theorem fldM_a (B : Nat → Nat) (t : TS) {k : Nat} (hk : k ≤ 11 ∧ k ≠ 10) : (fldM B t)[k]? = some (.ref (B k)) := by
  rcases (show k = 0 ∨ k = 1 ∨ k = 2 ∨ k = 3 ∨ k = 4 ∨ k = 5 ∨ k = 6 ∨ k = 7 ∨ k = 8 ∨ k = 9 ∨ k = 11 by omega) with rfl | rfl | rfl | rfl | rfl | rfl | rfl | rfl | rfl | rfl | rfl <;> rfl
theorem wT_setF (cI : ClassId) (B : Nat → Nat) (t : TS) {k : Nat} (hk : isIT k) (v : Int32) : (wT cI B t).set 0 (B 0, .inr (0, (fldT B t).set k (.int v))) = wT cI B (upd t.1 k v, t.2) := by
  rcases hk with rfl | rfl | rfl | rfl | rfl <;> rfl
theorem wM_setF (cI : ClassId) (B : Nat → Nat) (t : TS) (v : Int32) : (wM cI B t).set 10 (B 10, .inr (2, (fldM B t).set 10 (.int v))) = wM cI B (upd t.1 10 v, t.2) := rfl
section ENW
variable {p : Program} {l : Launch} {e : Env} {R : Room} {s : State} {m : MethodId} {args : Array Value} {below : List Frame} {meth : Method} {c : Code} {cells slots : Nat} {Q : State → Prop} {n : Nat} {D : va_G} {A : Nat → Prop} {cc : ByteArray} {own : String} {Ts : List Cond} {ret : Option FieldType} {cI cO : ClassId} {pc pc' : Nat} {L : List (Option Value)} {S : List Value} {ws : va_W} {B : Nat → Nat} {t : TS}
theorem jTi {ix : Nat} (C : Cx p R s m args meth c cells slots n D A cc own Ts ret cI cO) (hd : decode cc pc = .ok (.getfield ix, 3)) (hp : pc + 3 = pc') (k : Nat) (hk : isIT k) (hin : ∀ w ∈ wsX00, w ∈ Ts) (hm : Cond.fieldLink own ix (TX0 k).1 (TX0 k).2.1 (TX0 k).2.2.1 ∈ Ts)
    (kk : J p l e R s m args below meth c cells slots Q n D A (pc') (L) (.int (t.1 k) :: S) (wT cI B t)) : J p l e R s m args below meth c cells slots Q n D A (pc) (L) (.ref (B 0) :: S) (wT cI B t) := j_get C hd hp 0 k (wT_obj cI B t) rfl hin (by rcases hk with rfl | rfl | rfl | rfl | rfl <;> decide) hm (fldT_i B t hk) kk
theorem jTa {ix : Nat} (C : Cx p R s m args meth c cells slots n D A cc own Ts ret cI cO) (hd : decode cc pc = .ok (.getfield ix, 3)) (hp : pc + 3 = pc') (k : Nat) (hk : 3 ≤ k ∧ k ≤ 11) (hin : ∀ w ∈ wsX00, w ∈ Ts) (hm : Cond.fieldLink own ix (TX0 k).1 (TX0 k).2.1 (TX0 k).2.2.1 ∈ Ts)
    (kk : J p l e R s m args below meth c cells slots Q n D A (pc') (L) (.ref (B k) :: S) (wT cI B t)) : J p l e R s m args below meth c cells slots Q n D A (pc) (L) (.ref (B 0) :: S) (wT cI B t) := j_get C hd hp 0 k (wT_obj cI B t) rfl hin (by omega) hm (fldT_a B t hk) kk
theorem jTl {i : Int32} (C : Cx p R s m args meth c cells slots n D A cc own Ts ret cI cO) (hd : decode cc pc = .ok (.iaload, 1)) (hp : pc + 1 = pc') (k : Nat) (hk : 3 ≤ k ∧ k ≤ 11) (hi : vp_in i (lenT k))
    (kk : J p l e R s m args below meth c cells slots Q n D A (pc') (L) (.int (t.2 k i.toNatClampNeg) :: S) (wT cI B t)) : J p l e R s m args below meth c cells slots Q n D A (pc) (L) (.int i :: .ref (B k) :: S) (wT cI B t) := j_ald C hd hp _ (wT_arr cI B t hk) hi kk
theorem jTs {i x : Int32} (C : Cx p R s m args meth c cells slots n D A cc own Ts ret cI cO) (hd : decode cc pc = .ok (.iastore, 1)) (hp : pc + 1 = pc') (k : Nat) (hk : 3 ≤ k ∧ k ≤ 11) (hi : vp_in i (lenT k))
    (kk : J p l e R s m args below meth c cells slots Q n D A (pc') (L) (S) (wT cI B (t.1, ua t.2 k (upd (t.2 k) i.toNatClampNeg x)))) : J p l e R s m args below meth c cells slots Q n D A (pc) (L) (.int x :: .int i :: .ref (B k) :: S) (wT cI B t) := j_ast C hd hp _ (wT_arr cI B t hk) hi (wT_setA cI B t hk _) kk
theorem jTlN {i : Int32} (C : Cx p R s m args meth c cells slots n D A cc own Ts ret cI cO) (hd : decode cc pc = .ok (.iaload, 1)) (hp : pc + 1 = pc') (k : Nat) (hk : 3 ≤ k ∧ k ≤ 11) (j : Nat) (hj : i = nI j) (hi : j < lenT k)
    (kk : J p l e R s m args below meth c cells slots Q n D A (pc') (L) (.int (t.2 k j) :: S) (wT cI B t)) : J p l e R s m args below meth c cells slots Q n D A (pc) (L) (.int i :: .ref (B k) :: S) (wT cI B t) := by
  subst hj
  have hb : lenT k < 2 ^ 31 := by unfold lenT; (repeat' split) <;> decide
  refine jTl C hd hp k hk (vp_in_nI hi hb) ?_
  rw [nI_clamp (by omega)]
  exact kk
theorem jTsN {i x : Int32} (C : Cx p R s m args meth c cells slots n D A cc own Ts ret cI cO) (hd : decode cc pc = .ok (.iastore, 1)) (hp : pc + 1 = pc') (k : Nat) (hk : 3 ≤ k ∧ k ≤ 11) (j : Nat) (hj : i = nI j) (hi : j < lenT k)
    (kk : J p l e R s m args below meth c cells slots Q n D A (pc') (L) (S) (wT cI B (t.1, ua t.2 k (upd (t.2 k) j x)))) : J p l e R s m args below meth c cells slots Q n D A (pc) (L) (.int x :: .int i :: .ref (B k) :: S) (wT cI B t) := by
  subst hj
  have hb : lenT k < 2 ^ 31 := by unfold lenT; (repeat' split) <;> decide
  refine jTs C hd hp k hk (vp_in_nI hi hb) ?_
  rw [nI_clamp (by omega)]
  exact kk
theorem jTp {ix : Nat} {v : Int32} (C : Cx p R s m args meth c cells slots n D A cc own Ts ret cI cO) (hd : decode cc pc = .ok (.putfield ix, 3)) (hp : pc + 3 = pc') (k : Nat) (hk : k = 0 ∨ k = 1 ∨ k = 2) (hin : ∀ w ∈ wsX00, w ∈ Ts) (hm : Cond.fieldLink own ix (TX0 k).1 (TX0 k).2.1 (TX0 k).2.2.1 ∈ Ts)
    (kk : J p l e R s m args below meth c cells slots Q n D A (pc') (L) (S) (wT cI B (upd t.1 k v, t.2))) : J p l e R s m args below meth c cells slots Q n D A (pc) (L) (.int v :: .ref (B 0) :: S) (wT cI B t) := by
  have hk2 : isIT k := by unfold isIT; omega
  refine j_put C hd hp 0 k tyX0 tyX0_ok nmX0 (ty := .int) (wT_obj cI B t) rfl hin (by omega) hm ?_ ?_ (vp_nar_int v) rfl ?_ (wT_setF cI B t hk2 v) kk
  · rcases hk with rfl | rfl | rfl <;> rfl
  · rcases hk with rfl | rfl | rfl <;> decide +kernel
  · rcases hk with rfl | rfl | rfl <;> (simp [fldT])
theorem jTpZ {ix : Nat} {v : Int32} (C : Cx p R s m args meth c cells slots n D A cc own Ts ret cI cO) (hd : decode cc pc = .ok (.putfield ix, 3)) (hp : pc + 3 = pc') (k : Nat) (hk : k = 12 ∨ k = 13) (hin : ∀ w ∈ wsX00, w ∈ Ts) (hm : Cond.fieldLink own ix (TX0 k).1 (TX0 k).2.1 (TX0 k).2.2.1 ∈ Ts) (hv : v = 0 ∨ v = 1)
    (kk : J p l e R s m args below meth c cells slots Q n D A (pc') (L) (S) (wT cI B (upd t.1 k v, t.2))) : J p l e R s m args below meth c cells slots Q n D A (pc) (L) (.int v :: .ref (B 0) :: S) (wT cI B t) := by
  have hk2 : isIT k := by unfold isIT; omega
  refine j_put C hd hp 0 k tyX0 tyX0_ok nmX0 (ty := .boolean) (wT_obj cI B t) rfl hin (by omega) hm ?_ ?_ ?_ ?_ ?_ (wT_setF cI B t hk2 v) kk
  · rcases hk with rfl | rfl <;> rfl
  · rcases hk with rfl | rfl <;> decide +kernel
  · rcases hv with rfl | rfl <;> decide +kernel
  · rcases hv with rfl | rfl <;> decide +kernel
  · rcases hk with rfl | rfl <;> (simp [fldT])
theorem jMi {ix : Nat} (C : Cx p R s m args meth c cells slots n D A cc own Ts ret cI cO) (hd : decode cc pc = .ok (.getfield ix, 3)) (hp : pc + 3 = pc') (hin : ∀ w ∈ wsX20, w ∈ Ts) (hm : Cond.fieldLink own ix (TX2 10).1 (TX2 10).2.1 (TX2 10).2.2.1 ∈ Ts)
    (kk : J p l e R s m args below meth c cells slots Q n D A (pc') (L) (.int (t.1 10) :: S) (wM cI B t)) : J p l e R s m args below meth c cells slots Q n D A (pc) (L) (.ref (B 10) :: S) (wM cI B t) := j_get C hd hp 10 10 (wM_obj cI B t) rfl hin (by decide) hm (rfl) kk
theorem jMa {ix : Nat} (C : Cx p R s m args meth c cells slots n D A cc own Ts ret cI cO) (hd : decode cc pc = .ok (.getfield ix, 3)) (hp : pc + 3 = pc') (k : Nat) (hk : k ≤ 11 ∧ k ≠ 10) (hin : ∀ w ∈ wsX20, w ∈ Ts) (hm : Cond.fieldLink own ix (TX2 k).1 (TX2 k).2.1 (TX2 k).2.2.1 ∈ Ts)
    (kk : J p l e R s m args below meth c cells slots Q n D A (pc') (L) (.ref (B k) :: S) (wM cI B t)) : J p l e R s m args below meth c cells slots Q n D A (pc) (L) (.ref (B 10) :: S) (wM cI B t) := j_get C hd hp 10 k (wM_obj cI B t) rfl hin (by omega) hm (fldM_a B t hk) kk
theorem jMl {i : Int32} (C : Cx p R s m args meth c cells slots n D A cc own Ts ret cI cO) (hd : decode cc pc = .ok (.iaload, 1)) (hp : pc + 1 = pc') (k : Nat) (hk : k ≤ 11 ∧ k ≠ 10) (hi : vp_in i (lenM k))
    (kk : J p l e R s m args below meth c cells slots Q n D A (pc') (L) (.int (t.2 k i.toNatClampNeg) :: S) (wM cI B t)) : J p l e R s m args below meth c cells slots Q n D A (pc) (L) (.int i :: .ref (B k) :: S) (wM cI B t) := j_ald C hd hp _ (wM_arr cI B t hk) hi kk
theorem jMs {i x : Int32} (C : Cx p R s m args meth c cells slots n D A cc own Ts ret cI cO) (hd : decode cc pc = .ok (.iastore, 1)) (hp : pc + 1 = pc') (k : Nat) (hk : k ≤ 11 ∧ k ≠ 10) (hi : vp_in i (lenM k))
    (kk : J p l e R s m args below meth c cells slots Q n D A (pc') (L) (S) (wM cI B (t.1, ua t.2 k (upd (t.2 k) i.toNatClampNeg x)))) : J p l e R s m args below meth c cells slots Q n D A (pc) (L) (.int x :: .int i :: .ref (B k) :: S) (wM cI B t) := j_ast C hd hp _ (wM_arr cI B t hk) hi (wM_setA cI B t hk _) kk
theorem jMlN {i : Int32} (C : Cx p R s m args meth c cells slots n D A cc own Ts ret cI cO) (hd : decode cc pc = .ok (.iaload, 1)) (hp : pc + 1 = pc') (k : Nat) (hk : k ≤ 11 ∧ k ≠ 10) (j : Nat) (hj : i = nI j) (hi : j < lenM k)
    (kk : J p l e R s m args below meth c cells slots Q n D A (pc') (L) (.int (t.2 k j) :: S) (wM cI B t)) : J p l e R s m args below meth c cells slots Q n D A (pc) (L) (.int i :: .ref (B k) :: S) (wM cI B t) := by
  subst hj
  have hb : lenM k < 2 ^ 31 := by unfold lenM; (repeat' split) <;> decide
  refine jMl C hd hp k hk (vp_in_nI hi hb) ?_
  rw [nI_clamp (by omega)]
  exact kk
theorem jMsN {i x : Int32} (C : Cx p R s m args meth c cells slots n D A cc own Ts ret cI cO) (hd : decode cc pc = .ok (.iastore, 1)) (hp : pc + 1 = pc') (k : Nat) (hk : k ≤ 11 ∧ k ≠ 10) (j : Nat) (hj : i = nI j) (hi : j < lenM k)
    (kk : J p l e R s m args below meth c cells slots Q n D A (pc') (L) (S) (wM cI B (t.1, ua t.2 k (upd (t.2 k) j x)))) : J p l e R s m args below meth c cells slots Q n D A (pc) (L) (.int x :: .int i :: .ref (B k) :: S) (wM cI B t) := by
  subst hj
  have hb : lenM k < 2 ^ 31 := by unfold lenM; (repeat' split) <;> decide
  refine jMs C hd hp k hk (vp_in_nI hi hb) ?_
  rw [nI_clamp (by omega)]
  exact kk
theorem jMp {ix : Nat} {v : Int32} (C : Cx p R s m args meth c cells slots n D A cc own Ts ret cI cO) (hd : decode cc pc = .ok (.putfield ix, 3)) (hp : pc + 3 = pc') (hin : ∀ w ∈ wsX20, w ∈ Ts) (hm : Cond.fieldLink own ix (TX2 10).1 (TX2 10).2.1 (TX2 10).2.2.1 ∈ Ts)
    (kk : J p l e R s m args below meth c cells slots Q n D A (pc') (L) (S) (wM cI B (upd t.1 10 v, t.2))) : J p l e R s m args below meth c cells slots Q n D A (pc) (L) (.int v :: .ref (B 10) :: S) (wM cI B t) :=
  j_put C hd hp 10 10 tyX2 tyX2_ok nmX2 (ty := .int) (wM_obj cI B t) rfl hin (by decide) hm rfl (by decide +kernel) (vp_nar_int v) rfl (by simp [fldM]) (wM_setF cI B t v) kk

/-! an array alone -/
theorem jAl {a len : Nat} {f : Nat → Int32} {i : Int32} (C : Cx p R s m args meth c cells slots n D A cc own Ts ret cI cO) (hd : decode cc pc = .ok (.iaload, 1)) (hp : pc + 1 = pc') (j : Nat) (hb : len < 2 ^ 31) (hj : i = nI j) (hi : j < len)
    (kk : J p l e R s m args below meth c cells slots Q n D A (pc') (L) (.int (f j) :: S) (wA cI a len f)) : J p l e R s m args below meth c cells slots Q n D A (pc) (L) (.int i :: .ref a :: S) (wA cI a len f) := by
  subst hj
  refine j_ald C hd hp 0 (len := len) (f := f) rfl (vp_in_nI hi hb) ?_
  rw [nI_clamp (by omega)]
  exact kk
theorem jAs {a len : Nat} {f : Nat → Int32} {i x : Int32} (C : Cx p R s m args meth c cells slots n D A cc own Ts ret cI cO) (hd : decode cc pc = .ok (.iastore, 1)) (hp : pc + 1 = pc') (j : Nat) (hb : len < 2 ^ 31) (hj : i = nI j) (hi : j < len)
    (kk : J p l e R s m args below meth c cells slots Q n D A (pc') (L) (S) (wA cI a len (upd f j x))) : J p l e R s m args below meth c cells slots Q n D A (pc) (L) (.int x :: .int i :: .ref a :: S) (wA cI a len f) := by
  subst hj
  refine j_ast C hd hp 0 (len := len) (f := f) rfl (vp_in_nI hi hb) rfl ?_
  rw [nI_clamp (by omega)]
  exact kk
theorem jAn {a len : Nat} {f : Nat → Int32} (C : Cx p R s m args meth c cells slots n D A cc own Ts ret cI cO) (hd : decode cc pc = .ok (.arraylength, 1)) (hp : pc + 1 = pc')
    (kk : J p l e R s m args below meth c cells slots Q n D A (pc') (L) (.int (nI len) :: S) (wA cI a len f)) : J p l e R s m args below meth c cells slots Q n D A (pc) (L) (.ref a :: S) (wA cI a len f) := by
  subst hp; intro H locs ls hl hP hD hS
  exact va_alen C.1 C.2.1 C.2.2.2.2.2.2.1 hP 0 0 rfl rfl rfl hd (kk H locs ls hl hP hD hS)
/-! calls: on the same world; of a static method that asks for nothing; of a static method on one array of a Table -/
theorem rng_self (w : va_W) : (List.range w.length).map (fun i => w[i]?) = w.map some := by
  apply List.ext_getElem?
  intro i
  by_cases hi : i < w.length
  · simp [hi]
  · simp [hi]
def nd_le : Nat → List Nat → Bool
  | _, [] => true
  | a, b :: l => decide (a < b) && nd_le b l
theorem nd_of : ∀ (k s : Nat), va_nd ((List.range k).map (fun i => s + i)) = true := by
  intro k
  induction k with
  | zero => intro s; rfl
  | succ k ih =>
    intro s
    rw [List.range_succ_eq_map]
    simp only [List.map_cons, List.map_map, va_nd, Bool.and_eq_true, decide_eq_true_eq]
    constructor
    · intro h
      obtain ⟨i, hi, e⟩ := List.mem_map.mp h
      simp at e
    · have := ih (s + 1)
      rw [← this]
      congr 1
      apply List.map_congr_left
      intro i _
      simp
      omega
theorem nd_range (k : Nat) : va_nd (List.range k) = true := by
  have := nd_of k 0
  simpa using this
theorem jc_same {σ : Type} {wfc : σ → va_W} {uc : σ} {post : Option Value → σ → Prop} {rest : List Value} {y : MethodName} {wsd ws' : List Cond} {h maxL ix : Nat} {bytes : ByteArray} {rt : Option FieldType} {b : Nat} {As : List Value} (C : Cx p R s m args meth c cells slots n D A cc own Ts ret cI cO) (hM : Kt l y wsd h wfc D cI cO (fun _ => True) (.ref b :: As) uc post)
    (nA : Nat) (hG : GoodIn Ts (wsV own ix y.cls y wsd)) (hw : wsd = Cond.code y bytes maxL rt :: ws') (hd : y.cls ≠ "java/lang/invoke/MethodHandle" ∧ y.cls ≠ "java/lang/invoke/VarHandle" ∧ (parseMethodDescriptor y.desc).map (fun d => d.parameters.length) = some nA) (hR0 : h + 1 ≤ R.frames ∧ 8 + (maxL + 11) + 34 * h ≤ R.locals) (hnA : As.length = nA) (hst : S = As.reverse ++ .ref b :: rest) (hrs : (rest.map fun v => v.category).sum ≤ 8)
    (ci q0 : Nat) {cl0 : vw_C} {fs : List Value} (hcl : vwCl[ci]? = some cl0) (hcn : cl0.1 = y.cls) (hob : (wfc uc)[q0]? = some (b, .inr (ci, fs)))
    (haddr : ∀ u, (wfc u).map Prod.fst = (wfc uc).map Prod.fst) (hdec : decode cc pc = .ok (.invokevirtual ix, 3)) (hp : pc + 3 = pc')
    (kk : ∀ (v : Option Value) (u : σ), post v u → J p l e R s m args below meth c cells slots Q n D A (pc') (L) (v.toList ++ rest) (wfc u)) : J p l e R s m args below meth c cells slots Q n D A (pc) (L) (S) (wfc uc) := by
  subst hp
  exact j_callV (wr := []) C hM nA hG hw hd hR0 hnA hst hrs (fun _ _ _ _ _ => trivial) (fun _ _ _ _ _ _ => trivial) ci q0 hcl hcn hob (List.range (wfc uc).length) [] (rng_self _) rfl (nd_range _) rfl (fun i h => by cases h) haddr hdec kk
theorem jc_nil {post : Option Value → Unit → Prop} {rest : List Value} {y : MethodName} {wsd ws' : List Cond} {h maxL ix : Nat} {bytes : ByteArray} {rt : Option FieldType} {As : List Value} (C : Cx p R s m args meth c cells slots n D A cc own Ts ret cI cO) (hM : Kt l y wsd h wN D cI cO (fun _ => True) As () post)
    (nA : Nat) (hG : GoodIn Ts (va_wsS own ix y wsd)) (hw : wsd = Cond.code y bytes maxL rt :: ws') (hd : y.cls ≠ "java/lang/invoke/MethodHandle" ∧ y.cls ≠ "java/lang/invoke/VarHandle" ∧ (parseMethodDescriptor y.desc).map (fun d => d.parameters.length) = some nA) (hR0 : h + 1 ≤ R.frames ∧ 8 + (maxL + 11) + 34 * h ≤ R.locals) (hnA : As.length = nA) (hst : S = As.reverse ++ rest) (hrs : (rest.map fun v => v.category).sum ≤ 8) (hdec : decode cc pc = .ok (.invokestatic ix, 3)) (hp : pc + 3 = pc')
    (kk : ∀ (v : Option Value), post v () → J p l e R s m args below meth c cells slots Q n D A (pc') (L) (v.toList ++ rest) (ws)) : J p l e R s m args below meth c cells slots Q n D A (pc) (L) (S) (ws) := by
  subst hp
  refine j_callS (wr := ws) C hM nA hG hw hd hR0 hnA hst hrs (fun _ _ _ _ _ => trivial) (fun _ _ _ _ _ _ => trivial) [] (List.range ws.length) rfl (rng_self _) rfl (nd_range _) (fun i _ h => by cases h) (fun _ => rfl) hdec (fun v u hp => ?_)
  rw [show ws ++ wN u = ws from List.append_nil ws]
  exact kk v hp
theorem jT_callA {post : Option Value → (Nat → Int32) → Prop} {rest : List Value} {y : MethodName} {wsd ws' : List Cond} {h maxL ix : Nat} {bytes : ByteArray} {rt : Option FieldType} {As : List Value} (C : Cx p R s m args meth c cells slots n D A cc own Ts ret cI cO) (k : Nat) (hk : 3 ≤ k ∧ k ≤ 11) (hM : Kt l y wsd h (wA cI (B k) (lenT k)) D cI cO (fun _ => True) As (t.2 k) post)
    (nA : Nat) (hG : GoodIn Ts (va_wsS own ix y wsd)) (hw : wsd = Cond.code y bytes maxL rt :: ws') (hd : y.cls ≠ "java/lang/invoke/MethodHandle" ∧ y.cls ≠ "java/lang/invoke/VarHandle" ∧ (parseMethodDescriptor y.desc).map (fun d => d.parameters.length) = some nA) (hR0 : h + 1 ≤ R.frames ∧ 8 + (maxL + 11) + 34 * h ≤ R.locals) (hnA : As.length = nA) (hst : S = As.reverse ++ rest) (hrs : (rest.map fun v => v.category).sum ≤ 8) (hdec : decode cc pc = .ok (.invokestatic ix, 3)) (hp : pc + 3 = pc')
    (kk : ∀ (v : Option Value) (g : Nat → Int32), post v g → J p l e R s m args below meth c cells slots Q n D A (pc') (L) (v.toList ++ rest) (wT cI B (t.1, ua t.2 k g))) : J p l e R s m args below meth c cells slots Q n D A (pc) (L) (S) (wT cI B t) := by
  subst hp
  rcases (show k = 3 ∨ k = 4 ∨ k = 5 ∨ k = 6 ∨ k = 7 ∨ k = 8 ∨ k = 9 ∨ k = 10 ∨ k = 11 by omega) with rfl | rfl | rfl | rfl | rfl | rfl | rfl | rfl | rfl
  · exact j_callS (wr := [(B 0, .inr (0, fldT B t)), (B 4, .inl (cI, 40, .inl (t.2 4))), (B 5, .inl (cI, 40, .inl (t.2 5))), (B 6, .inl (cI, 40, .inl (t.2 6))), (B 7, .inl (cI, 40, .inl (t.2 7))), (B 8, .inl (cI, 64, .inl (t.2 8))), (B 9, .inl (cI, 65, .inl (t.2 9))), (B 10, .inl (cI, 65, .inl (t.2 10))), (B 11, .inl (cI, 65, .inl (t.2 11)))]) C hM nA hG hw hd hR0 hnA hst hrs (fun _ _ _ _ _ => trivial) (fun _ _ _ _ _ _ => trivial) [1] [0, 2, 3, 4, 5, 6, 7, 8, 9] rfl rfl rfl (by decide) (by decide) (fun _ => rfl) hdec (fun v g hp => j_perm [0, 9, 1, 2, 3, 4, 5, 6, 7, 8] (by decide) rfl (kk v g hp))
  · exact j_callS (wr := [(B 0, .inr (0, fldT B t)), (B 3, .inl (cI, 40, .inl (t.2 3))), (B 5, .inl (cI, 40, .inl (t.2 5))), (B 6, .inl (cI, 40, .inl (t.2 6))), (B 7, .inl (cI, 40, .inl (t.2 7))), (B 8, .inl (cI, 64, .inl (t.2 8))), (B 9, .inl (cI, 65, .inl (t.2 9))), (B 10, .inl (cI, 65, .inl (t.2 10))), (B 11, .inl (cI, 65, .inl (t.2 11)))]) C hM nA hG hw hd hR0 hnA hst hrs (fun _ _ _ _ _ => trivial) (fun _ _ _ _ _ _ => trivial) [2] [0, 1, 3, 4, 5, 6, 7, 8, 9] rfl rfl rfl (by decide) (by decide) (fun _ => rfl) hdec (fun v g hp => j_perm [0, 1, 9, 2, 3, 4, 5, 6, 7, 8] (by decide) rfl (kk v g hp))
  · exact j_callS (wr := [(B 0, .inr (0, fldT B t)), (B 3, .inl (cI, 40, .inl (t.2 3))), (B 4, .inl (cI, 40, .inl (t.2 4))), (B 6, .inl (cI, 40, .inl (t.2 6))), (B 7, .inl (cI, 40, .inl (t.2 7))), (B 8, .inl (cI, 64, .inl (t.2 8))), (B 9, .inl (cI, 65, .inl (t.2 9))), (B 10, .inl (cI, 65, .inl (t.2 10))), (B 11, .inl (cI, 65, .inl (t.2 11)))]) C hM nA hG hw hd hR0 hnA hst hrs (fun _ _ _ _ _ => trivial) (fun _ _ _ _ _ _ => trivial) [3] [0, 1, 2, 4, 5, 6, 7, 8, 9] rfl rfl rfl (by decide) (by decide) (fun _ => rfl) hdec (fun v g hp => j_perm [0, 1, 2, 9, 3, 4, 5, 6, 7, 8] (by decide) rfl (kk v g hp))
  · exact j_callS (wr := [(B 0, .inr (0, fldT B t)), (B 3, .inl (cI, 40, .inl (t.2 3))), (B 4, .inl (cI, 40, .inl (t.2 4))), (B 5, .inl (cI, 40, .inl (t.2 5))), (B 7, .inl (cI, 40, .inl (t.2 7))), (B 8, .inl (cI, 64, .inl (t.2 8))), (B 9, .inl (cI, 65, .inl (t.2 9))), (B 10, .inl (cI, 65, .inl (t.2 10))), (B 11, .inl (cI, 65, .inl (t.2 11)))]) C hM nA hG hw hd hR0 hnA hst hrs (fun _ _ _ _ _ => trivial) (fun _ _ _ _ _ _ => trivial) [4] [0, 1, 2, 3, 5, 6, 7, 8, 9] rfl rfl rfl (by decide) (by decide) (fun _ => rfl) hdec (fun v g hp => j_perm [0, 1, 2, 3, 9, 4, 5, 6, 7, 8] (by decide) rfl (kk v g hp))
  · exact j_callS (wr := [(B 0, .inr (0, fldT B t)), (B 3, .inl (cI, 40, .inl (t.2 3))), (B 4, .inl (cI, 40, .inl (t.2 4))), (B 5, .inl (cI, 40, .inl (t.2 5))), (B 6, .inl (cI, 40, .inl (t.2 6))), (B 8, .inl (cI, 64, .inl (t.2 8))), (B 9, .inl (cI, 65, .inl (t.2 9))), (B 10, .inl (cI, 65, .inl (t.2 10))), (B 11, .inl (cI, 65, .inl (t.2 11)))]) C hM nA hG hw hd hR0 hnA hst hrs (fun _ _ _ _ _ => trivial) (fun _ _ _ _ _ _ => trivial) [5] [0, 1, 2, 3, 4, 6, 7, 8, 9] rfl rfl rfl (by decide) (by decide) (fun _ => rfl) hdec (fun v g hp => j_perm [0, 1, 2, 3, 4, 9, 5, 6, 7, 8] (by decide) rfl (kk v g hp))
  · exact j_callS (wr := [(B 0, .inr (0, fldT B t)), (B 3, .inl (cI, 40, .inl (t.2 3))), (B 4, .inl (cI, 40, .inl (t.2 4))), (B 5, .inl (cI, 40, .inl (t.2 5))), (B 6, .inl (cI, 40, .inl (t.2 6))), (B 7, .inl (cI, 40, .inl (t.2 7))), (B 9, .inl (cI, 65, .inl (t.2 9))), (B 10, .inl (cI, 65, .inl (t.2 10))), (B 11, .inl (cI, 65, .inl (t.2 11)))]) C hM nA hG hw hd hR0 hnA hst hrs (fun _ _ _ _ _ => trivial) (fun _ _ _ _ _ _ => trivial) [6] [0, 1, 2, 3, 4, 5, 7, 8, 9] rfl rfl rfl (by decide) (by decide) (fun _ => rfl) hdec (fun v g hp => j_perm [0, 1, 2, 3, 4, 5, 9, 6, 7, 8] (by decide) rfl (kk v g hp))
  · exact j_callS (wr := [(B 0, .inr (0, fldT B t)), (B 3, .inl (cI, 40, .inl (t.2 3))), (B 4, .inl (cI, 40, .inl (t.2 4))), (B 5, .inl (cI, 40, .inl (t.2 5))), (B 6, .inl (cI, 40, .inl (t.2 6))), (B 7, .inl (cI, 40, .inl (t.2 7))), (B 8, .inl (cI, 64, .inl (t.2 8))), (B 10, .inl (cI, 65, .inl (t.2 10))), (B 11, .inl (cI, 65, .inl (t.2 11)))]) C hM nA hG hw hd hR0 hnA hst hrs (fun _ _ _ _ _ => trivial) (fun _ _ _ _ _ _ => trivial) [7] [0, 1, 2, 3, 4, 5, 6, 8, 9] rfl rfl rfl (by decide) (by decide) (fun _ => rfl) hdec (fun v g hp => j_perm [0, 1, 2, 3, 4, 5, 6, 9, 7, 8] (by decide) rfl (kk v g hp))
  · exact j_callS (wr := [(B 0, .inr (0, fldT B t)), (B 3, .inl (cI, 40, .inl (t.2 3))), (B 4, .inl (cI, 40, .inl (t.2 4))), (B 5, .inl (cI, 40, .inl (t.2 5))), (B 6, .inl (cI, 40, .inl (t.2 6))), (B 7, .inl (cI, 40, .inl (t.2 7))), (B 8, .inl (cI, 64, .inl (t.2 8))), (B 9, .inl (cI, 65, .inl (t.2 9))), (B 11, .inl (cI, 65, .inl (t.2 11)))]) C hM nA hG hw hd hR0 hnA hst hrs (fun _ _ _ _ _ => trivial) (fun _ _ _ _ _ _ => trivial) [8] [0, 1, 2, 3, 4, 5, 6, 7, 9] rfl rfl rfl (by decide) (by decide) (fun _ => rfl) hdec (fun v g hp => j_perm [0, 1, 2, 3, 4, 5, 6, 7, 9, 8] (by decide) rfl (kk v g hp))
  · exact j_callS (wr := [(B 0, .inr (0, fldT B t)), (B 3, .inl (cI, 40, .inl (t.2 3))), (B 4, .inl (cI, 40, .inl (t.2 4))), (B 5, .inl (cI, 40, .inl (t.2 5))), (B 6, .inl (cI, 40, .inl (t.2 6))), (B 7, .inl (cI, 40, .inl (t.2 7))), (B 8, .inl (cI, 64, .inl (t.2 8))), (B 9, .inl (cI, 65, .inl (t.2 9))), (B 10, .inl (cI, 65, .inl (t.2 10)))]) C hM nA hG hw hd hR0 hnA hst hrs (fun _ _ _ _ _ => trivial) (fun _ _ _ _ _ _ => trivial) [9] [0, 1, 2, 3, 4, 5, 6, 7, 8] rfl rfl rfl (by decide) (by decide) (fun _ => rfl) hdec (fun v g hp => j_perm [0, 1, 2, 3, 4, 5, 6, 7, 8, 9] (by decide) rfl (kk v g hp))
end ENW
