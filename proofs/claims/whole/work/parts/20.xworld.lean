
/-! the class's world: the object, its row of Tables, the three Tables -/
def uT (T : Nat → TS) (i : Nat) (t : TS) : Nat → TS := fun j => if j = i then t else T j
theorem uT_s (T : Nat → TS) (i : Nat) (t : TS) : uT T i t i = t := if_pos rfl
theorem uT_n (T : Nat → TS) {i j : Nat} (t : TS) (h : j ≠ i) : uT T i t j = T j := if_neg h
theorem uT_self (T : Nat → TS) (i : Nat) : uT T i (T i) = T := by
  funext j; unfold uT; by_cases h : j = i
  · rw [if_pos h, h]
  · rw [if_neg h]
def wX (cI cO : ClassId) (ao ta : Nat) (B : Nat → Nat → Nat) (T : Nat → TS) : va_W := (ao, .inr (1, [.ref ta])) :: (ta, .inl (cO, 3, .inr (.inr (.inr (.inr (fun j => some (B j 0))))))) :: (wT cI (B 0) (T 0) ++ (wT cI (B 1) (T 1) ++ wT cI (B 2) (T 2)))
theorem wX_addr (cI cO : ClassId) (ao ta : Nat) (B : Nat → Nat → Nat) (T U : Nat → TS) : (wX cI cO ao ta B U).map Prod.fst = (wX cI cO ao ta B T).map Prod.fst := rfl
theorem wX_obj (cI cO : ClassId) (ao ta : Nat) (B : Nat → Nat → Nat) (T : Nat → TS) : (wX cI cO ao ta B T)[0]? = some (ao, .inr (1, [.ref ta])) := rfl
theorem wX_row (cI cO : ClassId) (ao ta : Nat) (B : Nat → Nat → Nat) (T : Nat → TS) : (wX cI cO ao ta B T)[1]? = some (ta, .inl (cO, 3, .inr (.inr (.inr (.inr (fun j => some (B j 0))))))) := rfl
theorem wX_tobj (cI cO : ClassId) (ao ta : Nat) (B : Nat → Nat → Nat) (T : Nat → TS) {i : Nat} (hi : i < 3) : (wX cI cO ao ta B T)[2 + 10 * i]? = some (B i 0, .inr (0, fldT (B i) (T i))) := by
  rcases (show i = 0 ∨ i = 1 ∨ i = 2 by omega) with rfl | rfl | rfl <;> rfl
theorem wX_arr (cI cO : ClassId) (ao ta : Nat) (B : Nat → Nat → Nat) (T : Nat → TS) {i k : Nat} (hi : i < 3) (hk : 3 ≤ k ∧ k ≤ 11) : (wX cI cO ao ta B T)[2 + 10 * i + (k - 2)]? = some (B i k, .inl (cI, lenT k, .inl ((T i).2 k))) := by
  rcases (show i = 0 ∨ i = 1 ∨ i = 2 by omega) with rfl | rfl | rfl <;>
  rcases (show k = 3 ∨ k = 4 ∨ k = 5 ∨ k = 6 ∨ k = 7 ∨ k = 8 ∨ k = 9 ∨ k = 10 ∨ k = 11 by omega) with rfl | rfl | rfl | rfl | rfl | rfl | rfl | rfl | rfl <;> rfl
theorem wX_set8 (cI cO : ClassId) (ao ta : Nat) (B : Nat → Nat → Nat) (T : Nat → TS) {i : Nat} (hi : i < 3) (g : Nat → Int32) : (wX cI cO ao ta B T).set (2 + 10 * i + (8 - 2)) (B i 8, .inl (cI, lenT 8, .inl g)) = wX cI cO ao ta B (uT T i ((T i).1, ua (T i).2 8 g)) := by
  rcases (show i = 0 ∨ i = 1 ∨ i = 2 by omega) with rfl | rfl | rfl <;> rfl
section ENX
variable {p : Program} {l : Launch} {e : Env} {R : Room} {s : State} {m : MethodId} {args : Array Value} {below : List Frame} {meth : Method} {c : Code} {cells slots : Nat} {Q : State → Prop} {n : Nat} {D : va_G} {A : Nat → Prop} {cc : ByteArray} {own : String} {Ts : List Cond} {ret : Option FieldType} {cI cO : ClassId} {pc pc' : Nat} {L : List (Option Value)} {S : List Value} {ws : va_W} {ao ta : Nat} {B : Nat → Nat → Nat} {T : Nat → TS}
theorem jXa {ix : Nat} (C : Cx p R s m args meth c cells slots n D A cc own Ts ret cI cO) (hd : decode cc pc = .ok (.getfield ix, 3)) (hp : pc + 3 = pc') (hin : ∀ w ∈ wsX10, w ∈ Ts) (hm : Cond.fieldLink own ix (TX1 0).1 (TX1 0).2.1 (TX1 0).2.2.1 ∈ Ts)
    (kk : J p l e R s m args below meth c cells slots Q n D A (pc') (L) (.ref ta :: S) (wX cI cO ao ta B T)) : J p l e R s m args below meth c cells slots Q n D A (pc) (L) (.ref ao :: S) (wX cI cO ao ta B T) := j_get C hd hp 0 0 (wX_obj cI cO ao ta B T) rfl hin (by decide) hm rfl kk
theorem jX_aald {x : Int32} (C : Cx p R s m args meth c cells slots n D A cc own Ts ret cI cO) (hd : decode cc pc = .ok (.aaload, 1)) (hp : pc + 1 = pc') (i : Nat) (hx : x = nI i) (hi : i < 3)
    (kk : J p l e R s m args below meth c cells slots Q n D A (pc') (L) (.ref (B i 0) :: S) (wX cI cO ao ta B T)) : J p l e R s m args below meth c cells slots Q n D A (pc) (L) (.int x :: .ref ta :: S) (wX cI cO ao ta B T) := by
  subst hx
  exact j_aald C hd hp 1 (wX_row cI cO ao ta B T) (vp_in_nI hi (by decide)) (by rw [nI_clamp (by omega)]) kk
theorem jXTi {ix : Nat} (C : Cx p R s m args meth c cells slots n D A cc own Ts ret cI cO) (hd : decode cc pc = .ok (.getfield ix, 3)) (hp : pc + 3 = pc') (i : Nat) (hi : i < 3) (k : Nat) (hk : isIT k) (hin : ∀ w ∈ wsX00, w ∈ Ts) (hm : Cond.fieldLink own ix (TX0 k).1 (TX0 k).2.1 (TX0 k).2.2.1 ∈ Ts)
    (kk : J p l e R s m args below meth c cells slots Q n D A (pc') (L) (.int ((T i).1 k) :: S) (wX cI cO ao ta B T)) : J p l e R s m args below meth c cells slots Q n D A (pc) (L) (.ref (B i 0) :: S) (wX cI cO ao ta B T) := j_get C hd hp _ k (wX_tobj cI cO ao ta B T hi) rfl hin (by rcases hk with rfl | rfl | rfl | rfl | rfl <;> decide) hm (fldT_i (B i) (T i) hk) kk
theorem jXTa {ix : Nat} (C : Cx p R s m args meth c cells slots n D A cc own Ts ret cI cO) (hd : decode cc pc = .ok (.getfield ix, 3)) (hp : pc + 3 = pc') (i : Nat) (hi : i < 3) (k : Nat) (hk : 3 ≤ k ∧ k ≤ 11) (hin : ∀ w ∈ wsX00, w ∈ Ts) (hm : Cond.fieldLink own ix (TX0 k).1 (TX0 k).2.1 (TX0 k).2.2.1 ∈ Ts)
    (kk : J p l e R s m args below meth c cells slots Q n D A (pc') (L) (.ref (B i k) :: S) (wX cI cO ao ta B T)) : J p l e R s m args below meth c cells slots Q n D A (pc) (L) (.ref (B i 0) :: S) (wX cI cO ao ta B T) := j_get C hd hp _ k (wX_tobj cI cO ao ta B T hi) rfl hin (by omega) hm (fldT_a (B i) (T i) hk) kk
theorem jXTl {x : Int32} (C : Cx p R s m args meth c cells slots n D A cc own Ts ret cI cO) (hd : decode cc pc = .ok (.iaload, 1)) (hp : pc + 1 = pc') (i : Nat) (hi : i < 3) (k : Nat) (hk : 3 ≤ k ∧ k ≤ 11) (j : Nat) (hj : x = nI j) (hjl : j < lenT k)
    (kk : J p l e R s m args below meth c cells slots Q n D A (pc') (L) (.int ((T i).2 k j) :: S) (wX cI cO ao ta B T)) : J p l e R s m args below meth c cells slots Q n D A (pc) (L) (.int x :: .ref (B i k) :: S) (wX cI cO ao ta B T) := by
  subst hj
  have hb : lenT k < 2 ^ 31 := by unfold lenT; (repeat' split) <;> decide
  refine j_ald C hd hp _ (wX_arr cI cO ao ta B T hi hk) (vp_in_nI hjl hb) ?_
  rw [nI_clamp (by omega)]
  exact kk
theorem jXTs8 {x v : Int32} (C : Cx p R s m args meth c cells slots n D A cc own Ts ret cI cO) (hd : decode cc pc = .ok (.iastore, 1)) (hp : pc + 1 = pc') (i : Nat) (hi : i < 3) (j : Nat) (hj : x = nI j) (hjl : j < 64)
    (kk : J p l e R s m args below meth c cells slots Q n D A (pc') (L) (S) (wX cI cO ao ta B (uT T i ((T i).1, ua (T i).2 8 (upd ((T i).2 8) j v))))) : J p l e R s m args below meth c cells slots Q n D A (pc) (L) (.int v :: .int x :: .ref (B i 8) :: S) (wX cI cO ao ta B T) := by
  subst hj
  refine j_ast C hd hp _ (wX_arr cI cO ao ta B T hi (k := 8) (by decide)) (vp_in_nI hjl (by decide)) (wX_set8 cI cO ao ta B T hi _) ?_
  rw [nI_clamp (by omega)]
  exact kk
theorem jX_callT {post : Option Value → TS → Prop} {rest : List Value} {y : MethodName} {wsd ws' : List Cond} {h maxL ix : Nat} {bytes : ByteArray} {rt : Option FieldType} {As : List Value} (C : Cx p R s m args meth c cells slots n D A cc own Ts ret cI cO) (i : Nat) (hi : i < 3) (hM : Kt l y wsd h (wT cI (B i)) D cI cO (fun _ => True) (.ref (B i 0) :: As) (T i) post)
    (nA : Nat) (hG : GoodIn Ts (wsV own ix y.cls y wsd)) (hw : wsd = Cond.code y bytes maxL rt :: ws') (hd : y.cls ≠ "java/lang/invoke/MethodHandle" ∧ y.cls ≠ "java/lang/invoke/VarHandle" ∧ (parseMethodDescriptor y.desc).map (fun d => d.parameters.length) = some nA) (hR0 : h + 1 ≤ R.frames ∧ 8 + (maxL + 11) + 34 * h ≤ R.locals) (hnA : As.length = nA) (hst : S = As.reverse ++ .ref (B i 0) :: rest) (hrs : (rest.map fun v => v.category).sum ≤ 8) (hyc : RX0 = y.cls) (hdec : decode cc pc = .ok (.invokevirtual ix, 3)) (hp : pc + 3 = pc')
    (kk : ∀ (v : Option Value) (u : TS), post v u → J p l e R s m args below meth c cells slots Q n D A (pc') (L) (v.toList ++ rest) (wX cI cO ao ta B (uT T i u))) : J p l e R s m args below meth c cells slots Q n D A (pc) (L) (S) (wX cI cO ao ta B T) := by
  subst hp
  rcases (show i = 0 ∨ i = 1 ∨ i = 2 by omega) with rfl | rfl | rfl
  · exact j_callV (wr := (ao, .inr (1, [.ref ta])) :: (ta, .inl (cO, 3, .inr (.inr (.inr (.inr (fun j => some (B j 0))))))) :: (wT cI (B 1) (T 1) ++ wT cI (B 2) (T 2))) C hM nA hG hw hd hR0 hnA hst hrs (fun _ _ _ _ _ => trivial) (fun _ _ _ _ _ _ => trivial) 0 0 rfl hyc (wT_obj cI (B 0) (T 0)) [2, 3, 4, 5, 6, 7, 8, 9, 10, 11] [0, 1, 12, 13, 14, 15, 16, 17, 18, 19, 20, 21, 22, 23, 24, 25, 26, 27, 28, 29, 30, 31] rfl rfl (by decide) (by decide) (by decide) (fun _ => rfl) hdec (fun v u hp => j_perm [0, 1, 22, 23, 24, 25, 26, 27, 28, 29, 30, 31, 2, 3, 4, 5, 6, 7, 8, 9, 10, 11, 12, 13, 14, 15, 16, 17, 18, 19, 20, 21] (by decide) rfl (kk v u hp))
  · exact j_callV (wr := (ao, .inr (1, [.ref ta])) :: (ta, .inl (cO, 3, .inr (.inr (.inr (.inr (fun j => some (B j 0))))))) :: (wT cI (B 0) (T 0) ++ wT cI (B 2) (T 2))) C hM nA hG hw hd hR0 hnA hst hrs (fun _ _ _ _ _ => trivial) (fun _ _ _ _ _ _ => trivial) 0 0 rfl hyc (wT_obj cI (B 1) (T 1)) [12, 13, 14, 15, 16, 17, 18, 19, 20, 21] [0, 1, 2, 3, 4, 5, 6, 7, 8, 9, 10, 11, 22, 23, 24, 25, 26, 27, 28, 29, 30, 31] rfl rfl (by decide) (by decide) (by decide) (fun _ => rfl) hdec (fun v u hp => j_perm [0, 1, 2, 3, 4, 5, 6, 7, 8, 9, 10, 11, 22, 23, 24, 25, 26, 27, 28, 29, 30, 31, 12, 13, 14, 15, 16, 17, 18, 19, 20, 21] (by decide) rfl (kk v u hp))
  · exact j_callV (wr := (ao, .inr (1, [.ref ta])) :: (ta, .inl (cO, 3, .inr (.inr (.inr (.inr (fun j => some (B j 0))))))) :: (wT cI (B 0) (T 0) ++ wT cI (B 1) (T 1))) C hM nA hG hw hd hR0 hnA hst hrs (fun _ _ _ _ _ => trivial) (fun _ _ _ _ _ _ => trivial) 0 0 rfl hyc (wT_obj cI (B 2) (T 2)) [22, 23, 24, 25, 26, 27, 28, 29, 30, 31] [0, 1, 2, 3, 4, 5, 6, 7, 8, 9, 10, 11, 12, 13, 14, 15, 16, 17, 18, 19, 20, 21] rfl rfl (by decide) (by decide) (by decide) (fun _ => rfl) hdec (fun v u hp => j_perm [0, 1, 2, 3, 4, 5, 6, 7, 8, 9, 10, 11, 12, 13, 14, 15, 16, 17, 18, 19, 20, 21, 22, 23, 24, 25, 26, 27, 28, 29, 30, 31] (by decide) rfl (kk v u hp))
end ENX
