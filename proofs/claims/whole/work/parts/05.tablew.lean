
/-! a Table of which one array (number w) is worked on: its contents g -/
theorem ua_ua (f : Nat → Nat → Int32) (k : Nat) (g g' : Nat → Int32) : ua (ua f k g) k g' = ua f k g' := by
  funext j; unfold ua; by_cases h : j = k
  · rw [if_pos h, if_pos h]
  · rw [if_neg h, if_neg h, if_neg h]
theorem ua_self (f : Nat → Nat → Int32) (k : Nat) : ua f k (f k) = f := by
  funext j; unfold ua; by_cases h : j = k
  · rw [if_pos h, h]
  · rw [if_neg h]
theorem vp_in_c {x : Int32} {n : Nat} (h : vp_in x n) (hn : n < 2 ^ 31) : x = nI x.toNatClampNeg ∧ x.toNatClampNeg < n := by
  obtain ⟨j, hj, rfl⟩ := vp_in_of h hn
  rw [nI_clamp (by omega)]
  exact ⟨rfl, hj⟩
def wTW (cI : ClassId) (B : Nat → Nat) (t : TS) (w : Nat) (g : Nat → Int32) : va_W := wT cI B (t.1, ua t.2 w g)
section ENW2
variable {p : Program} {l : Launch} {e : Env} {R : Room} {s : State} {m : MethodId} {args : Array Value} {below : List Frame} {meth : Method} {c : Code} {cells slots : Nat} {Q : State → Prop} {n : Nat} {D : va_G} {A : Nat → Prop} {cc : ByteArray} {own : String} {Ts : List Cond} {ret : Option FieldType} {cI cO : ClassId} {pc pc' : Nat} {L : List (Option Value)} {S : List Value} {ws : va_W} {B : Nat → Nat} {t : TS} {w : Nat} {g : Nat → Int32}
theorem jWi {ix : Nat} (C : Cx p R s m args meth c cells slots n D A cc own Ts ret cI cO) (hd : decode cc pc = .ok (.getfield ix, 3)) (hp : pc + 3 = pc') (k : Nat) (hk : isIT k) (hin : ∀ w ∈ wsX00, w ∈ Ts) (hm : Cond.fieldLink own ix (TX0 k).1 (TX0 k).2.1 (TX0 k).2.2.1 ∈ Ts)
    (kk : J p l e R s m args below meth c cells slots Q n D A (pc') (L) (.int (t.1 k) :: S) (wTW cI B t w g)) : J p l e R s m args below meth c cells slots Q n D A (pc) (L) (.ref (B 0) :: S) (wTW cI B t w g) := jTi C hd hp k hk hin hm kk
theorem jWa {ix : Nat} (C : Cx p R s m args meth c cells slots n D A cc own Ts ret cI cO) (hd : decode cc pc = .ok (.getfield ix, 3)) (hp : pc + 3 = pc') (k : Nat) (hk : 3 ≤ k ∧ k ≤ 11) (hin : ∀ w ∈ wsX00, w ∈ Ts) (hm : Cond.fieldLink own ix (TX0 k).1 (TX0 k).2.1 (TX0 k).2.2.1 ∈ Ts)
    (kk : J p l e R s m args below meth c cells slots Q n D A (pc') (L) (.ref (B k) :: S) (wTW cI B t w g)) : J p l e R s m args below meth c cells slots Q n D A (pc) (L) (.ref (B 0) :: S) (wTW cI B t w g) := jTa C hd hp k hk hin hm kk
theorem jWl {i : Int32} (C : Cx p R s m args meth c cells slots n D A cc own Ts ret cI cO) (hd : decode cc pc = .ok (.iaload, 1)) (hp : pc + 1 = pc') (k : Nat) (hk : 3 ≤ k ∧ k ≤ 11) (hkw : k ≠ w) (hi : vp_in i (lenT k))
    (kk : J p l e R s m args below meth c cells slots Q n D A (pc') (L) (.int (t.2 k i.toNatClampNeg) :: S) (wTW cI B t w g)) : J p l e R s m args below meth c cells slots Q n D A (pc) (L) (.int i :: .ref (B k) :: S) (wTW cI B t w g) := by
  refine jTl C hd hp k hk hi ?_
  have e0 : (t.1, ua t.2 w g).2 k = t.2 k := ua_n t.2 g hkw
  rw [e0]
  exact kk
theorem jWlN {i : Int32} (C : Cx p R s m args meth c cells slots n D A cc own Ts ret cI cO) (hd : decode cc pc = .ok (.iaload, 1)) (hp : pc + 1 = pc') (k : Nat) (hk : 3 ≤ k ∧ k ≤ 11) (hkw : k ≠ w) (j : Nat) (hj : i = nI j) (hi : j < lenT k)
    (kk : J p l e R s m args below meth c cells slots Q n D A (pc') (L) (.int (t.2 k j) :: S) (wTW cI B t w g)) : J p l e R s m args below meth c cells slots Q n D A (pc) (L) (.int i :: .ref (B k) :: S) (wTW cI B t w g) := by
  refine jTlN C hd hp k hk j hj hi ?_
  have e0 : (t.1, ua t.2 w g).2 k = t.2 k := ua_n t.2 g hkw
  rw [e0]
  exact kk
theorem jWg {i : Int32} (C : Cx p R s m args meth c cells slots n D A cc own Ts ret cI cO) (hd : decode cc pc = .ok (.iaload, 1)) (hp : pc + 1 = pc') (hk : 3 ≤ w ∧ w ≤ 11) (hi : vp_in i (lenT w))
    (kk : J p l e R s m args below meth c cells slots Q n D A (pc') (L) (.int (g i.toNatClampNeg) :: S) (wTW cI B t w g)) : J p l e R s m args below meth c cells slots Q n D A (pc) (L) (.int i :: .ref (B w) :: S) (wTW cI B t w g) := by
  refine jTl C hd hp w hk hi ?_
  have e0 : (t.1, ua t.2 w g).2 w = g := ua_s t.2 w g
  rw [e0]
  exact kk
theorem jWgN {i : Int32} (C : Cx p R s m args meth c cells slots n D A cc own Ts ret cI cO) (hd : decode cc pc = .ok (.iaload, 1)) (hp : pc + 1 = pc') (hk : 3 ≤ w ∧ w ≤ 11) (j : Nat) (hj : i = nI j) (hi : j < lenT w)
    (kk : J p l e R s m args below meth c cells slots Q n D A (pc') (L) (.int (g j) :: S) (wTW cI B t w g)) : J p l e R s m args below meth c cells slots Q n D A (pc) (L) (.int i :: .ref (B w) :: S) (wTW cI B t w g) := by
  refine jTlN C hd hp w hk j hj hi ?_
  have e0 : (t.1, ua t.2 w g).2 w = g := ua_s t.2 w g
  rw [e0]
  exact kk
theorem jWsN {i x : Int32} (C : Cx p R s m args meth c cells slots n D A cc own Ts ret cI cO) (hd : decode cc pc = .ok (.iastore, 1)) (hp : pc + 1 = pc') (hk : 3 ≤ w ∧ w ≤ 11) (j : Nat) (hj : i = nI j) (hi : j < lenT w)
    (kk : J p l e R s m args below meth c cells slots Q n D A (pc') (L) (S) (wTW cI B t w (upd g j x))) : J p l e R s m args below meth c cells slots Q n D A (pc) (L) (.int x :: .int i :: .ref (B w) :: S) (wTW cI B t w g) := by
  refine jTsN C hd hp w hk j hj hi ?_
  have e0 : (t.1, ua t.2 w g).2 w = g := ua_s t.2 w g
  rw [e0]
  show J p l e R s m args below meth c cells slots Q n D A pc' L S (wT cI B (t.1, ua (ua t.2 w g) w _))
  rw [ua_ua]
  exact kk
theorem jW_call {post : Option Value → (Nat → Int32) → Prop} {rest : List Value} {y : MethodName} {wsd ws' : List Cond} {h maxL ix : Nat} {bytes : ByteArray} {rt : Option FieldType} {As : List Value} (C : Cx p R s m args meth c cells slots n D A cc own Ts ret cI cO) (hk : 3 ≤ w ∧ w ≤ 11) (hM : Kt l y wsd h (wA cI (B w) (lenT w)) D cI cO (fun _ => True) As g post)
    (nA : Nat) (hG : GoodIn Ts (va_wsS own ix y wsd)) (hw : wsd = Cond.code y bytes maxL rt :: ws') (hd : y.cls ≠ "java/lang/invoke/MethodHandle" ∧ y.cls ≠ "java/lang/invoke/VarHandle" ∧ (parseMethodDescriptor y.desc).map (fun d => d.parameters.length) = some nA) (hR0 : h + 1 ≤ R.frames ∧ 8 + (maxL + 11) + 34 * h ≤ R.locals) (hnA : As.length = nA) (hst : S = As.reverse ++ rest) (hrs : (rest.map fun v => v.category).sum ≤ 8) (hdec : decode cc pc = .ok (.invokestatic ix, 3)) (hp : pc + 3 = pc')
    (kk : ∀ (v : Option Value) (g' : Nat → Int32), post v g' → J p l e R s m args below meth c cells slots Q n D A (pc') (L) (v.toList ++ rest) (wTW cI B t w g')) : J p l e R s m args below meth c cells slots Q n D A (pc) (L) (S) (wTW cI B t w g) := by
  have e0 : (t.1, ua t.2 w g).2 w = g := ua_s t.2 w g
  refine jT_callA (t := (t.1, ua t.2 w g)) C w hk (by rw [e0]; exact hM) nA hG hw hd hR0 hnA hst hrs hdec hp (fun v g' hp => ?_)
  have := kk v g' hp
  unfold wTW at this
  show J p l e R s m args below meth c cells slots Q n D A pc' L _ (wT cI B (t.1, ua (ua t.2 w g) w g'))
  rw [ua_ua]
  exact this
end ENW2
