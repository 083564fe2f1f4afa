
/-! the Model of which one array (number w) is worked on: its contents g -/
def wMW (cI : ClassId) (B : Nat → Nat) (t : TS) (w : Nat) (g : Nat → Int32) : va_W := wM cI B (t.1, ua t.2 w g)
theorem wM_addr (cI : ClassId) (B : Nat → Nat) (t u : TS) : (wM cI B u).map Prod.fst = (wM cI B t).map Prod.fst := rfl
section ENW4
variable {p : Program} {l : Launch} {e : Env} {R : Room} {s : State} {m : MethodId} {args : Array Value} {below : List Frame} {meth : Method} {c : Code} {cells slots : Nat} {Q : State → Prop} {n : Nat} {D : va_G} {A : Nat → Prop} {cc : ByteArray} {own : String} {Ts : List Cond} {ret : Option FieldType} {cI cO : ClassId} {pc pc' : Nat} {L : List (Option Value)} {S : List Value} {ws : va_W} {B : Nat → Nat} {t : TS} {w : Nat} {g : Nat → Int32}
theorem jNi {ix : Nat} (C : Cx p R s m args meth c cells slots n D A cc own Ts ret cI cO) (hd : decode cc pc = .ok (.getfield ix, 3)) (hp : pc + 3 = pc') (hin : ∀ w ∈ wsX20, w ∈ Ts) (hm : Cond.fieldLink own ix (TX2 10).1 (TX2 10).2.1 (TX2 10).2.2.1 ∈ Ts)
    (kk : J p l e R s m args below meth c cells slots Q n D A (pc') (L) (.int (t.1 10) :: S) (wMW cI B t w g)) : J p l e R s m args below meth c cells slots Q n D A (pc) (L) (.ref (B 10) :: S) (wMW cI B t w g) := jMi C hd hp hin hm kk
theorem jNa {ix : Nat} (C : Cx p R s m args meth c cells slots n D A cc own Ts ret cI cO) (hd : decode cc pc = .ok (.getfield ix, 3)) (hp : pc + 3 = pc') (k : Nat) (hk : k ≤ 11 ∧ k ≠ 10) (hin : ∀ w ∈ wsX20, w ∈ Ts) (hm : Cond.fieldLink own ix (TX2 k).1 (TX2 k).2.1 (TX2 k).2.2.1 ∈ Ts)
    (kk : J p l e R s m args below meth c cells slots Q n D A (pc') (L) (.ref (B k) :: S) (wMW cI B t w g)) : J p l e R s m args below meth c cells slots Q n D A (pc) (L) (.ref (B 10) :: S) (wMW cI B t w g) := jMa C hd hp k hk hin hm kk
theorem jNl {i : Int32} (C : Cx p R s m args meth c cells slots n D A cc own Ts ret cI cO) (hd : decode cc pc = .ok (.iaload, 1)) (hp : pc + 1 = pc') (k : Nat) (hk : k ≤ 11 ∧ k ≠ 10) (hkw : k ≠ w) (hi : vp_in i (lenM k))
    (kk : J p l e R s m args below meth c cells slots Q n D A (pc') (L) (.int (t.2 k i.toNatClampNeg) :: S) (wMW cI B t w g)) : J p l e R s m args below meth c cells slots Q n D A (pc) (L) (.int i :: .ref (B k) :: S) (wMW cI B t w g) := by
  refine jMl C hd hp k hk hi ?_
  have e0 : (t.1, ua t.2 w g).2 k = t.2 k := ua_n t.2 g hkw
  rw [e0]
  exact kk
theorem jNlN {i : Int32} (C : Cx p R s m args meth c cells slots n D A cc own Ts ret cI cO) (hd : decode cc pc = .ok (.iaload, 1)) (hp : pc + 1 = pc') (k : Nat) (hk : k ≤ 11 ∧ k ≠ 10) (hkw : k ≠ w) (j : Nat) (hj : i = nI j) (hi : j < lenM k)
    (kk : J p l e R s m args below meth c cells slots Q n D A (pc') (L) (.int (t.2 k j) :: S) (wMW cI B t w g)) : J p l e R s m args below meth c cells slots Q n D A (pc) (L) (.int i :: .ref (B k) :: S) (wMW cI B t w g) := by
  refine jMlN C hd hp k hk j hj hi ?_
  have e0 : (t.1, ua t.2 w g).2 k = t.2 k := ua_n t.2 g hkw
  rw [e0]
  exact kk
theorem jNgN {i : Int32} (C : Cx p R s m args meth c cells slots n D A cc own Ts ret cI cO) (hd : decode cc pc = .ok (.iaload, 1)) (hp : pc + 1 = pc') (hk : w ≤ 11 ∧ w ≠ 10) (j : Nat) (hj : i = nI j) (hi : j < lenM w)
    (kk : J p l e R s m args below meth c cells slots Q n D A (pc') (L) (.int (g j) :: S) (wMW cI B t w g)) : J p l e R s m args below meth c cells slots Q n D A (pc) (L) (.int i :: .ref (B w) :: S) (wMW cI B t w g) := by
  refine jMlN C hd hp w hk j hj hi ?_
  have e0 : (t.1, ua t.2 w g).2 w = g := ua_s t.2 w g
  rw [e0]
  exact kk
theorem jNsN {i x : Int32} (C : Cx p R s m args meth c cells slots n D A cc own Ts ret cI cO) (hd : decode cc pc = .ok (.iastore, 1)) (hp : pc + 1 = pc') (hk : w ≤ 11 ∧ w ≠ 10) (j : Nat) (hj : i = nI j) (hi : j < lenM w)
    (kk : J p l e R s m args below meth c cells slots Q n D A (pc') (L) (S) (wMW cI B t w (upd g j x))) : J p l e R s m args below meth c cells slots Q n D A (pc) (L) (.int x :: .int i :: .ref (B w) :: S) (wMW cI B t w g) := by
  refine jMsN C hd hp w hk j hj hi ?_
  have e0 : (t.1, ua t.2 w g).2 w = g := ua_s t.2 w g
  rw [e0]
  show J p l e R s m args below meth c cells slots Q n D A pc' L S (wM cI B (t.1, ua (ua t.2 w g) w _))
  rw [ua_ua]
  exact kk
end ENW4
