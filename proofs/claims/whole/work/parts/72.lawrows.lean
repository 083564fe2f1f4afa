/-! the law's rows -/
def wL (cI cO : ClassId) (ao ta : Nat) (B : Nat → Nat → Nat) (T : Nat → TS) (MB : Nat → Nat) (t : TS) : va_W := wX cI cO ao ta B T ++ wM cI MB t
def bz (x : Int32) : Int32 := if x = 0 then 0 else 1
section LAW0
variable {p : Program} {l : Launch} {e : Env} {R : Room} {s : State} {m : MethodId} {args : Array Value} {below : List Frame} {meth : Method} {c : Code} {cells slots : Nat} {Q : State → Prop} {n : Nat} {D : va_G} {A : Nat → Prop} {cc : ByteArray} {own : String} {Ts : List Cond} {rt0 : Option FieldType} {cI cO : ClassId} {pc pc' : Nat} {L : List (Option Value)} {S : List Value} {ws : va_W} {ao ta : Nat} {B : Nat → Nat → Nat} {T : Nat → TS} {MB : Nat → Nat} {t : TS} {b Ln i z tO : Nat} {xs : Nat → Int32}
theorem j_bool {x : Int32} (C : Cx p R s m args meth c cells slots n D A cc own Ts rt0 cI cO) (d0 : decode cc pc = .ok (.ifCond .eq 7, 3)) (d1 : decode cc (pc + 3) = .ok (.iconst 1, 1)) (d2 : decode cc (pc + 4) = .ok (.goto 4, 3)) (d3 : decode cc (pc + 7) = .ok (.iconst 0, 1)) (hp : pc + 8 = pc')
    (k : J p l e R s m args below meth c cells slots Q n D A (pc') (L) (.int (bz x) :: S) (ws)) : J p l e R s m args below meth c cells slots Q n D A (pc) (L) (.int x :: S) (ws) := by
  subst hp
  refine j_if_eq (tgt := pc + 7) (pc' := pc + 3) C d0 (by omega) rfl (fun h => ?_) (fun h => ?_)
  · refine j_iconst (pc' := pc + 8) C d3 rfl 0 (by decide) ?_
    have e1 : bz x = 0 := if_pos h
    rw [e1] at k
    exact k
  · refine j_iconst (pc' := pc + 4) C d1 rfl 1 (by decide) ?_
    refine j_goto (pc' := pc + 8) C d2 (by omega) ?_
    have e1 : bz x = 1 := if_neg h
    rw [e1] at k
    exact k
theorem j_sld {x : Int32} (C : Cx p R s m args meth c cells slots n D A cc own Ts rt0 cI cO) (hX : va_X b Ln xs s s.heap ∧ b < s.heap.size ∧ ¬ A b) (hd : decode cc pc = .ok (.iaload, 1)) (hp : pc + 1 = pc') (j : Nat) (hj : x = nI j) (h : j < Ln) (hL : Ln ≤ 3072)
    (k : J p l e R s m args below meth c cells slots Q n D A (pc') (L) (.int (xs j) :: S) (ws)) : J p l e R s m args below meth c cells slots Q n D A (pc) (L) (.int x :: .ref b :: S) (ws) := by
  subst hp; subst hj; intro H locs ls hl hP hD hS
  refine va_sld C.1 C.2.1 hX.1 hX.2.1 hX.2.2 hS (vp_in_nI h (by omega)) hd ?_
  rw [nI_clamp (by omega)]
  exact k H locs ls hl hP hD hS
theorem j_slen (C : Cx p R s m args meth c cells slots n D A cc own Ts rt0 cI cO) (hX : va_X b Ln xs s s.heap ∧ b < s.heap.size ∧ ¬ A b) (hd : decode cc pc = .ok (.arraylength, 1)) (hp : pc + 1 = pc')
    (k : J p l e R s m args below meth c cells slots Q n D A (pc') (L) (.int (nI Ln) :: S) (ws)) : J p l e R s m args below meth c cells slots Q n D A (pc) (L) (.ref b :: S) (ws) := by
  subst hp; intro H locs ls hl hP hD hS
  exact va_slen C.1 C.2.1 hX.1 hX.2.1 hX.2.2 hS hd (k H locs ls hl hP hD hS)
theorem j_arg (C : Cx p R s m args meth c cells slots n D A cc own Ts rt0 cI cO) (hX : va_X b Ln xs s s.heap ∧ b < s.heap.size ∧ ¬ A b) (hL : Ln ≤ 3072) (hi : i + 6 ≤ Ln) {o1 o2 : Option Value} (k : Nat) (hk : k < 6) (zz : Int) (hz : Int32.ofInt zz = nI k) (d0 : decode cc pc = .ok (.aload_n 0, 1)) (d1 : decode cc (pc + 1) = .ok (.iload_n 3, 1)) (d2 : decode cc (pc + 2) = .ok (.iconst zz, 1)) (d3 : decode cc (pc + 3) = .ok (.iadd, 1)) (d4 : decode cc (pc + 4) = .ok (.iaload, 1)) (hp : pc + 5 = pc')
    (kk : J p l e R s m args below meth c cells slots Q n D A (pc') ([some (.ref b), o1, o2, some (.int (nI i))]) (.int (xs (i + k)) :: S) (ws)) : J p l e R s m args below meth c cells slots Q n D A (pc) ([some (.ref b), o1, o2, some (.int (nI i))]) (S) (ws) := by
  subst hp
  refine j_aload_n (pc' := pc + 1) C d0 rfl rfl ?_
  refine j_iload_n (pc' := pc + 2) C d1 rfl rfl ?_
  refine j_iconst (pc' := pc + 3) C d2 rfl (nI k) hz ?_
  refine j_iadd (pc' := pc + 4) C d3 rfl ?_
  exact j_sld C hX d4 rfl (i + k) (nI_add i k) (by omega) hL kk
theorem jl_X {post : Option Value → (Nat → TS) → Prop} {X : State → Prop} {rest : List Value} {y : MethodName} {wsd ws' : List Cond} {h maxL ix : Nat} {bytes : ByteArray} {rt : Option FieldType} {As : List Value} (C : Cx p R s m args meth c cells slots n D A cc own Ts rt0 cI cO) (hM : Kt l y wsd h (wX cI cO ao ta B) D cI cO X (.ref ao :: As) T post)
    (nA : Nat) (hG : GoodIn Ts (wsV own ix y.cls y wsd)) (hw : wsd = Cond.code y bytes maxL rt :: ws') (hd : y.cls ≠ "java/lang/invoke/MethodHandle" ∧ y.cls ≠ "java/lang/invoke/VarHandle" ∧ (parseMethodDescriptor y.desc).map (fun d => d.parameters.length) = some nA) (hR0 : h + 1 ≤ R.frames ∧ 8 + (maxL + 11) + 34 * h ≤ R.locals) (hnA : As.length = nA) (hst : S = As.reverse ++ .ref ao :: rest) (hrs : (rest.map fun v => v.category).sum ≤ 8)
    (hXb : ∀ (a : Array Value) (U : State) (g : JFrame) (mk : MethodId), X U → X (U.calling g mk a)) (hX : ∀ (H : Heap) (locs : List Loc) (U : State), va_S A s.heap H locs → U.heap = H → s.WarmedH U.vm → X U) (hyc : RX1 = y.cls) (hdec : decode cc pc = .ok (.invokevirtual ix, 3)) (hp : pc + 3 = pc')
    (kk : ∀ (v : Option Value) (u : Nat → TS), post v u → J p l e R s m args below meth c cells slots Q n D A (pc') (L) (v.toList ++ rest) (wL cI cO ao ta B u MB t)) : J p l e R s m args below meth c cells slots Q n D A (pc) (L) (S) (wL cI cO ao ta B T MB t) := by
  subst hp
  exact j_callV (wr := wM cI MB t) C hM nA hG hw hd hR0 hnA hst hrs hXb hX 1 0 rfl hyc (wX_obj cI cO ao ta B T) [0, 1, 2, 3, 4, 5, 6, 7, 8, 9, 10, 11, 12, 13, 14, 15, 16, 17, 18, 19, 20, 21, 22, 23, 24, 25, 26, 27, 28, 29, 30, 31] [32, 33, 34, 35, 36, 37, 38, 39, 40, 41, 42, 43] rfl rfl (by decide) (by decide) (by decide) (fun _ => rfl) hdec (fun v u hp => j_perm [12, 13, 14, 15, 16, 17, 18, 19, 20, 21, 22, 23, 24, 25, 26, 27, 28, 29, 30, 31, 32, 33, 34, 35, 36, 37, 38, 39, 40, 41, 42, 43, 0, 1, 2, 3, 4, 5, 6, 7, 8, 9, 10, 11] (by decide) rfl (kk v u hp))
theorem jl_M {post : Option Value → TS → Prop} {rest : List Value} {y : MethodName} {wsd ws' : List Cond} {h maxL ix : Nat} {bytes : ByteArray} {rt : Option FieldType} {As : List Value} (C : Cx p R s m args meth c cells slots n D A cc own Ts rt0 cI cO) (hM : Kt l y wsd h (wM cI MB) D cI cO (fun _ => True) (.ref (MB 10) :: As) t post)
    (nA : Nat) (hG : GoodIn Ts (wsV own ix y.cls y wsd)) (hw : wsd = Cond.code y bytes maxL rt :: ws') (hd : y.cls ≠ "java/lang/invoke/MethodHandle" ∧ y.cls ≠ "java/lang/invoke/VarHandle" ∧ (parseMethodDescriptor y.desc).map (fun d => d.parameters.length) = some nA) (hR0 : h + 1 ≤ R.frames ∧ 8 + (maxL + 11) + 34 * h ≤ R.locals) (hnA : As.length = nA) (hst : S = As.reverse ++ .ref (MB 10) :: rest) (hrs : (rest.map fun v => v.category).sum ≤ 8)
    (hyc : RX2 = y.cls) (hdec : decode cc pc = .ok (.invokevirtual ix, 3)) (hp : pc + 3 = pc')
    (kk : ∀ (v : Option Value) (u : TS), post v u → J p l e R s m args below meth c cells slots Q n D A (pc') (L) (v.toList ++ rest) (wL cI cO ao ta B T MB u)) : J p l e R s m args below meth c cells slots Q n D A (pc) (L) (S) (wL cI cO ao ta B T MB t) := by
  subst hp
  exact j_callV (wr := wX cI cO ao ta B T) C hM nA hG hw hd hR0 hnA hst hrs (fun _ _ _ _ _ => trivial) (fun _ _ _ _ _ _ => trivial) 2 10 rfl hyc (wM_obj cI MB t) [32, 33, 34, 35, 36, 37, 38, 39, 40, 41, 42, 43] [0, 1, 2, 3, 4, 5, 6, 7, 8, 9, 10, 11, 12, 13, 14, 15, 16, 17, 18, 19, 20, 21, 22, 23, 24, 25, 26, 27, 28, 29, 30, 31] rfl rfl (by decide) (by decide) (by decide) (fun _ => rfl) hdec kk
end LAW0
