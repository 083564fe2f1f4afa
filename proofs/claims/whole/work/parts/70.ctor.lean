
/-! constructors: rows that make cells, and the contract of a constructor -/
def rmC (h mc ms : Nat) : Room := { frames := h, cells := mc, slots := ms, locals := 34 * h }
def Qn {σ : Type} (D : va_G) (wf : σ → va_W) (post : σ → Prop) (A : Nat → Prop) : Array Value → State → Outcome → State → Prop := fun _ st oc t => (∃ u : σ, oc = .returned none ∧ post u ∧ va_P D vwCl (wf u) t.heap ∧ va_D A (wf u)) ∧ va_F A st t
def Kc (l : Launch) (y : MethodName) (wsd : List Cond) (h mc ms : Nat) {σ : Type} (w0 : va_W) (wf : σ → va_W) (D : va_G) (cI cO : ClassId) (X : State → Prop) (vs : List Value) (post : σ → Prop) : Prop :=
  ∀ sz : Nat, Met l y wsd (rmC h mc ms) (va_Pc vs (fun U => U.heap.size = sz ∧ va_P D vwCl w0 U.heap ∧ va_K D vwCl (tyA cI cO) U ∧ va_D (fun _ => True) w0 ∧ X U)) (Qn D wf post (va_A w0 sz)) mc ms (va_A w0 sz)
section ENC
variable {p : Program} {l : Launch} {e : Env} {R : Room} {s : State} {m : MethodId} {args : Array Value} {below : List Frame} {meth : Method} {c : Code} {cells slots : Nat} {Q : State → Prop} {n : Nat} {D : va_G} {A : Nat → Prop} {cc : ByteArray} {own : String} {Ts : List Cond} {ret : Option FieldType} {cI cO : ClassId} {pc pc' : Nat} {L : List (Option Value)} {S : List Value} {ws : va_W}
theorem Cx.more {k1 k2 : Nat} (C : Cx p R s m args meth c cells slots n D A cc own Ts ret cI cO) (h1 : k1 ≤ R.cells) (h2 : k2 ≤ R.slots) : Cx p R s m args meth c k1 k2 n D A cc own Ts ret cI cO := ⟨C.1, C.2.1, C.2.2.1, C.2.2.2.1, C.2.2.2.2.1, C.2.2.2.2.2.1, C.2.2.2.2.2.2.1, C.2.2.2.2.2.2.2.1, h1, h2, C.2.2.2.2.2.2.2.2.2.2⟩
theorem j_objInit {ix a : Nat} (C : Cx p R s m args meth c cells slots n D A cc own Ts ret cI cO) (hd : decode cc pc = .ok (.invokespecial ix, 3)) (hp : pc + 3 = pc') (h1 : Cond.methodLink own ix objectInit ∈ Ts) (h2 : Cond.instanceMethod objectInit ∈ Ts) (h3 : Cond.code objectInit ⟨#[0xb1]⟩ 1 none ∈ Ts) (hf : 1 ≤ R.frames) (hrs : (S.map fun v => v.category).sum + 12 ≤ R.locals)
    (kk : J p l e R s m args below meth c cells slots Q n D A (pc') (L) (S) (ws)) : J p l e R s m args below meth c cells slots Q n D A (pc) (L) (.ref a :: S) (ws) := by
  subst hp; intro H locs ls hl hP hD hS
  exact W.objInit C.1 C.2.1 C.2.2.2.1 (C.2.2.2.2.1 _ h1) (C.2.2.2.2.1 _ h2) (C.2.2.2.2.1 _ h3) rfl (hl.1.trans C.2.2.1.symm) rfl hd hf (by show 2 * 0 + _ + 12 ≤ _; omega) (kk H locs ls hl hP hD hS)
theorem j_newa {x : Int32} (C : Cx p R s m args meth c cells slots n D A cc own Ts ret cI cO) (hd : decode cc pc = .ok (.newarray .int, 2)) (hp : pc + 2 = pc') (h1 : Cond.arrayClass .int ∈ Ts) (N : Nat) (hx : x = nI N) (hN : N < 10000) (hc : cells + 1 ≤ R.cells) (hs : slots + N ≤ R.slots)
    (kk : ∀ q : Nat, J p l e R s m args below meth c (cells + 1) (slots + N) Q n D A (pc') (L) (.ref q :: S) (ws ++ [(q, .inl (cI, N, .inl (fun _ => 0)))])) : J p l e R s m args below meth c cells slots Q n D A (pc) (L) (.int x :: S) (ws) := by
  subst hp; subst hx; intro H locs ls hl hP hD hS
  refine va_newa C.1 C.2.1 (atype := .int) (C.2.2.2.2.1 _ h1) (ty := .int) rfl C.2.2.2.2.2.2.1 hP hD hS C.2.2.2.2.2.2.2.2.2.2 (a0 := (N, .inl (fun _ => 0))) (fun _ => rfl) ?_ (nI_clamp (by omega)) ?_ hc hs hd (fun q cA H1 hK1 hP1 hD1 hS1 => ?_)
  · exact nI_pos (by omega)
  · show N * 4 ≤ _
    omega
  · have e1 : cA = cI := Option.some.inj ((hK1.2 2 _ rfl).2.symm.trans (C.2.2.2.2.2.2.1.2 0 _ rfl).2)
    subst e1
    exact kk q H1 locs ls hl hP1 hD1 hS1
theorem j_newq {ix : Nat} {x : Int32} (C : Cx p R s m args meth c cells slots n D A cc own Ts ret cI cO) (hd : decode cc pc = .ok (.anewarray ix, 3)) (hp : pc + 3 = pc') (h1 : Cond.classLink own ix "CountLearner$Table" ∈ Ts) (hO : va_AO "CountLearner$Table" s) (N : Nat) (hx : x = nI N) (hN : N < 10000) (hc : cells + 1 ≤ R.cells) (hs : slots + N ≤ R.slots)
    (kk : ∀ q : Nat, J p l e R s m args below meth c (cells + 1) (slots + N) Q n D A (pc') (L) (.ref q :: S) (ws ++ [(q, .inl (cO, N, .inr (.inr (.inr (.inr (fun _ => none))))))])) : J p l e R s m args below meth c cells slots Q n D A (pc) (L) (.int x :: S) (ws) := by
  subst hp; subst hx; intro H locs ls hl hP hD hS
  refine va_newq C.1 C.2.1 C.2.2.2.1 (C.2.2.2.2.1 _ h1) hO C.2.2.2.2.2.2.1 hP hD hS C.2.2.2.2.2.2.2.2.2.2 (N' := N) ?_ (nI_clamp (by omega)) (by omega) hc hs hd (fun q cA H1 hK1 hP1 hD1 hS1 => ?_)
  · exact nI_pos (by omega)
  · have e1 : cA = cO := by
      obtain ⟨k1, c1, -, -, -, g1⟩ := (hK1.2 2 _ rfl).2
      obtain ⟨k2, c2, -, -, -, g2⟩ := (C.2.2.2.2.2.2.1.2 1 _ rfl).2
      exact Option.some.inj (g1.symm.trans g2)
    subst e1
    exact kk q H1 locs ls hl hP1 hD1 hS1
theorem j_new {ix ci N : Nat} {Cn : String} {T : u_T} (C : Cx p R s m args meth c cells slots n D A cc own Ts ret cI cO) (hd : decode cc pc = .ok (.new ix, 3)) (hp : pc + 3 = pc') (ty : Nat → FieldType) (hty : ∀ k, k < N → parseFieldDescriptor (T k).2.2.1 = some (ty k)) (hc : vwCl[ci]? = some (Cn, T, N)) (hin : ∀ w ∈ u_ws Cn T N, w ∈ Ts) (h1 : Cond.classLink own ix Cn ∈ Ts) (h2 : Cond.instantiable Cn N ∈ Ts) (h3 : Cond.initialized Cn ∈ Ts) (fs : List Value) (hfs : ∀ j, j < N → defaultValue (ty j) = vp_V fs j) (hcl : cells + 1 ≤ R.cells) (hsl : slots + N ≤ R.slots)
    (kk : ∀ q : Nat, J p l e R s m args below meth c (cells + 1) (slots + N) Q n D A (pc') (L) (.ref q :: S) (ws ++ [(q, .inr (ci, fs))])) : J p l e R s m args below meth c cells slots Q n D A (pc) (L) (S) (ws) := by
  subst hp; intro H locs ls hl hP hD hS
  exact va_new C.1 C.2.1 C.2.2.2.2.1 hin ty hty C.2.2.2.1 (C.2.2.2.2.1 _ h1) (C.2.2.2.2.1 _ h2) (C.2.2.2.2.1 _ h3) C.2.2.2.2.2.2.1 hP hD hS C.2.2.2.2.2.2.2.2.2.2 hc hfs hcl hsl hd (fun q H1 hP1 hD1 hS1 => kk q H1 locs ls hl hP1 hD1 hS1)
theorem j_putF {ix : Nat} {a ci N : Nat} {Cn : String} {T : u_T} {fs : List Value} {v : Value} {ty : FieldType} {ws' : va_W} (C : Cx p R s m args meth c cells slots n D A cc own Ts ret cI cO) (hini : meth.name = "<init>") (hd : decode cc pc = .ok (.putfield ix, 3)) (hp : pc + 3 = pc') (q0 k : Nat) (ty0 : Nat → FieldType) (hty : ∀ k, k < N → parseFieldDescriptor (T k).2.2.1 = some (ty0 k)) (hnm : ∀ a, a < N → ∀ b, b < N → a ≠ b → (T a).2.1 ≠ (T b).2.1) (he : ws[q0]? = some (a, .inr (ci, fs))) (hc : vwCl[ci]? = some (Cn, T, N)) (hin : ∀ w ∈ u_ws Cn T N, w ∈ Ts) (hk : k < N) (hm : Cond.fieldLink own ix (T k).1 (T k).2.1 (T k).2.2.1 ∈ Ts) (hfin : (T k).2.2.2 = true) (hdecl : (T k).1 = own) (hty1 : parseFieldDescriptor (T k).2.2.1 = some ty) (hn : narrow ty v = v) (hfit : fits ty v = true) (hl0 : k < fs.length) (hw : ws.set q0 (a, .inr (ci, fs.set k v)) = ws')
    (kk : J p l e R s m args below meth c cells slots Q n D A (pc') (L) (S) (ws')) : J p l e R s m args below meth c cells slots Q n D A (pc) (L) (v :: .ref a :: S) (ws) := by
  subst hp; subst hw; intro H locs ls hl hP hD hS
  exact va_putF C.1 C.2.1 C.2.2.2.2.1 hin ty0 hty hnm C.2.2.2.1 C.2.2.2.2.2.2.1 hP hD hS q0 he hc k hk (C.2.2.2.2.1 _ hm) (fun _ h => h) hfin hini hdecl hty1 hn hfit hl0 hd (fun H1 locs1 hP1 hD1 hS1 => kk H1 locs1 ls hl hP1 hD1 hS1)
theorem j_astq {a v len : Nat} {vs : List Value} {f : Nat → Option Nat} {i : Int32} {ws' : va_W} (C : Cx p R s m args meth c cells slots n D A cc own Ts ret cI cO) (hd : decode cc pc = .ok (.aastore, 1)) (hp : pc + 1 = pc') (q0 qk : Nat) (ha : ws[q0]? = some (a, .inl (cO, len, .inr (.inr (.inr (.inr f)))))) (hv : ws[qk]? = some (v, .inr (0, vs))) (hi : vp_in i len) (hw : ws.set q0 (a, .inl (cO, len, .inr (.inr (.inr (.inr (va_up f i.toNatClampNeg (some v))))))) = ws')
    (kk : J p l e R s m args below meth c cells slots Q n D A (pc') (L) (S) (ws')) : J p l e R s m args below meth c cells slots Q n D A (pc) (L) (.ref v :: .int i :: .ref a :: S) (ws) := by
  subst hp; subst hw; intro H locs ls hl hP hD hS
  exact va_astq C.1 C.2.1 C.2.2.2.2.2.2.1 hP hD hS q0 1 qk 0 (r := (RX0, TX0, 14)) ha rfl hv rfl hi hd (fun H1 locs1 hP1 hD1 hS1 => kk H1 locs1 ls hl hP1 hD1 hS1)
theorem j_cret {σ : Type} {wf : σ → va_W} {post : σ → Prop} {mc ms : Nat} (u : σ) (C : Cx p R s m args meth c mc ms n D A cc own Ts none cI cO) (hd : decode cc pc = .ok (.return_, 1)) (hpo : post u) : J p l e R s m args below meth c mc ms (MQ below (Qn D wf post A) args s mc ms A) n D A pc L [] (wf u) := by
  intro H locs ls hl hP hD hS
  exact W.vret C.1 C.2.1 C.2.2.2.2.2.2.2.1 (fun t ht _ => ⟨⟨u, rfl, hpo, by rw [ht]; exact hP, hD⟩, hS.F ht⟩) hS.2.2 hd (hlocks := C.2.2.2.2.2.1)
theorem j_tailC {σ : Type} {w0 : va_W} {wf : σ → va_W} {post : σ → Prop} {rest : List Value} {wr : va_W} {aL : Array Value} {mc ms : Nat} (C : Cx p R s m args meth c cells slots n D A cc own Ts ret cI cO) (isC isR : List Nat) (hC : isC.map (fun i => ws[i]?) = w0.map some) (hR : isR.map (fun i => ws[i]?) = wr.map some) (hnC : va_nd isC = true) (hn : va_nd isR = true) (hdis : ∀ i ∈ isR, i ∉ isC)
    (run : ∀ (H : Heap) (locs : List Loc) (ls : Array Slot), lvh ls n L → va_P D vwCl w0 H → va_D A w0 → va_S A s.heap H locs → va_Run p l e R s m args below meth c H locs cells slots mc ms (F0 m pc ls S) rest (Qn D wf post (va_A w0 H.size) aL) (va_A w0 H.size))
    (kk : ∀ (u : σ), post u → J p l e R s m args below meth c (cells + mc) (slots + ms) Q n D A (pc + 3) (L) (rest) (wr ++ wf u)) : J p l e R s m args below meth c cells slots Q n D A (pc) (L) (S) (ws) := by
  intro H locs ls hl hP hD hS
  have hPc : va_P D vwCl w0 H := by
    intro k q hk
    have h1 : (isC.map (fun i => ws[i]?))[k]? = some (some q) := by rw [hC, List.getElem?_map, hk]; rfl
    rw [List.getElem?_map] at h1
    cases hi : isC[k]? with
    | none => rw [hi] at h1; cases h1
    | some i => rw [hi] at h1; exact hP i q (Option.some.inj h1)
  have hDc : va_D A w0 := hD.sub isC hnC hC
  have hFc := va_free (wc := w0) hD hS C.2.2.2.2.2.2.2.2.2.2 isC hC
  intro T hT X
  obtain ⟨v, st₀, t, T', L2, h0, X', hL, e1, e2, ⟨⟨u, hv, hp, hb, hd1⟩, hz, hk⟩, st⟩ := run H locs ls hl hPc hDc hS T hT X
  cases hv
  rw [h0] at hz hk
  have hP1 : va_P D vwCl (wf u) T'.heap := by rw [e1]; exact hb
  obtain ⟨hP2, hD2⟩ := va_join (wr := wr) (w1 := wf u) hP hD isC isR hC hR hn hdis (fun q h1 h2 => by rw [e1]; exact hk q h1 h2) hFc hP1 hd1
  obtain ⟨t2, a1, b1⟩ := kk u hp T'.heap (locs ++ L2) ls hl hP2 hD2
    ⟨Nat.le_trans hS.1 (by rw [e1]; exact hz), fun q h1 h2 => by rw [e1, hk q (Nat.lt_of_lt_of_le h1 hS.1) (fun z => h2 (hFc q z))]; exact hS.2.1 q h1 h2, fun q hq => by
      rcases List.mem_append.mp hq with h | h
      · exact hS.2.2 q h
      · exact hFc _ (hL q h)⟩ T' rfl X'
  exact ⟨t2, st t2 a1, b1⟩
theorem j_preC {w0 : va_W} {X : State → Prop} {vs : List Value} {H : Heap} {locs : List Loc} (C : Cx p R s m args meth c cells slots n D A cc own Ts ret cI cO) (hXb : ∀ (a : Array Value) (U : State) (g : JFrame) (mk : MethodId), X U → X (U.calling g mk a)) (hX : ∀ (U : State), s.WarmedH U.vm → X U) (hP : va_P D vwCl w0 H) (hD : va_D A w0) (hS : va_S A s.heap H locs) : PreS s H (va_Pc vs (fun U => U.heap.size = H.size ∧ va_P D vwCl w0 U.heap ∧ va_K D vwCl (tyA cI cO) U ∧ va_D (fun _ => True) w0 ∧ X U)) vs :=
  ⟨fun a U g mk q => by obtain ⟨q0, q1, qP, qK, qD, qX⟩ := q; exact ⟨q0, q1, qP, va_K.moved (u := U) (U := U.calling g mk a) (Vm.Alike.refl U.vm) qK, qD, hXb a U g mk qX⟩, fun U hU hW => ⟨rfl, by rw [hU], by rw [hU]; exact hP, va_K.moved hW.alike C.2.2.2.2.2.2.1, hD.weaken (fun _ _ _ _ => trivial), hX U hW⟩⟩
theorem j_callI {σ : Type} {w0 : va_W} {wf : σ → va_W} {post : σ → Prop} {X : State → Prop} {rest : List Value} {wr : va_W} {y : MethodName} {wsd ws' : List Cond} {h mc ms maxL ix : Nat} {bytes : ByteArray} {b : Nat} (C : Cx p R s m args meth c cells slots n D A cc own Ts ret cI cO) (hM : Kc l y wsd h mc ms w0 wf D cI cO X [.ref b] post)
    (hG : GoodIn Ts wsd) (hw : wsd = Cond.code y bytes maxL none :: ws') (h1 : Cond.initialized y.cls ∈ Ts) (h2 : Cond.methodLink own ix y ∈ Ts) (h3 : Cond.instanceMethod y ∈ Ts) (hyn : y.name = "<init>") (hd : y.cls ≠ "java/lang/invoke/MethodHandle" ∧ y.cls ≠ "java/lang/invoke/VarHandle" ∧ (parseMethodDescriptor y.desc).map (fun d => d.parameters.length) = some 0) (hR0 : h + 1 ≤ R.frames ∧ 8 + (maxL + 11) + 34 * h ≤ R.locals) (hst : S = .ref b :: rest) (hrs : (rest.map fun v => v.category).sum ≤ 8)
    (hXb : ∀ (a : Array Value) (U : State) (g : JFrame) (mk : MethodId), X U → X (U.calling g mk a)) (hX : ∀ (U : State), s.WarmedH U.vm → X U)
    (isC isR : List Nat) (hC : isC.map (fun i => ws[i]?) = w0.map some) (hR : isR.map (fun i => ws[i]?) = wr.map some) (hnC : va_nd isC = true) (hn : va_nd isR = true) (hdis : ∀ i ∈ isR, i ∉ isC) (hdec : decode cc pc = .ok (.invokespecial ix, 3)) (hp : pc + 3 = pc') (hcl : cells + mc ≤ R.cells) (hsl : slots + ms ≤ R.slots)
    (kk : ∀ (u : σ), post u → J p l e R s m args below meth c (cells + mc) (slots + ms) Q n D A (pc') (L) (rest) (wr ++ wf u)) : J p l e R s m args below meth c cells slots Q n D A (pc) (L) (S) (ws) := by
  subst hp
  refine j_tailC C isC isR hC hR hnC hn hdis (aL := (Value.ref b :: []).toArray) (fun H locs ls hl hP hD hS => ?_) kk
  exact va_runI (As := []) (rest := rest) (b := b) ⟨C.1, C.2.1, C.2.2.1, C.2.2.2.1, C.2.2.2.2.1⟩ (hM H.size) (cwI 0 C.2.2.2.2.1 hG hw rfl rfl (C.2.2.2.2.1 _ h1) (C.2.2.2.2.1 _ h2) (C.2.2.2.2.1 _ h3) hyn hd hR0) (j_preC C hXb hX hP hD hS) rfl rfl hl.1 hst (lv_room hrs) hdec ⟨hcl, hsl⟩
theorem j_callIN {σ : Type} {w0 : va_W} {wf : σ → va_W} {post : σ → Prop} {X : State → Prop} {rest : List Value} {wr : va_W} {y : MethodName} {host : String} {wsd ws' : List Cond} {h mc ms maxL ix : Nat} {bytes : ByteArray} {b : Nat} (C : Cx p R s m args meth c cells slots n D A cc own Ts ret cI cO) (hM : Kc l y wsd h mc ms w0 wf D cI cO X [.ref b] post)
    (hG : GoodIn Ts wsd) (hw : wsd = Cond.code y bytes maxL none :: ws') (h1 : Cond.initialized y.cls ∈ Ts) (h2 : va_Nw (.methodLinkNest own ix y host) s) (h3 : Cond.instanceMethod y ∈ Ts) (hyn : y.name = "<init>") (hd : y.cls ≠ "java/lang/invoke/MethodHandle" ∧ y.cls ≠ "java/lang/invoke/VarHandle" ∧ (parseMethodDescriptor y.desc).map (fun d => d.parameters.length) = some 0) (hR0 : h + 1 ≤ R.frames ∧ 8 + (maxL + 11) + 34 * h ≤ R.locals) (hst : S = .ref b :: rest) (hrs : (rest.map fun v => v.category).sum ≤ 8)
    (hXb : ∀ (a : Array Value) (U : State) (g : JFrame) (mk : MethodId), X U → X (U.calling g mk a)) (hX : ∀ (U : State), s.WarmedH U.vm → X U)
    (isC isR : List Nat) (hC : isC.map (fun i => ws[i]?) = w0.map some) (hR : isR.map (fun i => ws[i]?) = wr.map some) (hnC : va_nd isC = true) (hn : va_nd isR = true) (hdis : ∀ i ∈ isR, i ∉ isC) (hdec : decode cc pc = .ok (.invokespecial ix, 3)) (hp : pc + 3 = pc') (hcl : cells + mc ≤ R.cells) (hsl : slots + ms ≤ R.slots)
    (kk : ∀ (u : σ), post u → J p l e R s m args below meth c (cells + mc) (slots + ms) Q n D A (pc') (L) (rest) (wr ++ wf u)) : J p l e R s m args below meth c cells slots Q n D A (pc) (L) (S) (ws) := by
  subst hp
  refine j_tailC C isC isR hC hR hnC hn hdis (aL := (Value.ref b :: []).toArray) (fun H locs ls hl hP hD hS => ?_) kk
  exact va_runIN (As := []) (rest := rest) (b := b) ⟨C.1, C.2.1, C.2.2.1, C.2.2.2.1, C.2.2.2.2.1⟩ (hM H.size) ⟨va_cnB 0 C.2.2.2.2.1 hG hw rfl rfl h2 (C.2.2.2.2.1 _ h1) hd hR0, hyn, C.2.2.2.2.1 _ h3⟩ (j_preC C hXb hX hP hD hS) rfl rfl hl.1 hst (lv_room hrs) hdec ⟨hcl, hsl⟩
end ENC
theorem Kc_of {l : Launch} {y : MethodName} {wsd ws' : List Cond} {h mc ms n : Nat} {σ : Type} {w0 : va_W} {wf : σ → va_W} {D : va_G} {cI cO : ClassId} {X : State → Prop} {vs : List Value} {post : σ → Prop} {cc : ByteArray} (hw : wsd = Cond.code y cc n none :: ws') (hy : plainName y.cls = true) (hyn : y.name = "<init>") (hlen : vs.length ≤ n) (hcat0 : (vs.all fun v => v.category == 1) = true) (L : List (Option Value)) (hL : L = vs.map some ++ List.replicate (n - vs.length) none)
    (body : ∀ (p : Program) (e : Env) (s : State) (m : MethodId) (args : Array Value) (below : List Frame) (meth : Method) (c : Code) (A : Nat → Prop), Cx p (rmC h mc ms) s m args meth c 0 0 n D A cc y.cls wsd none cI cO → meth.name = "<init>" → X s → J p l e (rmC h mc ms) s m args below meth c 0 0 (MQ below (Qn D wf post A) args s mc ms A) n D A 0 L [] w0) : Kc l y wsd h mc ms w0 wf D cI cO X vs post := by
  intro sz
  have hcat : ∀ v ∈ vs, v.category = 1 := fun v hv => by have := List.all_eq_true.mp hcat0 v hv; simpa using this
  refine Met.ofW (cc := cc) (maxL := n) (ret := none) hy hw ?_
  intro p e s m args below meth c s₁ B hml hv
  obtain ⟨rfl, hsz, hP, hK, hD0, hX⟩ := hv
  subst hsz
  have hown : s.vm.findClass y.cls = some m.cls := findClass_of_methodNamed B.named
  have hin : meth.name = "<init>" := (name_of_methodNamed B.named B.method).1.trans hyn
  have hts := atoms_spec (ws := wsd) B.pre
  have hl := lv_entry vs (n := n) (by rw [lg_sl_len vs hcat]; exact hlen)
  rw [lg_entry_eq]
  refine body p e s m vs.toArray below meth c (va_A w0 s.heap.size) ⟨B.exec, B.bytes, hml, hown, hts, B.notSynchronized, hK, B.returns, Nat.zero_le _, Nat.zero_le _, fun q hq => Or.inr hq⟩ hin hX s.heap [] _ ?_ hP hD0.self va_S.rf
  refine ⟨hl.1, hl.2.1, fun q hq => ?_⟩
  obtain ⟨k, v⟩ := q
  rw [lvT_mem, hL] at hq
  have hv : vs[k]? = some v := by
    rcases Nat.lt_or_ge k vs.length with hk | hk
    · rw [List.getElem?_append_left (by simpa using hk), List.getElem?_map] at hq
      cases hvk : vs[k]? with
      | none => rw [hvk] at hq; cases hq
      | some w => rw [hvk] at hq; simpa using hq
    · rw [List.getElem?_append_right (by simpa using hk)] at hq
      have := List.eq_of_mem_replicate (List.mem_of_getElem? hq)
      cases this
  have := lv_args_mem vs 0 k v hcat hv
  rw [Nat.zero_add] at this
  exact hl.2.2 (k, v) this
