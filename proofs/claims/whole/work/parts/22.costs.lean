/-! join, the statics, costs -/
def sp1 (T : Nat → TS) (i : Nat) : Nat → TS := uT T i (spreadF (T i))
def spAll (T : Nat → TS) : Nat → TS := sp1 (sp1 (sp1 T 0) 1) 2
theorem spreadF_1 (t : TS) {k : Nat} (h : k ≠ 12) (h2 : k ≠ 13) : (spreadF t).1 k = t.1 k := by
  unfold spreadF; split
  · show upd _ 13 1 k = _
    rw [pk_un h2, settleF_1 t h]
  · rfl
theorem spreadF_k (t : TS) {k : Nat} (h1 : k ≠ 7) (h2 : k ≠ 10) (h3 : k ≠ 11) (h4 : k ≠ 9) : (spreadF t).2 k = t.2 k := by
  unfold spreadF; split
  · show ua (ua _ 9 _) 11 _ k = _
    rw [ua_n _ _ h3, ua_n _ _ h4, settleF_k t h1 h2 h3]
  · rfl
theorem spreadF_ok {t : TS} (h : okT t) : okT (spreadF t) := by
  unfold okT at h ⊢
  rw [spreadF_1 t (by decide) (by decide), spreadF_k t (by decide) (by decide) (by decide) (by decide), spreadF_k t (by decide) (by decide) (by decide) (by decide)]
  exact h
theorem uT_ok {T : Nat → TS} (h : okX T) (i : Nat) {t : TS} (ht : okT t) : okX (uT T i t) := by
  intro j hj
  unfold uT
  split
  · exact ht
  · exact h j hj
theorem sp1_ok {T : Nat → TS} (h : okX T) {i : Nat} (hi : i < 3) : okX (sp1 T i) := uT_ok h i (spreadF_ok (h i hi))
theorem spAll_ok {T : Nat → TS} (h : okX T) : okX (spAll T) := sp1_ok (sp1_ok (sp1_ok h (by decide)) (by decide)) (by decide)
def xjoinS (T : Nat → TS) (i j lo : Nat) : Nat → Int64
  | 0 => 0
  | n + 1 => xjoinS T i j lo n + rowsOfF (T i) (lo + n) 0 * rowsOfF (T j) (lo + n) 0
def xJoin (T : Nat → TS) (tb ub a b : Int32) : Int64 × (Nat → TS) := if isInF tb 0 2 = 0 ∨ isInF ub 0 2 = 0 ∨ isSpanF a b = 0 then (-1, T) else (xjoinS (sp1 (sp1 T tb.toNatClampNeg) ub.toNatClampNeg) tb.toNatClampNeg ub.toNatClampNeg a.toNatClampNeg (b.toNatClampNeg - a.toNatClampNeg), sp1 (sp1 T tb.toNatClampNeg) ub.toNatClampNeg)
def ordT (j : Nat) : Int32 := [0, 1, 2, 0, 2, 1, 1, 0, 2, 1, 2, 0, 2, 0, 1, 2, 1, 0].getD j 0
def OT (z tO : Nat) (U : State) : Prop := z ≤ U.heap.size ∧ va_Z RX1 "ORDER_TABLES" "[I" (.ref tO) (fun q => z ≤ q) U U.heap ∧ va_T .int tO 18 (fun j => .int (ordT j)) (fun q => z ≤ q) U U.heap
theorem OT_b (z tO : Nat) (a : Array Value) (U : State) (g : JFrame) (mk : MethodId) (h : OT z tO U) : OT z tO (U.calling g mk a) :=
  ⟨h.1, va_Z.moved (u := U) (U := U.calling g mk a) (Vm.Alike.refl U.vm) h.2.1, va_T.moved (u := U) (U := U.calling g mk a) (Vm.Alike.refl U.vm) h.2.2⟩
theorem OT_c {z tO : Nat} {s : State} {A : Nat → Prop} (hA : ∀ q, A q → z ≤ q) (h : OT z tO s) (H : Heap) (locs : List Loc) (U : State) (hS : va_S A s.heap H locs) (hU : U.heap = H) (hW : s.WarmedH U.vm) : OT z tO U := by
  have hk : ∀ a : Nat, a < s.heap.size → ¬ (fun q => z ≤ q) a → U.heap[a]? = s.heap[a]? := fun a h1 h2 => by rw [hU]; exact hS.2.1 a h1 (fun q => h2 (hA a q))
  exact ⟨Nat.le_trans h.1 (by rw [hU]; exact hS.1), (h.2.1.kept hk).moved hW.alike, (h.2.2.kept hk).moved hW.alike⟩
def wz (z ao ta : Nat) (B : Nat → Nat → Nat) : Prop := ∀ (cI cO : ClassId) (T : Nat → TS), ∀ q ∈ (wX cI cO ao ta B T).map Prod.fst, z ≤ q
theorem wz_A {z ao ta : Nat} {B : Nat → Nat → Nat} (h : wz z ao ta B) {cI cO : ClassId} {T : Nat → TS} {sz : Nat} (hz : z ≤ sz) {q : Nat} (hq : va_A (wX cI cO ao ta B T) sz q) : z ≤ q := by
  rcases hq with ⟨k, e, hk⟩ | hq
  · exact h cI cO T q (List.mem_map.mpr ⟨(q, e), List.mem_of_getElem? hk, rfl⟩)
  · exact Nat.le_trans hz hq
section ENX2
variable {p : Program} {l : Launch} {e : Env} {R : Room} {s : State} {m : MethodId} {args : Array Value} {below : List Frame} {meth : Method} {c : Code} {cells slots : Nat} {Q : State → Prop} {n : Nat} {D : va_G} {A : Nat → Prop} {cc : ByteArray} {own : String} {Ts : List Cond} {ret : Option FieldType} {cI cO : ClassId} {pc pc' : Nat} {L : List (Option Value)} {S : List Value} {ws : va_W} {z tO : Nat}
theorem j_gets (C : Cx p R s m args meth c cells slots n D A cc own Ts ret cI cO) {ix : Nat} (hd : decode cc pc = .ok (.getstatic ix, 3)) (hp : pc + 3 = pc') (hA : ∀ q, A q → z ≤ q) (hO : OT z tO s) (hm : Cond.fieldLink own ix RX1 "ORDER_TABLES" "[I" ∈ Ts)
    (kk : J p l e R s m args below meth c cells slots Q n D A (pc') (L) (.ref tO :: S) (ws)) : J p l e R s m args below meth c cells slots Q n D A (pc) (L) (S) (ws) := by
  subst hp; intro H locs ls hl hP hD hS
  exact va_gets C.1 C.2.1 (hO.2.1.narrow hA) hS C.2.2.2.1 (C.2.2.2.2.1 _ hm) (fun _ h => h) hd (kk H locs ls hl hP hD hS)
theorem j_ord (C : Cx p R s m args meth c cells slots n D A cc own Ts ret cI cO) (hd : decode cc pc = .ok (.iaload, 1)) (hp : pc + 1 = pc') (hA : ∀ q, A q → z ≤ q) (hO : OT z tO s) (j : Nat) {x : Int32} (hx : x = nI j) (hj : j < 18)
    (kk : J p l e R s m args below meth c cells slots Q n D A (pc') (L) (.int (ordT j) :: S) (ws)) : J p l e R s m args below meth c cells slots Q n D A (pc) (L) (.int x :: .ref tO :: S) (ws) := by
  subst hp; subst hx; intro H locs ls hl hP hD hS
  exact va_ti C.1 C.2.1 (hO.2.2.narrow hA) hS (vp_in_nI hj (by decide)) (by rw [nI_clamp (by omega)]) hd (kk H locs ls hl hP hD hS)
theorem jc_sameX {σ : Type} {wfc : σ → va_W} {uc : σ} {post : Option Value → σ → Prop} {rest : List Value} {y : MethodName} {wsd ws' : List Cond} {h maxL ix : Nat} {bytes : ByteArray} {rt : Option FieldType} {b : Nat} {As : List Value} (C : Cx p R s m args meth c cells slots n D A cc own Ts ret cI cO) (hM : Kt l y wsd h wfc D cI cO (OT z tO) (.ref b :: As) uc post) (hA : ∀ q, A q → z ≤ q) (hO : OT z tO s)
    (nA : Nat) (hG : GoodIn Ts (wsV own ix y.cls y wsd)) (hw : wsd = Cond.code y bytes maxL rt :: ws') (hd : y.cls ≠ "java/lang/invoke/MethodHandle" ∧ y.cls ≠ "java/lang/invoke/VarHandle" ∧ (parseMethodDescriptor y.desc).map (fun d => d.parameters.length) = some nA) (hR0 : h + 1 ≤ R.frames ∧ 8 + (maxL + 11) + 34 * h ≤ R.locals) (hnA : As.length = nA) (hst : S = As.reverse ++ .ref b :: rest) (hrs : (rest.map fun v => v.category).sum ≤ 8)
    (ci q0 : Nat) {cl0 : vw_C} {fs : List Value} (hcl : vwCl[ci]? = some cl0) (hcn : cl0.1 = y.cls) (hob : (wfc uc)[q0]? = some (b, .inr (ci, fs)))
    (haddr : ∀ u, (wfc u).map Prod.fst = (wfc uc).map Prod.fst) (hdec : decode cc pc = .ok (.invokevirtual ix, 3)) (hp : pc + 3 = pc')
    (kk : ∀ (v : Option Value) (u : σ), post v u → J p l e R s m args below meth c cells slots Q n D A (pc') (L) (v.toList ++ rest) (wfc u)) : J p l e R s m args below meth c cells slots Q n D A (pc) (L) (S) (wfc uc) := by
  subst hp
  exact j_callV (wr := []) C hM nA hG hw hd hR0 hnA hst hrs (fun a U g mk h => OT_b z tO a U g mk h) (fun H locs U h1 h2 h3 => OT_c hA hO H locs U h1 h2 h3) ci q0 hcl hcn hob (List.range (wfc uc).length) [] (rng_self _) rfl (nd_range _) rfl (fun i h => by cases h) haddr hdec kk
end ENX2
set_option maxRecDepth 100000 in
set_option maxHeartbeats 4000000 in
theorem c_spreadAll (l : Launch) (D : va_G) (cI cO : ClassId) (ao ta : Nat) (B : Nat → Nat → Nat) (T : Nat → TS) (hok : okX T) : Kt l yX1_spreadAll wsX1_spreadAll 5 (wX cI cO ao ta B) D cI cO (fun _ => True) [.ref ao] T (fun r u => r = none ∧ u = spAll T) := by
  refine Kt_of (cc := cX1_spreadAll) (n := 2) (ret := none) rfl (by decide +kernel) (Nat.le_of_ble_eq_true rfl) rfl [some (.ref ao), none] rfl ?_
  intro p e s m args below meth c A C _ _
  have hinX : ∀ w ∈ wsX10, w ∈ wsX1_spreadAll := by decide +kernel
  refine j_iconst (pc' := 1) C dX1_spreadAll_0 rfl 0 (by decide) ?_
  refine j_istore_n (pc' := 2) C dX1_spreadAll_1 rfl (by decide) rfl ?_
  show J p l e (rmH 5) s m args below meth c 0 0 (RQ below args s D (wX cI cO ao ta B) (fun r u => r = none ∧ u = spAll T) A) 2 D A 2 [some (.ref ao), some (.int (nI 0))] [] (wX cI cO ao ta B T)
  refine j_iload_n (pc' := 3) C dX1_spreadAll_2 rfl rfl ?_
  refine j_iconst (pc' := 4) C dX1_spreadAll_3 rfl 3 (by decide) ?_
  refine j_icmp_ge (tgt := 22) (pc' := 7) C dX1_spreadAll_4 (by decide) rfl (fun h4 => ?_) (fun h4 => ?_)
  · skip
    exact absurd h4 (by decide) -- done
  · skip
    refine j_aload_n (pc' := 8) C dX1_spreadAll_7 rfl rfl ?_
    refine jXa (pc' := 11) C dX1_spreadAll_8 rfl hinX (by decide +kernel) ?_
    refine j_iload_n (pc' := 12) C dX1_spreadAll_11 rfl rfl ?_
    refine jX_aald (pc' := 13) C dX1_spreadAll_12 rfl 0 rfl (by decide) ?_
    refine jX_callT (T := T) (pc' := 16) C 0 (by decide) (c_spread l D cI cO (B 0) (T 0) (hok 0 (by decide))) 0 gX1_spreadAll_X0_spread rfl (by decide +kernel) (by decide) rfl rfl (Nat.le_of_ble_eq_true rfl) rfl dX1_spreadAll_13 rfl (fun v1 u1 hp1 => ?_)
    obtain ⟨rfl, rfl⟩ := hp1
    show J p l e _ s m args below meth c 0 0 _ _ D A _ _ [] (wX cI cO ao ta B (sp1 (T) 0))
    refine j_iinc (pc' := 19) C dX1_spreadAll_16 rfl 1 (by decide) rfl (by decide) rfl ?_
    refine j_goto (pc' := 2) C dX1_spreadAll_19 (by decide) ?_
    rw [show (nI 0 : Int32) + 1 = nI 1 from nI_1 0]
    refine j_iload_n (pc' := 3) C dX1_spreadAll_2 rfl rfl ?_
    refine j_iconst (pc' := 4) C dX1_spreadAll_3 rfl 3 (by decide) ?_
    refine j_icmp_ge (tgt := 22) (pc' := 7) C dX1_spreadAll_4 (by decide) rfl (fun h4 => ?_) (fun h4 => ?_)
    · skip
      exact absurd h4 (by decide) -- done
    · skip
      refine j_aload_n (pc' := 8) C dX1_spreadAll_7 rfl rfl ?_
      refine jXa (pc' := 11) C dX1_spreadAll_8 rfl hinX (by decide +kernel) ?_
      refine j_iload_n (pc' := 12) C dX1_spreadAll_11 rfl rfl ?_
      refine jX_aald (pc' := 13) C dX1_spreadAll_12 rfl 1 rfl (by decide) ?_
      refine jX_callT (T := (sp1 T 0)) (pc' := 16) C 1 (by decide) (c_spread l D cI cO (B 1) ((sp1 T 0) 1) ((sp1_ok hok (show 0 < 3 by decide)) 1 (by decide))) 0 gX1_spreadAll_X0_spread rfl (by decide +kernel) (by decide) rfl rfl (Nat.le_of_ble_eq_true rfl) rfl dX1_spreadAll_13 rfl (fun v1 u1 hp1 => ?_)
      obtain ⟨rfl, rfl⟩ := hp1
      show J p l e _ s m args below meth c 0 0 _ _ D A _ _ [] (wX cI cO ao ta B (sp1 ((sp1 T 0)) 1))
      refine j_iinc (pc' := 19) C dX1_spreadAll_16 rfl 1 (by decide) rfl (by decide) rfl ?_
      refine j_goto (pc' := 2) C dX1_spreadAll_19 (by decide) ?_
      rw [show (nI 1 : Int32) + 1 = nI 2 from nI_1 1]
      refine j_iload_n (pc' := 3) C dX1_spreadAll_2 rfl rfl ?_
      refine j_iconst (pc' := 4) C dX1_spreadAll_3 rfl 3 (by decide) ?_
      refine j_icmp_ge (tgt := 22) (pc' := 7) C dX1_spreadAll_4 (by decide) rfl (fun h4 => ?_) (fun h4 => ?_)
      · skip
        exact absurd h4 (by decide) -- done
      · skip
        refine j_aload_n (pc' := 8) C dX1_spreadAll_7 rfl rfl ?_
        refine jXa (pc' := 11) C dX1_spreadAll_8 rfl hinX (by decide +kernel) ?_
        refine j_iload_n (pc' := 12) C dX1_spreadAll_11 rfl rfl ?_
        refine jX_aald (pc' := 13) C dX1_spreadAll_12 rfl 2 rfl (by decide) ?_
        refine jX_callT (T := (sp1 (sp1 T 0) 1)) (pc' := 16) C 2 (by decide) (c_spread l D cI cO (B 2) ((sp1 (sp1 T 0) 1) 2) ((sp1_ok (sp1_ok hok (show 0 < 3 by decide)) (show 1 < 3 by decide)) 2 (by decide))) 0 gX1_spreadAll_X0_spread rfl (by decide +kernel) (by decide) rfl rfl (Nat.le_of_ble_eq_true rfl) rfl dX1_spreadAll_13 rfl (fun v1 u1 hp1 => ?_)
        obtain ⟨rfl, rfl⟩ := hp1
        show J p l e _ s m args below meth c 0 0 _ _ D A _ _ [] (wX cI cO ao ta B (sp1 ((sp1 (sp1 T 0) 1)) 2))
        refine j_iinc (pc' := 19) C dX1_spreadAll_16 rfl 1 (by decide) rfl (by decide) rfl ?_
        refine j_goto (pc' := 2) C dX1_spreadAll_19 (by decide) ?_
        rw [show (nI 2 : Int32) + 1 = nI 3 from nI_1 2]
        refine j_iload_n (pc' := 3) C dX1_spreadAll_2 rfl rfl ?_
        refine j_iconst (pc' := 4) C dX1_spreadAll_3 rfl 3 (by decide) ?_
        refine j_icmp_ge (tgt := 22) (pc' := 7) C dX1_spreadAll_4 (by decide) rfl (fun h4 => ?_) (fun h4 => ?_)
        · skip
          refine j_return _ C dX1_spreadAll_22 ?_
          exact ⟨rfl, rfl⟩
        · skip
          exact absurd (by decide) h4 -- done
        
        
      
      
    
    
  
set_option maxRecDepth 100000 in
set_option maxHeartbeats 4000000 in
theorem c_Xjoin (l : Launch) (D : va_G) (cI cO : ClassId) (ao ta : Nat) (B : Nat → Nat → Nat) (T : Nat → TS) (hok : okX T) (tb ub a b : Int32) : Kt l yX1_join wsX1_join 5 (wX cI cO ao ta B) D cI cO (fun _ => True) [.ref ao, .int tb, .int ub, .int a, .int b] T (fun r u => r = some (.long (xJoin T tb ub a b).1) ∧ u = (xJoin T tb ub a b).2) := by
  refine Kt_of (cc := cX1_join) (n := 10) (ret := some .long) rfl (by decide +kernel) (Nat.le_of_ble_eq_true rfl) rfl [some (.ref ao), some (.int tb), some (.int ub), some (.int a), some (.int b), none, none, none, none, none] rfl ?_
  intro p e s m args below meth c A C _ _
  refine j_aload_n (pc' := 1) C dX1_join_0 rfl rfl ?_
  refine j_iload_n (pc' := 2) C dX1_join_1 rfl rfl ?_
  refine jc_same (pc' := 5) C (c_tableAt l D cI cO ao ta B T tb) 1 gX1_join_X1_tableAt rfl (by decide +kernel) (by decide) rfl rfl (by decide) 1 0 rfl rfl (wX_obj cI cO ao ta B _) (wX_addr cI cO ao ta B _) dX1_join_2 rfl (fun v1 u1 hp1 => ?_)
  obtain ⟨rfl, hu1⟩ := hp1
  rw [hu1]
  clear hu1 u1
  show J p l e _ s m args below meth c 0 0 _ _ D A _ _ [_] _
  by_cases h4 : isInF tb 0 2 = 0
  · rw [tbV, if_pos h4]
    refine j_astoreN (pc' := 7) C dX1_join_5 rfl (by decide) rfl ?_
    refine j_aload_n (pc' := 8) C dX1_join_7 rfl rfl ?_
    refine j_iload_n (pc' := 9) C dX1_join_8 rfl rfl ?_
    refine jc_same (pc' := 12) C (c_tableAt l D cI cO ao ta B T ub) 1 gX1_join_X1_tableAt rfl (by decide +kernel) (by decide) rfl rfl (by decide) 1 0 rfl rfl (wX_obj cI cO ao ta B _) (wX_addr cI cO ao ta B _) dX1_join_9 rfl (fun v1 u1 hp1 => ?_)
    obtain ⟨rfl, hu1⟩ := hp1
    rw [hu1]
    clear hu1 u1
    show J p l e _ s m args below meth c 0 0 _ _ D A _ _ [_] _
    by_cases h5 : isInF ub 0 2 = 0
    · rw [tbV, if_pos h5]
      have hF : xJoin T tb ub a b = (-1, T) := by rw [xJoin, if_pos (Or.inl h4)]
      refine j_astoreN (pc' := 14) C dX1_join_12 rfl (by decide) rfl ?_
      refine j_aloadN (pc' := 16) C dX1_join_14 rfl rfl ?_
      refine j_ifnullN (pc' := 33) C dX1_join_16 (by decide) ?_
      refine j_ldc2 (pc' := 36) C dX1_join_33 rfl (-1) (by decide +kernel) ?_
      refine j_lreturn _ C dX1_join_36 ?_
      exact ⟨by rw [hF] <;> rfl, by rw [hF] <;> rfl⟩
    · obtain ⟨j, hj, rfl⟩ := isTb h5
      rw [tbV, if_neg h5, nI_clamp (show j < 2 ^ 31 by omega)]
      have hF : xJoin T tb (nI j) a b = (-1, T) := by rw [xJoin, if_pos (Or.inl h4)]
      refine j_astore (pc' := 14) C dX1_join_12 rfl (by decide) rfl ?_
      refine j_aloadN (pc' := 16) C dX1_join_14 rfl rfl ?_
      refine j_ifnullN (pc' := 33) C dX1_join_16 (by decide) ?_
      refine j_ldc2 (pc' := 36) C dX1_join_33 rfl (-1) (by decide +kernel) ?_
      refine j_lreturn _ C dX1_join_36 ?_
      exact ⟨by rw [hF] <;> rfl, by rw [hF] <;> rfl⟩
  · obtain ⟨i, hi, rfl⟩ := isTb h4
    rw [tbV, if_neg h4, nI_clamp (show i < 2 ^ 31 by omega)]
    refine j_astore (pc' := 7) C dX1_join_5 rfl (by decide) rfl ?_
    refine j_aload_n (pc' := 8) C dX1_join_7 rfl rfl ?_
    refine j_iload_n (pc' := 9) C dX1_join_8 rfl rfl ?_
    refine jc_same (pc' := 12) C (c_tableAt l D cI cO ao ta B T ub) 1 gX1_join_X1_tableAt rfl (by decide +kernel) (by decide) rfl rfl (by decide) 1 0 rfl rfl (wX_obj cI cO ao ta B _) (wX_addr cI cO ao ta B _) dX1_join_9 rfl (fun v1 u1 hp1 => ?_)
    obtain ⟨rfl, hu1⟩ := hp1
    rw [hu1]
    clear hu1 u1
    show J p l e _ s m args below meth c 0 0 _ _ D A _ _ [_] _
    by_cases h5 : isInF ub 0 2 = 0
    · rw [tbV, if_pos h5]
      have hF : xJoin T (nI i) ub a b = (-1, T) := by rw [xJoin, if_pos (Or.inr (Or.inl h5))]
      refine j_astoreN (pc' := 14) C dX1_join_12 rfl (by decide) rfl ?_
      refine j_aload (pc' := 16) C dX1_join_14 rfl rfl ?_
      refine j_ifnull (pc' := 19) C dX1_join_16 rfl ?_
      refine j_aloadN (pc' := 21) C dX1_join_19 rfl rfl ?_
      refine j_ifnullN (pc' := 33) C dX1_join_21 (by decide) ?_
      refine j_ldc2 (pc' := 36) C dX1_join_33 rfl (-1) (by decide +kernel) ?_
      refine j_lreturn _ C dX1_join_36 ?_
      exact ⟨by rw [hF] <;> rfl, by rw [hF] <;> rfl⟩
    · obtain ⟨j, hj, rfl⟩ := isTb h5
      rw [tbV, if_neg h5, nI_clamp (show j < 2 ^ 31 by omega)]
      refine j_astore (pc' := 14) C dX1_join_12 rfl (by decide) rfl ?_
      refine j_aload (pc' := 16) C dX1_join_14 rfl rfl ?_
      refine j_ifnull (pc' := 19) C dX1_join_16 rfl ?_
      refine j_aload (pc' := 21) C dX1_join_19 rfl rfl ?_
      refine j_ifnull (pc' := 24) C dX1_join_21 rfl ?_
      refine j_iload_n (pc' := 25) C dX1_join_24 rfl rfl ?_
      refine j_iload (pc' := 27) C dX1_join_25 rfl rfl ?_
      refine jc_nil (pc' := 30) C (c_isSpanC l D cI cO _ _) 2 gX1_join_X1_isSpan rfl (by decide +kernel) (by decide) rfl rfl (Nat.le_of_ble_eq_true rfl) dX1_join_27 rfl (fun v1 hp1 => ?_)
      subst hp1
      show J p l e _ s m args below meth c 0 0 _ _ D A _ _ [_] _
      refine j_if_ne (tgt := 37) (pc' := 33) C dX1_join_30 (by decide) rfl (fun h30 => ?_) (fun h30 => ?_)
      · skip
        have hF0 : xJoin T (nI i) (nI j) a b = (xjoinS (sp1 (sp1 T i) j) i j a.toNatClampNeg (b.toNatClampNeg - a.toNatClampNeg), (sp1 (sp1 T i) j)) := by rw [xJoin, if_neg (fun q => q.elim h4 (fun q => q.elim h5 h30)), nI_clamp (show i < 2 ^ 31 by omega), nI_clamp (show j < 2 ^ 31 by omega)]
        obtain ⟨x, y, hxy, hy, rfl, rfl⟩ := isSpanF_1 h30
        rw [nI_clamp (show x < 2 ^ 31 by omega), nI_clamp (show y < 2 ^ 31 by omega)] at hF0
        have loop : ∀ (k q : Nat), q + k = y - x → J p l e (rmH 5) s m args below meth c 0 0 (RQ below args s D (wX cI cO ao ta B) (fun r u => r = some (.long (xJoin T (nI i) (nI j) (nI x) (nI y)).1) ∧ u = (xJoin T (nI i) (nI j) (nI x) (nI y)).2) A) 10 D A 53 [some (.ref ao), some (.int (nI i)), some (.int (nI j)), some (.int (nI x)), some (.int (nI y)), some (.ref (B i 0)), some (.ref (B j 0)), some (.long (xjoinS (sp1 (sp1 T i) j) i j x q)), none, some (.int (nI (x + q)))] [] (wX cI cO ao ta B (sp1 (sp1 T i) j)) := by
          intro k
          induction k with
          | zero =>
            intro q hq
            have hq2 : q = y - x := by omega
            subst hq2
            refine j_iload (pc' := 55) C dX1_join_53 rfl rfl ?_
            refine j_iload (pc' := 57) C dX1_join_55 rfl rfl ?_
            refine j_icmp_ge (tgt := 88) (pc' := 60) C dX1_join_57 (by decide) rfl (fun h57 => ?_) (fun h57 => ?_)
            · skip
              refine j_lload (pc' := 90) C dX1_join_88 rfl rfl ?_
              refine j_lreturn _ C dX1_join_90 ?_
              exact ⟨by rw [hF0] <;> rfl, by rw [hF0] <;> rfl⟩
            · skip
              exact absurd (nI_le (by omega) (by omega)) h57 -- done
          | succ k ih =>
            intro q hq
            refine j_iload (pc' := 55) C dX1_join_53 rfl rfl ?_
            refine j_iload (pc' := 57) C dX1_join_55 rfl rfl ?_
            refine j_icmp_ge (tgt := 88) (pc' := 60) C dX1_join_57 (by decide) rfl (fun h57 => ?_) (fun h57 => ?_)
            · skip
              exact absurd h57 (nI_ge (by omega) (by omega)) -- done
            · skip
              refine j_lload (pc' := 62) C dX1_join_60 rfl rfl ?_
              refine j_aload (pc' := 64) C dX1_join_62 rfl rfl ?_
              refine j_iload (pc' := 66) C dX1_join_64 rfl rfl ?_
              refine j_iconst (pc' := 67) C dX1_join_66 rfl 0 (by decide) ?_
              refine jX_callT (T := (sp1 (sp1 T i) j)) (pc' := 70) C (i) hi (c_rowsOf l D cI cO (B (i)) ((sp1 (sp1 T i) j) (i)) (x + q) (by omega) 0) 2 gX1_join_X0_rowsOf rfl (by decide +kernel) (by decide) rfl rfl (Nat.le_of_ble_eq_true rfl) rfl dX1_join_67 rfl (fun v1 u1 hp1 => ?_)
              obtain ⟨rfl, hu1⟩ := hp1
              rw [hu1, uT_self]
              clear hu1 u1
              show J p l e _ s m args below meth c 0 0 _ _ D A _ _ [_, _] _
              refine j_aload (pc' := 72) C dX1_join_70 rfl rfl ?_
              refine j_iload (pc' := 74) C dX1_join_72 rfl rfl ?_
              refine j_iconst (pc' := 75) C dX1_join_74 rfl 0 (by decide) ?_
              refine jX_callT (T := (sp1 (sp1 T i) j)) (pc' := 78) C (j) hj (c_rowsOf l D cI cO (B (j)) ((sp1 (sp1 T i) j) (j)) (x + q) (by omega) 0) 2 gX1_join_X0_rowsOf rfl (by decide +kernel) (by decide) rfl rfl (Nat.le_of_ble_eq_true rfl) rfl dX1_join_75 rfl (fun v1 u1 hp1 => ?_)
              obtain ⟨rfl, hu1⟩ := hp1
              rw [hu1, uT_self]
              clear hu1 u1
              show J p l e _ s m args below meth c 0 0 _ _ D A _ _ [_, _, _] _
              refine j_lmul (pc' := 79) C dX1_join_78 rfl ?_
              refine j_ladd (pc' := 80) C dX1_join_79 rfl ?_
              refine j_lstore (pc' := 82) C dX1_join_80 rfl (by decide) rfl ?_
              refine j_iinc (pc' := 85) C dX1_join_82 rfl 1 (by decide) rfl (by decide) rfl ?_
              refine j_goto (pc' := 53) C dX1_join_85 (by decide) ?_
              rw [nI_1]
              exact ih (q + 1) (by omega)
              
              
        
        refine j_aload (pc' := 39) C dX1_join_37 rfl rfl ?_
        refine jX_callT (T := T) (pc' := 42) C i hi (c_spread l D cI cO (B i) (T i) (hok i hi)) 0 gX1_join_X0_spread rfl (by decide +kernel) (by decide) rfl rfl (Nat.le_of_ble_eq_true rfl) rfl dX1_join_39 rfl (fun v1 u1 hp1 => ?_)
        obtain ⟨rfl, rfl⟩ := hp1
        show J p l e _ s m args below meth c 0 0 _ _ D A _ _ [] (wX cI cO ao ta B (sp1 (T) i))
        refine j_aload (pc' := 44) C dX1_join_42 rfl rfl ?_
        refine jX_callT (T := (sp1 T i)) (pc' := 47) C j hj (c_spread l D cI cO (B j) ((sp1 T i) j) ((sp1_ok hok hi) j hj)) 0 gX1_join_X0_spread rfl (by decide +kernel) (by decide) rfl rfl (Nat.le_of_ble_eq_true rfl) rfl dX1_join_44 rfl (fun v1 u1 hp1 => ?_)
        obtain ⟨rfl, rfl⟩ := hp1
        show J p l e _ s m args below meth c 0 0 _ _ D A _ _ [] (wX cI cO ao ta B (sp1 ((sp1 T i)) j))
        refine j_lconst (pc' := 48) C dX1_join_47 rfl 0 (by decide) ?_
        refine j_lstore (pc' := 50) C dX1_join_48 rfl (by decide) rfl ?_
        refine j_iload_n (pc' := 51) C dX1_join_50 rfl rfl ?_
        refine j_istore (pc' := 53) C dX1_join_51 rfl (by decide) rfl ?_
        exact loop (y - x) 0 (by omega)
        
        
      · skip
        have hF : xJoin T (nI i) (nI j) a b = (-1, T) := by rw [xJoin, if_pos (Or.inr (Or.inr h30))]
        refine j_ldc2 (pc' := 36) C dX1_join_33 rfl (-1) (by decide +kernel) ?_
        refine j_lreturn _ C dX1_join_36 ?_
        exact ⟨by rw [hF] <;> rfl, by rw [hF] <;> rfl⟩
  
def xTwo (T : Nat → TS) (o v : Nat) (by_ : Int32) : Int64 := rowsOfF (T (ordX o)) v by_ * rowsOfF (T (ordY o)) v by_
def xcostS (T : Nat → TS) (o : Nat) (by_ : Int32) : Nat → Int64
  | 0 => 0
  | v + 1 => xcostS T o by_ v + (xTwo T o v by_ + xTwo T o v by_ * rowsOfF (T (ordZ o)) v by_)
def xCostOf (T : Nat → TS) (o : Nat) (by_ : Int32) : Int64 := xcostS T o by_ 64
def xplanL (T : Nat → TS) (by_ : Int32) : Nat → Nat → Nat → Nat
  | 0, _, b => b
  | k + 1, o, b => xplanL T by_ k (o + 1) (if lg_cmp (xCostOf T o by_) (xCostOf T b by_) < 0 then o else b)
theorem xplanL_lt (T : Nat → TS) (by_ : Int32) : ∀ (k o b : Nat), o + k ≤ 6 → b < 6 → xplanL T by_ k o b < 6
  | 0, _, _, _, h => h
  | k + 1, o, b, hk, hb => by
    unfold xplanL
    refine xplanL_lt T by_ k (o + 1) _ (by omega) ?_
    split <;> omega
def xplanN (T : Nat → TS) (by_ : Int32) : Nat := xplanL T by_ 5 1 0
theorem xplanN_lt (T : Nat → TS) (by_ : Int32) : xplanN T by_ < 6 := by
  unfold xplanN
  exact xplanL_lt T by_ 5 1 0 (by decide) (by decide)
def xCost (T : Nat → TS) (od by_ : Int32) : Int64 × (Nat → TS) := if od < 0 ∨ ¬ od < 6 then (-1, T) else (xCostOf (spAll T) od.toNatClampNeg by_, spAll T)
theorem ord_x {o : Nat} (h : o < 6) : ordT (3 * o) = nI (ordX o) := by
  rcases (show o = 0 ∨ o = 1 ∨ o = 2 ∨ o = 3 ∨ o = 4 ∨ o = 5 by omega) with rfl | rfl | rfl | rfl | rfl | rfl <;> decide
theorem ord_y {o : Nat} (h : o < 6) : ordT (3 * o + 1) = nI (ordY o) := by
  rcases (show o = 0 ∨ o = 1 ∨ o = 2 ∨ o = 3 ∨ o = 4 ∨ o = 5 by omega) with rfl | rfl | rfl | rfl | rfl | rfl <;> decide
theorem ord_z {o : Nat} (h : o < 6) : ordT (3 * o + 2) = nI (ordZ o) := by
  rcases (show o = 0 ∨ o = 1 ∨ o = 2 ∨ o = 3 ∨ o = 4 ∨ o = 5 by omega) with rfl | rfl | rfl | rfl | rfl | rfl <;> decide
theorem ordX_lt {o : Nat} (h : o < 6) : ordX o < 3 := by unfold ordX; omega
theorem ordY_lt (o : Nat) : ordY o < 3 := by unfold ordY; (repeat' split) <;> omega
theorem ordZ_lt {o : Nat} (h : o < 6) : ordZ o < 3 := by
  rcases (show o = 0 ∨ o = 1 ∨ o = 2 ∨ o = 3 ∨ o = 4 ∨ o = 5 by omega) with rfl | rfl | rfl | rfl | rfl | rfl <;> decide
set_option maxRecDepth 100000 in
set_option maxHeartbeats 4000000 in
theorem c_XcostOf (l : Launch) (D : va_G) (cI cO : ClassId) (ao ta : Nat) (B : Nat → Nat → Nat) (T : Nat → TS) (z tO : Nat) (hwz : wz z ao ta B) (od : Nat) (hod : od < 6) (by_ : Int32) : Kt l yX1_costOf wsX1_costOf 1 (wX cI cO ao ta B) D cI cO (OT z tO) [.ref ao, .int (nI od), .int by_] T (fun r u => r = some (.long (xCostOf T od by_)) ∧ u = T) := by
  refine Kt_of (cc := cX1_costOf) (n := 11) (ret := some .long) rfl (by decide +kernel) (Nat.le_of_ble_eq_true rfl) rfl [some (.ref ao), some (.int (nI od)), some (.int by_), none, none, none, none, none, none, none, none] rfl ?_
  intro p e s m args below meth c A C hO hA0
  have hA : ∀ q, A q → z ≤ q := fun q h => wz_A hwz hO.1 (hA0 q h)
  have hinX : ∀ w ∈ wsX10, w ∈ wsX1_costOf := by decide +kernel
  have loop : ∀ (k v : Nat) (x9 : Option Value), v + k = 64 → J p l e (rmH 1) s m args below meth c 0 0 (RQ below args s D (wX cI cO ao ta B) (fun r u => r = some (.long (xCostOf T od by_)) ∧ u = T) A) 11 D A 51 [some (.ref ao), some (.int (nI od)), some (.int by_), some (.ref (B (ordX od) 0)), some (.ref (B (ordY od) 0)), some (.ref (B (ordZ od) 0)), some (.long (xcostS T od by_ v)), none, some (.int (nI v)), x9, none] [] (wX cI cO ao ta B T) := by
    intro k
    induction k with
    | zero =>
      intro v x9 hv
      have hv2 : v = 64 := by omega
      subst hv2
      refine j_iload (pc' := 53) C dX1_costOf_51 rfl rfl ?_
      refine j_bipush (pc' := 55) C dX1_costOf_53 rfl 64 (by decide) ?_
      refine j_icmp_ge (tgt := 101) (pc' := 58) C dX1_costOf_55 (by decide) rfl (fun h55 => ?_) (fun h55 => ?_)
      · skip
        refine j_lload (pc' := 103) C dX1_costOf_101 rfl rfl ?_
        refine j_lreturn _ C dX1_costOf_103 ?_
        exact ⟨rfl, rfl⟩
      · skip
        exact absurd (by decide) h55 -- done
    | succ k ih =>
      intro v x9 hv
      refine j_iload (pc' := 53) C dX1_costOf_51 rfl rfl ?_
      refine j_bipush (pc' := 55) C dX1_costOf_53 rfl 64 (by decide) ?_
      refine j_icmp_ge (tgt := 101) (pc' := 58) C dX1_costOf_55 (by decide) rfl (fun h55 => ?_) (fun h55 => ?_)
      · skip
        exact absurd h55 (nI_ge (b := 64) (by omega) (by decide)) -- done
      · skip
        refine j_aload_n (pc' := 59) C dX1_costOf_58 rfl rfl ?_
        refine j_iload (pc' := 61) C dX1_costOf_59 rfl rfl ?_
        refine j_iload_n (pc' := 62) C dX1_costOf_61 rfl rfl ?_
        refine jX_callT (T := T) (pc' := 65) C (ordX od) (ordX_lt hod) (c_rowsOf l D cI cO (B (ordX od)) (T (ordX od)) (v) (by omega) by_) 2 gX1_costOf_X0_rowsOf rfl (by decide +kernel) (by decide) rfl rfl (Nat.le_of_ble_eq_true rfl) rfl dX1_costOf_62 rfl (fun v1 u1 hp1 => ?_)
        obtain ⟨rfl, hu1⟩ := hp1
        rw [hu1, uT_self]
        clear hu1 u1
        show J p l e _ s m args below meth c 0 0 _ _ D A _ _ [_] _
        refine j_aload (pc' := 67) C dX1_costOf_65 rfl rfl ?_
        refine j_iload (pc' := 69) C dX1_costOf_67 rfl rfl ?_
        refine j_iload_n (pc' := 70) C dX1_costOf_69 rfl rfl ?_
        refine jX_callT (T := T) (pc' := 73) C (ordY od) (ordY_lt od) (c_rowsOf l D cI cO (B (ordY od)) (T (ordY od)) (v) (by omega) by_) 2 gX1_costOf_X0_rowsOf rfl (by decide +kernel) (by decide) rfl rfl (Nat.le_of_ble_eq_true rfl) rfl dX1_costOf_70 rfl (fun v1 u1 hp1 => ?_)
        obtain ⟨rfl, hu1⟩ := hp1
        rw [hu1, uT_self]
        clear hu1 u1
        show J p l e _ s m args below meth c 0 0 _ _ D A _ _ [_, _] _
        refine j_lmul (pc' := 74) C dX1_costOf_73 rfl ?_
        refine j_lstore (pc' := 76) C dX1_costOf_74 rfl (by decide) rfl ?_
        refine j_lload (pc' := 78) C dX1_costOf_76 rfl rfl ?_
        refine j_lload (pc' := 80) C dX1_costOf_78 rfl rfl ?_
        refine j_lload (pc' := 82) C dX1_costOf_80 rfl rfl ?_
        refine j_aload (pc' := 84) C dX1_costOf_82 rfl rfl ?_
        refine j_iload (pc' := 86) C dX1_costOf_84 rfl rfl ?_
        refine j_iload_n (pc' := 87) C dX1_costOf_86 rfl rfl ?_
        refine jX_callT (T := T) (pc' := 90) C (ordZ od) (ordZ_lt hod) (c_rowsOf l D cI cO (B (ordZ od)) (T (ordZ od)) (v) (by omega) by_) 2 gX1_costOf_X0_rowsOf rfl (by decide +kernel) (by decide) rfl rfl (Nat.le_of_ble_eq_true rfl) rfl dX1_costOf_87 rfl (fun v1 u1 hp1 => ?_)
        obtain ⟨rfl, hu1⟩ := hp1
        rw [hu1, uT_self]
        clear hu1 u1
        show J p l e _ s m args below meth c 0 0 _ _ D A _ _ [_, _, _, _] _
        refine j_lmul (pc' := 91) C dX1_costOf_90 rfl ?_
        refine j_ladd (pc' := 92) C dX1_costOf_91 rfl ?_
        refine j_ladd (pc' := 93) C dX1_costOf_92 rfl ?_
        refine j_lstore (pc' := 95) C dX1_costOf_93 rfl (by decide) rfl ?_
        refine j_iinc (pc' := 98) C dX1_costOf_95 rfl 1 (by decide) rfl (by decide) rfl ?_
        refine j_goto (pc' := 51) C dX1_costOf_98 (by decide) ?_
        rw [nI_1]
        exact ih (v + 1) _ (by omega)
        
        
        
  refine j_aload_n (pc' := 1) C dX1_costOf_0 rfl rfl ?_
  refine jXa (pc' := 4) C dX1_costOf_1 rfl hinX (by decide +kernel) ?_
  refine j_gets (pc' := 7) C dX1_costOf_4 rfl hA hO (by decide +kernel) ?_
  refine j_iconst (pc' := 8) C dX1_costOf_7 rfl 3 (by decide) ?_
  refine j_iload_n (pc' := 9) C dX1_costOf_8 rfl rfl ?_
  refine j_imul (pc' := 10) C dX1_costOf_9 rfl ?_
  refine j_ord (pc' := 11) C dX1_costOf_10 rfl hA hO (3 * od) (show (3 : Int32) * nI od = nI (3 * od) from pk_mul 3 od) (by omega) ?_
  refine jX_aald (pc' := 12) C dX1_costOf_11 rfl (ordX od) (ord_x hod) (ordX_lt hod) ?_
  refine j_astore_n (pc' := 13) C dX1_costOf_12 rfl (by decide) rfl ?_
  refine j_aload_n (pc' := 14) C dX1_costOf_13 rfl rfl ?_
  refine jXa (pc' := 17) C dX1_costOf_14 rfl hinX (by decide +kernel) ?_
  refine j_gets (pc' := 20) C dX1_costOf_17 rfl hA hO (by decide +kernel) ?_
  refine j_iconst (pc' := 21) C dX1_costOf_20 rfl 3 (by decide) ?_
  refine j_iload_n (pc' := 22) C dX1_costOf_21 rfl rfl ?_
  refine j_imul (pc' := 23) C dX1_costOf_22 rfl ?_
  refine j_iconst (pc' := 24) C dX1_costOf_23 rfl 1 (by decide) ?_
  refine j_iadd (pc' := 25) C dX1_costOf_24 rfl ?_
  refine j_ord (pc' := 26) C dX1_costOf_25 rfl hA hO (3 * od + 1) (by rw [(show (3 : Int32) * nI od = nI (3 * od) from pk_mul 3 od)]; exact nI_add (3 * od) 1) (by omega) ?_
  refine jX_aald (pc' := 27) C dX1_costOf_26 rfl (ordY od) (ord_y hod) (ordY_lt od) ?_
  refine j_astore (pc' := 29) C dX1_costOf_27 rfl (by decide) rfl ?_
  refine j_aload_n (pc' := 30) C dX1_costOf_29 rfl rfl ?_
  refine jXa (pc' := 33) C dX1_costOf_30 rfl hinX (by decide +kernel) ?_
  refine j_gets (pc' := 36) C dX1_costOf_33 rfl hA hO (by decide +kernel) ?_
  refine j_iconst (pc' := 37) C dX1_costOf_36 rfl 3 (by decide) ?_
  refine j_iload_n (pc' := 38) C dX1_costOf_37 rfl rfl ?_
  refine j_imul (pc' := 39) C dX1_costOf_38 rfl ?_
  refine j_iconst (pc' := 40) C dX1_costOf_39 rfl 2 (by decide) ?_
  refine j_iadd (pc' := 41) C dX1_costOf_40 rfl ?_
  refine j_ord (pc' := 42) C dX1_costOf_41 rfl hA hO (3 * od + 2) (by rw [(show (3 : Int32) * nI od = nI (3 * od) from pk_mul 3 od)]; exact nI_add (3 * od) 2) (by omega) ?_
  refine jX_aald (pc' := 43) C dX1_costOf_42 rfl (ordZ od) (ord_z hod) (ordZ_lt hod) ?_
  refine j_astore (pc' := 45) C dX1_costOf_43 rfl (by decide) rfl ?_
  refine j_lconst (pc' := 46) C dX1_costOf_45 rfl 0 (by decide) ?_
  refine j_lstore (pc' := 48) C dX1_costOf_46 rfl (by decide) rfl ?_
  refine j_iconst (pc' := 49) C dX1_costOf_48 rfl 0 (by decide) ?_
  refine j_istore (pc' := 51) C dX1_costOf_49 rfl (by decide) rfl ?_
  exact loop 64 0 none (by omega)
set_option maxRecDepth 100000 in
set_option maxHeartbeats 4000000 in
theorem c_cheapest (l : Launch) (D : va_G) (cI cO : ClassId) (ao ta : Nat) (B : Nat → Nat → Nat) (T : Nat → TS) (z tO : Nat) (hwz : wz z ao ta B) (by_ : Int32) : Kt l yX1_cheapest wsX1_cheapest 2 (wX cI cO ao ta B) D cI cO (OT z tO) [.ref ao, .int by_] T (fun r u => r = some (.int (nI (xplanN T by_))) ∧ u = T) := by
  refine Kt_of (cc := cX1_cheapest) (n := 8) (ret := some .int) rfl (by decide +kernel) (Nat.le_of_ble_eq_true rfl) rfl [some (.ref ao), some (.int by_), none, none, none, none, none, none] rfl ?_
  intro p e s m args below meth c A C hO hA0
  have hA : ∀ q, A q → z ≤ q := fun q h => wz_A hwz hO.1 (hA0 q h)
  have loop : ∀ (k o b : Nat) (x6 : Option Value), o + k = 6 → b < 6 → xplanL T by_ k o b = xplanN T by_ → J p l e (rmH 2) s m args below meth c 0 0 (RQ below args s D (wX cI cO ao ta B) (fun r u => r = some (.int (nI (xplanN T by_))) ∧ u = T) A) 8 D A 12 [some (.ref ao), some (.int by_), some (.int (nI b)), some (.long (xCostOf T b by_)), none, some (.int (nI o)), x6, none] [] (wX cI cO ao ta B T) := by
    intro k
    induction k with
    | zero =>
      intro o b x6 ho hb hr
      have ho2 : o = 6 := by omega
      subst ho2
      refine j_iload (pc' := 14) C dX1_cheapest_12 rfl rfl ?_
      refine j_bipush (pc' := 16) C dX1_cheapest_14 rfl 6 (by decide) ?_
      refine j_icmp_ge (tgt := 47) (pc' := 19) C dX1_cheapest_16 (by decide) rfl (fun h16 => ?_) (fun h16 => ?_)
      · skip
        refine j_iload_n (pc' := 48) C dX1_cheapest_47 rfl rfl ?_
        refine j_ireturn _ C dX1_cheapest_48 ?_
        exact ⟨by rw [← hr]; rfl, rfl⟩
      · skip
        exact absurd (by decide) h16 -- done
    | succ k ih =>
      intro o b x6 ho hb hr
      refine j_iload (pc' := 14) C dX1_cheapest_12 rfl rfl ?_
      refine j_bipush (pc' := 16) C dX1_cheapest_14 rfl 6 (by decide) ?_
      refine j_icmp_ge (tgt := 47) (pc' := 19) C dX1_cheapest_16 (by decide) rfl (fun h16 => ?_) (fun h16 => ?_)
      · skip
        exact absurd h16 (nI_ge (b := 6) (by omega) (by decide)) -- done
      · skip
        refine j_aload_n (pc' := 20) C dX1_cheapest_19 rfl rfl ?_
        refine j_iload (pc' := 22) C dX1_cheapest_20 rfl rfl ?_
        refine j_iload_n (pc' := 23) C dX1_cheapest_22 rfl rfl ?_
        refine jc_sameX (z := z) (tO := tO) (pc' := 26) C (c_XcostOf l D cI cO ao ta B T z tO hwz o (by omega) by_) hA hO 2 gX1_cheapest_X1_costOf rfl (by decide +kernel) (by decide) rfl rfl (Nat.le_of_ble_eq_true rfl) 1 0 rfl rfl (wX_obj cI cO ao ta B _) (wX_addr cI cO ao ta B _) dX1_cheapest_23 rfl (fun v1 u1 hp1 => ?_)
        obtain ⟨rfl, hu1⟩ := hp1
        rw [hu1]
        clear hu1 u1
        show J p l e _ s m args below meth c 0 0 _ _ D A _ _ [_] _
        refine j_lstore (pc' := 28) C dX1_cheapest_26 rfl (by decide) rfl ?_
        refine j_lload (pc' := 30) C dX1_cheapest_28 rfl rfl ?_
        refine j_lload_n (pc' := 31) C dX1_cheapest_30 rfl rfl ?_
        refine j_lcmp (pc' := 32) C dX1_cheapest_31 rfl ?_
        refine j_if_ge (tgt := 41) (pc' := 35) C dX1_cheapest_32 (by decide) rfl (fun h32 => ?_) (fun h32 => ?_)
        · skip
          have hx : ¬ lg_cmp (xCostOf T o by_) (xCostOf T b by_) < 0 := i32_le_nlt h32
          refine j_iinc (pc' := 44) C dX1_cheapest_41 rfl 1 (by decide) rfl (by decide) rfl ?_
          refine j_goto (pc' := 12) C dX1_cheapest_44 (by decide) ?_
          rw [nI_1]
          first
            | exact ih (o + 1) b _ (by omega) hb (by rw [← hr, xplanL, if_neg hx])
            | exact ih (o + 1) o _ (by omega) (by omega) (by rw [← hr, xplanL, if_pos hy])
        · skip
          have hy : lg_cmp (xCostOf T o by_) (xCostOf T b by_) < 0 := i32_nle h32
          refine j_iload (pc' := 37) C dX1_cheapest_35 rfl rfl ?_
          refine j_istore_n (pc' := 38) C dX1_cheapest_37 rfl (by decide) rfl ?_
          refine j_lload (pc' := 40) C dX1_cheapest_38 rfl rfl ?_
          refine j_lstore_n (pc' := 41) C dX1_cheapest_40 rfl (by decide) rfl ?_
          refine j_iinc (pc' := 44) C dX1_cheapest_41 rfl 1 (by decide) rfl (by decide) rfl ?_
          refine j_goto (pc' := 12) C dX1_cheapest_44 (by decide) ?_
          rw [nI_1]
          first
            | exact ih (o + 1) b _ (by omega) hb (by rw [← hr, xplanL, if_neg hx])
            | exact ih (o + 1) o _ (by omega) (by omega) (by rw [← hr, xplanL, if_pos hy])
        
  refine j_iconst (pc' := 1) C dX1_cheapest_0 rfl 0 (by decide) ?_
  refine j_istore_n (pc' := 2) C dX1_cheapest_1 rfl (by decide) rfl ?_
  refine j_aload_n (pc' := 3) C dX1_cheapest_2 rfl rfl ?_
  refine j_iconst (pc' := 4) C dX1_cheapest_3 rfl 0 (by decide) ?_
  refine j_iload_n (pc' := 5) C dX1_cheapest_4 rfl rfl ?_
  refine jc_sameX (z := z) (tO := tO) (pc' := 8) C (c_XcostOf l D cI cO ao ta B T z tO hwz 0 (by omega) by_) hA hO 2 gX1_cheapest_X1_costOf rfl (by decide +kernel) (by decide) rfl rfl (Nat.le_of_ble_eq_true rfl) 1 0 rfl rfl (wX_obj cI cO ao ta B _) (wX_addr cI cO ao ta B _) dX1_cheapest_5 rfl (fun v1 u1 hp1 => ?_)
  obtain ⟨rfl, hu1⟩ := hp1
  rw [hu1]
  clear hu1 u1
  show J p l e _ s m args below meth c 0 0 _ _ D A _ _ [_] _
  refine j_lstore_n (pc' := 9) C dX1_cheapest_8 rfl (by decide) rfl ?_
  refine j_iconst (pc' := 10) C dX1_cheapest_9 rfl 1 (by decide) ?_
  refine j_istore (pc' := 12) C dX1_cheapest_10 rfl (by decide) rfl ?_
  exact loop 5 1 0 none (by omega) (by omega) rfl
  
set_option maxRecDepth 100000 in
set_option maxHeartbeats 4000000 in
theorem c_Xcost (l : Launch) (D : va_G) (cI cO : ClassId) (ao ta : Nat) (B : Nat → Nat → Nat) (T : Nat → TS) (z tO : Nat) (hwz : wz z ao ta B) (hok : okX T) (od by_ : Int32) : Kt l yX1_cost wsX1_cost 6 (wX cI cO ao ta B) D cI cO (OT z tO) [.ref ao, .int od, .int by_] T (fun r u => r = some (.long (xCost T od by_).1) ∧ u = (xCost T od by_).2) := by
  refine Kt_of (cc := cX1_cost) (n := 3) (ret := some .long) rfl (by decide +kernel) (Nat.le_of_ble_eq_true rfl) rfl [some (.ref ao), some (.int od), some (.int by_)] rfl ?_
  intro p e s m args below meth c A C hO hA0
  have hA : ∀ q, A q → z ≤ q := fun q h => wz_A hwz hO.1 (hA0 q h)
  refine j_iload_n (pc' := 1) C dX1_cost_0 rfl rfl ?_
  refine j_if_lt (tgt := 10) (pc' := 4) C dX1_cost_1 (by decide) rfl (fun h1 => ?_) (fun h1 => ?_)
  · skip
    have hF : xCost T od by_ = (-1, T) := by rw [xCost, if_pos (Or.inl h1)]
    refine j_ldc2 (pc' := 13) C dX1_cost_10 rfl (-1) (by decide +kernel) ?_
    refine j_lreturn _ C dX1_cost_13 ?_
    exact ⟨by rw [hF] <;> rfl, by rw [hF] <;> rfl⟩
  · skip
    refine j_iload_n (pc' := 5) C dX1_cost_4 rfl rfl ?_
    refine j_bipush (pc' := 7) C dX1_cost_5 rfl 6 (by decide) ?_
    refine j_icmp_lt (tgt := 14) (pc' := 10) C dX1_cost_7 (by decide) rfl (fun h7 => ?_) (fun h7 => ?_)
    · skip
      have hF0 : xCost T od by_ = (xCostOf (spAll T) od.toNatClampNeg by_, spAll T) := by rw [xCost, if_neg (fun q => q.elim h1 (fun q => q h7))]
      obtain ⟨q, hq, rfl⟩ : ∃ q : Nat, q < 6 ∧ od = nI q := by
        rcases pk_ix od (n := 6) (by decide) with q | q | q
        · exact absurd q h1
        · exact absurd h7 (i32_le_nlt q)
        · exact q
      rw [nI_clamp (show q < 2 ^ 31 by omega)] at hF0
      refine j_aload_n (pc' := 15) C dX1_cost_14 rfl rfl ?_
      refine jc_same (pc' := 18) C (c_spreadAll l D cI cO ao ta B T hok) 0 gX1_cost_X1_spreadAll rfl (by decide +kernel) (by decide) rfl rfl (by decide) 1 0 rfl rfl (wX_obj cI cO ao ta B _) (wX_addr cI cO ao ta B _) dX1_cost_15 rfl (fun v1 u1 hp1 => ?_)
      obtain ⟨rfl, rfl⟩ := hp1
      show J p l e _ s m args below meth c 0 0 _ _ D A _ _ [] _
      refine j_aload_n (pc' := 19) C dX1_cost_18 rfl rfl ?_
      refine j_iload_n (pc' := 20) C dX1_cost_19 rfl rfl ?_
      refine j_iload_n (pc' := 21) C dX1_cost_20 rfl rfl ?_
      refine jc_sameX (z := z) (tO := tO) (pc' := 24) C (c_XcostOf l D cI cO ao ta B (spAll T) z tO hwz q hq by_) hA hO 2 gX1_cost_X1_costOf rfl (by decide +kernel) (by decide) rfl rfl (Nat.le_of_ble_eq_true rfl) 1 0 rfl rfl (wX_obj cI cO ao ta B _) (wX_addr cI cO ao ta B _) dX1_cost_21 rfl (fun v1 u1 hp1 => ?_)
      obtain ⟨rfl, hu1⟩ := hp1
      rw [hu1]
      clear hu1 u1
      show J p l e _ s m args below meth c 0 0 _ _ D A _ _ [_] _
      refine j_lreturn _ C dX1_cost_24 ?_
      exact ⟨by rw [hF0], by rw [hF0]⟩
      
      
    · skip
      have hF : xCost T od by_ = (-1, T) := by rw [xCost, if_pos (Or.inr h7)]
      refine j_ldc2 (pc' := 13) C dX1_cost_10 rfl (-1) (by decide +kernel) ?_
      refine j_lreturn _ C dX1_cost_13 ?_
      exact ⟨by rw [hF] <;> rfl, by rw [hF] <;> rfl⟩
set_option maxRecDepth 100000 in
set_option maxHeartbeats 4000000 in
theorem c_Xplan (l : Launch) (D : va_G) (cI cO : ClassId) (ao ta : Nat) (B : Nat → Nat → Nat) (T : Nat → TS) (z tO : Nat) (hwz : wz z ao ta B) (hok : okX T) (by_ : Int32) : Kt l yX1_plan wsX1_plan 6 (wX cI cO ao ta B) D cI cO (OT z tO) [.ref ao, .int by_] T (fun r u => r = some (.int (nI (xplanN (spAll T) by_))) ∧ u = spAll T) := by
  refine Kt_of (cc := cX1_plan) (n := 2) (ret := some .int) rfl (by decide +kernel) (Nat.le_of_ble_eq_true rfl) rfl [some (.ref ao), some (.int by_)] rfl ?_
  intro p e s m args below meth c A C hO hA0
  have hA : ∀ q, A q → z ≤ q := fun q h => wz_A hwz hO.1 (hA0 q h)
  refine j_aload_n (pc' := 1) C dX1_plan_0 rfl rfl ?_
  refine jc_same (pc' := 4) C (c_spreadAll l D cI cO ao ta B T hok) 0 gX1_plan_X1_spreadAll rfl (by decide +kernel) (by decide) rfl rfl (by decide) 1 0 rfl rfl (wX_obj cI cO ao ta B _) (wX_addr cI cO ao ta B _) dX1_plan_1 rfl (fun v1 u1 hp1 => ?_)
  obtain ⟨rfl, rfl⟩ := hp1
  show J p l e _ s m args below meth c 0 0 _ _ D A _ _ [] _
  refine j_aload_n (pc' := 5) C dX1_plan_4 rfl rfl ?_
  refine j_iload_n (pc' := 6) C dX1_plan_5 rfl rfl ?_
  refine jc_sameX (z := z) (tO := tO) (pc' := 9) C (c_cheapest l D cI cO ao ta B (spAll T) z tO hwz by_) hA hO 1 gX1_plan_X1_cheapest rfl (by decide +kernel) (by decide) rfl rfl (Nat.le_of_ble_eq_true rfl) 1 0 rfl rfl (wX_obj cI cO ao ta B _) (wX_addr cI cO ao ta B _) dX1_plan_6 rfl (fun v1 u1 hp1 => ?_)
  obtain ⟨rfl, hu1⟩ := hp1
  rw [hu1]
  clear hu1 u1
  show J p l e _ s m args below meth c 0 0 _ _ D A _ _ [_] _
  refine j_ireturn _ C dX1_plan_9 ?_
  exact ⟨rfl, rfl⟩
  
  
set_option maxRecDepth 100000 in
set_option maxHeartbeats 4000000 in
theorem c_Xlost (l : Launch) (D : va_G) (cI cO : ClassId) (ao ta : Nat) (B : Nat → Nat → Nat) (T : Nat → TS) (z tO : Nat) (hwz : wz z ao ta B) (hok : okX T) : Kt l yX1_lost wsX1_lost 6 (wX cI cO ao ta B) D cI cO (OT z tO) [.ref ao] T (fun r u => r = some (.long (xCostOf (spAll T) (xplanN (spAll T) 0) 1 - xCostOf (spAll T) (xplanN (spAll T) 1) 1)) ∧ u = spAll T) := by
  refine Kt_of (cc := cX1_lost) (n := 1) (ret := some .long) rfl (by decide +kernel) (Nat.le_of_ble_eq_true rfl) rfl [some (.ref ao)] rfl ?_
  intro p e s m args below meth c A C hO hA0
  have hA : ∀ q, A q → z ≤ q := fun q h => wz_A hwz hO.1 (hA0 q h)
  have h1 := xplanN_lt (spAll T) 0
  have h2 := xplanN_lt (spAll T) 1
  refine j_aload_n (pc' := 1) C dX1_lost_0 rfl rfl ?_
  refine jc_same (pc' := 4) C (c_spreadAll l D cI cO ao ta B T hok) 0 gX1_lost_X1_spreadAll rfl (by decide +kernel) (by decide) rfl rfl (by decide) 1 0 rfl rfl (wX_obj cI cO ao ta B _) (wX_addr cI cO ao ta B _) dX1_lost_1 rfl (fun v1 u1 hp1 => ?_)
  obtain ⟨rfl, rfl⟩ := hp1
  show J p l e _ s m args below meth c 0 0 _ _ D A _ _ [] _
  refine j_aload_n (pc' := 5) C dX1_lost_4 rfl rfl ?_
  refine j_aload_n (pc' := 6) C dX1_lost_5 rfl rfl ?_
  refine j_iconst (pc' := 7) C dX1_lost_6 rfl 0 (by decide) ?_
  refine jc_sameX (z := z) (tO := tO) (pc' := 10) C (c_cheapest l D cI cO ao ta B (spAll T) z tO hwz 0) hA hO 1 gX1_lost_X1_cheapest rfl (by decide +kernel) (by decide) rfl rfl (Nat.le_of_ble_eq_true rfl) 1 0 rfl rfl (wX_obj cI cO ao ta B _) (wX_addr cI cO ao ta B _) dX1_lost_7 rfl (fun v1 u1 hp1 => ?_)
  obtain ⟨rfl, hu1⟩ := hp1
  rw [hu1]
  clear hu1 u1
  show J p l e _ s m args below meth c 0 0 _ _ D A _ _ [_, _] _
  refine j_iconst (pc' := 11) C dX1_lost_10 rfl 1 (by decide) ?_
  refine jc_sameX (z := z) (tO := tO) (pc' := 14) C (c_XcostOf l D cI cO ao ta B (spAll T) z tO hwz (xplanN (spAll T) 0) h1 1) hA hO 2 gX1_lost_X1_costOf rfl (by decide +kernel) (by decide) rfl rfl (Nat.le_of_ble_eq_true rfl) 1 0 rfl rfl (wX_obj cI cO ao ta B _) (wX_addr cI cO ao ta B _) dX1_lost_11 rfl (fun v1 u1 hp1 => ?_)
  obtain ⟨rfl, hu1⟩ := hp1
  rw [hu1]
  clear hu1 u1
  show J p l e _ s m args below meth c 0 0 _ _ D A _ _ [_] _
  refine j_aload_n (pc' := 15) C dX1_lost_14 rfl rfl ?_
  refine j_aload_n (pc' := 16) C dX1_lost_15 rfl rfl ?_
  refine j_iconst (pc' := 17) C dX1_lost_16 rfl 1 (by decide) ?_
  refine jc_sameX (z := z) (tO := tO) (pc' := 20) C (c_cheapest l D cI cO ao ta B (spAll T) z tO hwz 1) hA hO 1 gX1_lost_X1_cheapest rfl (by decide +kernel) (by decide) rfl rfl (Nat.le_of_ble_eq_true rfl) 1 0 rfl rfl (wX_obj cI cO ao ta B _) (wX_addr cI cO ao ta B _) dX1_lost_17 rfl (fun v1 u1 hp1 => ?_)
  obtain ⟨rfl, hu1⟩ := hp1
  rw [hu1]
  clear hu1 u1
  show J p l e _ s m args below meth c 0 0 _ _ D A _ _ [_, _, _] _
  refine j_iconst (pc' := 21) C dX1_lost_20 rfl 1 (by decide) ?_
  refine jc_sameX (z := z) (tO := tO) (pc' := 24) C (c_XcostOf l D cI cO ao ta B (spAll T) z tO hwz (xplanN (spAll T) 1) h2 1) hA hO 2 gX1_lost_X1_costOf rfl (by decide +kernel) (by decide) rfl rfl (Nat.le_of_ble_eq_true rfl) 1 0 rfl rfl (wX_obj cI cO ao ta B _) (wX_addr cI cO ao ta B _) dX1_lost_21 rfl (fun v1 u1 hp1 => ?_)
  obtain ⟨rfl, hu1⟩ := hp1
  rw [hu1]
  clear hu1 u1
  show J p l e _ s m args below meth c 0 0 _ _ D A _ _ [_, _] _
  refine j_lsub (pc' := 25) C dX1_lost_24 rfl ?_
  refine j_lreturn _ C dX1_lost_25 ?_
  exact ⟨rfl, rfl⟩
  
  
  
  
  
