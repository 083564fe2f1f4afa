/-! THE CLAIM OUT OF ONE WALK OF THE LAW'S BODY. Your part is whole_start (and what it stands on); all else here is the same for every law, but numbers. -/
def R_law : String := "CountLearnerLaw"
def lw_P (b : Addr) (xs : List Int32) (args : Array Value) (s : State) : Prop := args = #[.ref b] ∧ s.IntsAt b xs ∧ xs.length ≤ 3072 ∧ (Jvm.Cond.and given_1 narrow_1).before args s = true
def lw_Q (_ : Array Value) (s : State) (o : Outcome) (t : State) : Prop := o = .returned (some (.int 1)) ∧ Framed s o t [] 600000 7302250
def lw_Z (below : List Frame) (a : Array Value) (s : State) : State → Prop := fun t => ∃ o, t.status = .running ∧ Ended t below o ∧ lw_Q a s o t
/-- the law's own end, with 1 on the stack, nothing written that was there before, its room as the claim has it -/
theorem lw_ret {p : Program} {l : Launch} {e : Env} {s : State} {m : MethodId} {below : List Frame} {meth : Method} {c : Code} {b : Nat} (hx : p.tables.exec = Jvm.exec) (hb : c.code = code) (hr : meth.sig.returnType = ret) (hlocks : meth.locks = false) {pc : Nat} {H : Heap} {ls : Array Slot} (hdg : decode code pc = .ok (.ireturn, 1)) : W p l e room_1 s m #[Value.ref b] below meth c H [] 600000 7302250 (lw_Z below #[Value.ref b] s) (F0 m pc ls [.int 1]) := by
  intro T hT X
  obtain ⟨fs, hret, hrun, hended, hW, hframe⟩ := X.leave (v := some (.int 1)) (hlocks := hlocks) (fun h => by rw [hr] at h; cases h)
  have hmeth' : T.vm.method? m = some meth := X.method'
  refine ⟨T.setFrames fs, ?_, .returned (some (.int 1)), hrun, hended, rfl, ⟨_, rfl⟩, hW, hframe⟩
  jvm_step X.here [X.here.top, hx, hb, hdg, hmeth', hr, ret, narrow_b1]
  (try refine ⟨rfl, ?_⟩); (try refine ⟨rfl, ?_⟩)
  first | (intro acts; rw [hret _ acts rfl rfl rfl]) | rw [hret _ _ rfl rfl rfl]
  exact Steps.refl _
/-- what holds at the law's entry: the machine, the code, the tables' words (any of lw_tbl by 'hts w (by decide +kernel)'), the script of L ints xs at the cell b, what the Statement gives of the start (any of its parts by flat_of_before) -/
def lw_At (p : Program) (s : State) (m : MethodId) (meth : Method) (c : Code) (b L : Nat) (xs : Nat → Int32) : Prop :=
  p.tables.exec = Jvm.exec ∧ c.code = code ∧ meth.sig.returnType = ret ∧ c.maxLocals = 4 ∧ s.vm.findClass R_law = some m.cls ∧ (∀ w ∈ lw_tbl, w.before #[Value.ref b] s = true) ∧ va_X b L xs s s.heap ∧ b < s.heap.size ∧ meth.locks = false ∧ (Jvm.Cond.and given_1 narrow_1).before #[Value.ref b] s = true
theorem rel0 : Rel (fun _ => t0T) m0M := by
  intro i hi
  have hn : nT t0T = 0 := by decide +kernel
  refine ⟨⟨⟨rfl, rfl, ?_⟩, fun s _ => ⟨rfl, rfl, rfl, rfl⟩, fun v _ => rfl⟩, ⟨⟨⟨⟨(show vp_in (nI 0) 41 from vp_in_nI (by decide) (by decide)), fun s hs => ?_⟩, ⟨by show 0 ≤ (0 : Int32).toInt; decide, by show (0 : Int32).toInt ≤ 1000000; decide⟩, fun s hs => ?_⟩, (show vp_in (nI 40) 41 from vp_in_nI (by decide) (by decide)), fun s hs => ?_, fun v _ => ⟨by show 0 ≤ (0 : Int32).toInt; decide, by show (0 : Int32).toInt ≤ 100000; decide⟩⟩, ⟨fun h => absurd rfl h, fun h => absurd rfl h⟩⟩, fun h => absurd h (nI_m1 i hi)⟩
  · rcases (show i = 0 ∨ i = 1 ∨ i = 2 by omega) with rfl | rfl | rfl <;> decide +kernel
  · exact absurd (show s < nT t0T from hs) (by omega)
  · exact absurd (show s < nT t0T from hs) (by omega)
  · exact absurd (show s < nT t0T from hs) (by omega)
theorem lvh_1 {ls : Array Slot} {v : Value} (h : lv_has ls 4 [(0, v)]) : lvh ls 4 [some v, none, none, none] := h
set_option maxRecDepth 100000 in
set_option maxHeartbeats 4000000 in
/-- the law, from its entry -/
theorem whole_start {p : Program} {e : Env} {s : State} {m : MethodId} {below : List Frame} {meth : Method} {c : Code} (l : Launch) {b L : Nat} {xs : Nat → Int32} (hL : L ≤ 3072) (C0 : lw_At p s m meth c b L xs) : W p l e room_1 s m #[Value.ref b] below meth c s.heap [] 0 0 (lw_Z below #[Value.ref b] s) (entryFrame m ([Value.ref b] : List Value).toArray 4) := by
  obtain ⟨hx, hb, hr, hml, hown, hts, hX, hbl, hlocks, hgv⟩ := id C0
  have hbA : ¬ (fun q : Nat => s.heap.size ≤ q) b := Nat.not_le.mpr hbl
  have htl : ∀ w ∈ wsL_law, w.before #[Value.ref b] s = true := fun w h => hts w (wsL_law_in w h)
  have hAO := hts (.arrayOver (.object "CountLearner$Table")) (List.mem_append_right _ (List.mem_of_getElem? (i := 16) (by decide +kernel)))
  have hNl := hts (.methodLinkNest RX1 15 yX0_init "CountLearner") (List.mem_append_right _ (List.mem_of_getElem? (i := 18) (by decide +kernel)))
  obtain ⟨c0, iS0, hKn0⟩ := u_known (C := RX0) (T := TX0) (N := 14) (n := 14) hts inX0 (hts (.instantiable RX0 14) (List.mem_append_right _ (List.mem_of_getElem? (i := 17) (by decide +kernel))))
  obtain ⟨c1, iS1, hKn1⟩ := u_known (C := RX1) (T := TX1) (N := 1) (n := 1) hts inX1 (hts (.instantiable RX1 1) (List.mem_append_right _ (List.mem_of_getElem? (i := 8) (by decide +kernel))))
  obtain ⟨c2, iS2, hKn2⟩ := u_known (C := RX2) (T := TX2) (N := 12) (n := 12) hts inX2 (hts (.instantiable RX2 12) (List.mem_append_right _ (List.mem_of_getElem? (i := 259) (by decide +kernel))))
  obtain ⟨dC, dI, hKc⟩ : ∃ (dC : Nat → ClassId) (dI : Nat → Nat → Nat), ∀ (k : Nat) (q : vw_C), vwCl[k]? = some q → u_Kn s q.1 q.2.1 q.2.2 (dC k) (dI k) := by
    refine ⟨fun k => if k = 0 then c0 else if k = 1 then c1 else c2, fun k => if k = 0 then iS0 else if k = 1 then iS1 else iS2, ?_⟩
    intro k q hq
    match k, hq with
    | 0, hq => cases hq; exact hKn0
    | 1, hq => cases hq; exact hKn1
    | 2, hq => cases hq; exact hKn2
    | k + 3, hq => simp [vwCl] at hq
  obtain ⟨cI, kI, compI, i1, i2, i3⟩ := Cond.arrayClass_spec (hts (.arrayClass .int) (List.mem_append_right _ (List.mem_of_getElem? (i := 75) (by decide +kernel))))
  obtain ⟨compO, cO, kO, o1, -, o3, o4, o5⟩ := Cond.arrayOver_spec hAO
  have hK : va_K (dC, dI) vwCl (tyA cI cO) s := by
    refine ⟨hKc, fun k q hk => ?_⟩
    match k, hk with
    | 0, hk => cases hk; exact ⟨fun N z => ⟨fun k h => (by cases h), kI, i2, compI, i3⟩, i1⟩
    | 1, hk => cases hk; exact ⟨fun N z => ⟨fun k h => (by cases h), kO, o3, compO, o4⟩, kO, compO, o3, o4, o1, o5⟩
    | k + 2, hk => simp [tyA] at hk
  have hq := flat_of_before _ hgv
  obtain ⟨tO, hT1, hT2⟩ := va_Tof (args := #[Value.ref b]) (s := s) (tm := (Term.static "CountLearner" "ORDER_TABLES" "[I")) (ty := .int) (N := 18) (f := fun j => .int (ordT j)) (A := fun q : Nat => s.heap.size ≤ q) (by decide) (hq (.arrayOf (Term.static "CountLearner" "ORDER_TABLES" "[I") .int) (by decide +kernel)) (va_eqt (hq (.eq (.length (Term.static "CountLearner" "ORDER_TABLES" "[I")) (.int 18)) (by decide +kernel))) (fun j hj => by
    rcases (show j = 0 ∨ j = 1 ∨ j = 2 ∨ j = 3 ∨ j = 4 ∨ j = 5 ∨ j = 6 ∨ j = 7 ∨ j = 8 ∨ j = 9 ∨ j = 10 ∨ j = 11 ∨ j = 12 ∨ j = 13 ∨ j = 14 ∨ j = 15 ∨ j = 16 ∨ j = 17 by omega) with rfl | rfl | rfl | rfl | rfl | rfl | rfl | rfl | rfl | rfl | rfl | rfl | rfl | rfl | rfl | rfl | rfl | rfl
    · exact va_eqt (hq (.eq (.elem (Term.static "CountLearner" "ORDER_TABLES" "[I") (.int 0)) (.int 0)) (by decide +kernel))
    · exact va_eqt (hq (.eq (.elem (Term.static "CountLearner" "ORDER_TABLES" "[I") (.int 1)) (.int 1)) (by decide +kernel))
    · exact va_eqt (hq (.eq (.elem (Term.static "CountLearner" "ORDER_TABLES" "[I") (.int 2)) (.int 2)) (by decide +kernel))
    · exact va_eqt (hq (.eq (.elem (Term.static "CountLearner" "ORDER_TABLES" "[I") (.int 3)) (.int 0)) (by decide +kernel))
    · exact va_eqt (hq (.eq (.elem (Term.static "CountLearner" "ORDER_TABLES" "[I") (.int 4)) (.int 2)) (by decide +kernel))
    · exact va_eqt (hq (.eq (.elem (Term.static "CountLearner" "ORDER_TABLES" "[I") (.int 5)) (.int 1)) (by decide +kernel))
    · exact va_eqt (hq (.eq (.elem (Term.static "CountLearner" "ORDER_TABLES" "[I") (.int 6)) (.int 1)) (by decide +kernel))
    · exact va_eqt (hq (.eq (.elem (Term.static "CountLearner" "ORDER_TABLES" "[I") (.int 7)) (.int 0)) (by decide +kernel))
    · exact va_eqt (hq (.eq (.elem (Term.static "CountLearner" "ORDER_TABLES" "[I") (.int 8)) (.int 2)) (by decide +kernel))
    · exact va_eqt (hq (.eq (.elem (Term.static "CountLearner" "ORDER_TABLES" "[I") (.int 9)) (.int 1)) (by decide +kernel))
    · exact va_eqt (hq (.eq (.elem (Term.static "CountLearner" "ORDER_TABLES" "[I") (.int 10)) (.int 2)) (by decide +kernel))
    · exact va_eqt (hq (.eq (.elem (Term.static "CountLearner" "ORDER_TABLES" "[I") (.int 11)) (.int 0)) (by decide +kernel))
    · exact va_eqt (hq (.eq (.elem (Term.static "CountLearner" "ORDER_TABLES" "[I") (.int 12)) (.int 2)) (by decide +kernel))
    · exact va_eqt (hq (.eq (.elem (Term.static "CountLearner" "ORDER_TABLES" "[I") (.int 13)) (.int 0)) (by decide +kernel))
    · exact va_eqt (hq (.eq (.elem (Term.static "CountLearner" "ORDER_TABLES" "[I") (.int 14)) (.int 1)) (by decide +kernel))
    · exact va_eqt (hq (.eq (.elem (Term.static "CountLearner" "ORDER_TABLES" "[I") (.int 15)) (.int 2)) (by decide +kernel))
    · exact va_eqt (hq (.eq (.elem (Term.static "CountLearner" "ORDER_TABLES" "[I") (.int 16)) (.int 1)) (by decide +kernel))
    · exact va_eqt (hq (.eq (.elem (Term.static "CountLearner" "ORDER_TABLES" "[I") (.int 17)) (.int 0)) (by decide +kernel))) (fun a ha => Nat.not_le.mpr ha)
  have hZ := va_Zref (A := fun q : Nat => s.heap.size ≤ q) (hts (.laysStatic "CountLearner" "ORDER_TABLES" "[I") (List.mem_append_right _ (List.mem_of_getElem? (i := 237) (by decide +kernel)))) (hts (.initialized "CountLearner") (List.mem_append_right _ (List.mem_of_getElem? (i := 1) (by decide +kernel)))) hT1 (fun a ha => Nat.not_le.mpr ha)
  have hO : OT s.heap.size tO s := ⟨Nat.le_refl _, hZ, hT2⟩
  have hXC : XC s := ⟨va_AO.of hAO, va_Nw.of rfl hNl⟩
  have C : Cx p room_1 s m #[Value.ref b] meth c 0 0 4 (dC, dI) (fun q : Nat => s.heap.size ≤ q) cL_law RL wsL_law ret cI cO := ⟨hx, hb, hml, hown, htl, hlocks, hK, hr, Nat.zero_le _, Nat.zero_le _, fun _ h => h⟩
  have C4 := C.more (k1 := 44) (k2 := 6656) (by decide) (by decide)
  have hFin : law_Fin p l e s m #[Value.ref b] below meth c 44 6656 (lw_Z below #[Value.ref b] s) (dC, dI) (fun q : Nat => s.heap.size ≤ q) := by
    intro L1 ws1
    refine j_iconst (pc' := 815) C4 dL_law_814 rfl 1 (by decide) ?_
    intro H locs ls hl hP hD hS
    refine va_forget (fun q hq => hS.2.2 q hq) ?_
    refine W.widen (k := 600000) (n := 7302250) (by omega) (by omega) ?_
    exact lw_ret hx hb hr hlocks dL_law_815
  have main : J p l e room_1 s m #[Value.ref b] below meth c 0 0 (lw_Z below #[Value.ref b] s) 4 (dC, dI) (fun q : Nat => s.heap.size ≤ q) 0 [some (.ref b), none, none, none] [] [] := by
    refine j_new (pc' := 3) (ci := 1) (Cn := RX1) (T := TX1) (N := 1) C dL_law_0 rfl tyX1 tyX1_ok rfl inlX1 (by decide +kernel) (by decide +kernel) (by decide +kernel) [.null] (by decide) (by decide) (by decide) (fun ao => ?_)
    have C1 := C.more (k1 := 1) (k2 := 1) (by decide) (by decide)
    refine j_dup (cells := 1) (slots := 1) (pc' := 4) C1 dL_law_3 rfl rfl ?_
    refine j_callI (pc' := 7) (wr := []) (rest := [.ref ao]) C1 (c_Xinit l (dC, dI) cI cO ao) gL_law_X1_init rfl (by decide +kernel) (by decide +kernel) (by decide +kernel) rfl (by decide +kernel) (by decide) rfl (Nat.le_of_ble_eq_true rfl) XC_b (fun U hW => XC_w hXC U hW) [0] [] rfl rfl rfl rfl (by simp) dL_law_4 rfl (by decide) (by decide) (fun u _ => ?_)
    obtain ⟨ta, B⟩ := u
    have C2 := C.more (k1 := 32) (k2 := 1423) (by decide) (by decide)
    refine j_astore_n (cells := 32) (slots := 1423) (pc' := 8) C2 dL_law_7 rfl (by decide) rfl ?_
    refine j_new (pc' := 11) (ci := 2) (Cn := RX2) (T := TX2) (N := 12) (ws := wX cI cO ao ta B (fun _ => t0T)) C2 dL_law_8 rfl tyX2 tyX2_ok rfl inlX2 (by decide +kernel) (by decide +kernel) (by decide +kernel) [.null, .null, .null, .null, .null, .null, .null, .null, .null, .null, .int 0, .null] (by decide) (by decide) (by decide) (fun mo => ?_)
    have C3 := C.more (k1 := 33) (k2 := 1435) (by decide) (by decide)
    refine j_dup (cells := 33) (slots := 1435) (pc' := 12) C3 dL_law_11 rfl rfl ?_
    refine j_callI (pc' := 15) (wr := wX cI cO ao ta B (fun _ => t0T)) (rest := [.ref mo]) C3 (c_Minit l (dC, dI) cI cO mo) gL_law_X2_init rfl (by decide +kernel) (by decide +kernel) (by decide +kernel) rfl (by decide +kernel) (by decide) rfl (Nat.le_of_ble_eq_true rfl) (fun _ _ _ _ _ => trivial) (fun _ _ => trivial) [32] [0, 1, 2, 3, 4, 5, 6, 7, 8, 9, 10, 11, 12, 13, 14, 15, 16, 17, 18, 19, 20, 21, 22, 23, 24, 25, 26, 27, 28, 29, 30, 31] rfl rfl rfl (by decide) (by decide) dL_law_12 rfl (by decide) (by decide) (fun MB hMB => ?_)
    have hMB : MB 10 = mo := hMB
    subst hMB
    refine j_astore_n (cells := 44) (slots := 6656) (pc' := 16) C4 dL_law_15 rfl (by decide) rfl ?_
    refine j_iconst (pc' := 17) C4 dL_law_16 rfl 0 (by decide) ?_
    refine j_istore_n (pc' := 18) C4 dL_law_17 rfl (by decide) rfl ?_
    intro H locs ls hl hP hD hS
    have hwz : wz s.heap.size ao ta B := by
      intro dI' dO' T' q hq
      have hq : q ∈ (wX cI cO ao ta B (fun _ => t0T)).map Prod.fst := hq
      obtain ⟨⟨q1, e1⟩, h1, rfl⟩ := List.mem_map.mp hq
      obtain ⟨k, hk⟩ := List.getElem?_of_mem h1
      exact hD.2 k (q1, e1) (by rw [List.getElem?_append_left (List.getElem?_eq_some_iff.mp hk).1]; exact hk)
    exact law_loop C4 ⟨hX, hbl, hbA⟩ hL (fun _ h => h) hO hwz hFin (L + 1) 0 (fun _ => t0T) m0M (Nat.zero_le _) (by omega) rel0 H locs ls hl hP hD hS
  have hl := lv_entry ([.ref b]) (n := 4) (Nat.le_of_ble_eq_true rfl)
  rw [lg_entry_eq]
  exact main s.heap [] _ (lvh_1 hl) (fun k q h => by simp at h) ⟨fun i j p q h => by simp at h, fun k q h => by simp at h⟩ va_S.rf
