/-! the law's loop -/
def law_Fin (p : Program) (l : Launch) (e : Env) (s : State) (m : MethodId) (args : Array Value) (below : List Frame) (meth : Method) (c : Code) (cells slots : Nat) (Q : State → Prop) (D : va_G) (A : Nat → Prop) : Prop := ∀ (L : List (Option Value)) (ws : va_W), J p l e room_1 s m args below meth c cells slots Q 4 D A 814 L [] ws
theorem sw17 {x : Int} (h : ¬ (x < 0 ∨ 16 < x)) : x = 0 ∨ x = 1 ∨ x = 2 ∨ x = 3 ∨ x = 4 ∨ x = 5 ∨ x = 6 ∨ x = 7 ∨ x = 8 ∨ x = 9 ∨ x = 10 ∨ x = 11 ∨ x = 12 ∨ x = 13 ∨ x = 14 ∨ x = 15 ∨ x = 16 := by omega
set_option maxRecDepth 100000 in
set_option maxHeartbeats 4000000 in
theorem law_loop {p : Program} {l : Launch} {e : Env} {s : State} {m : MethodId} {args : Array Value} {below : List Frame} {meth : Method} {c : Code} {cells slots : Nat} {Q : State → Prop} {D : va_G} {A : Nat → Prop} {cI cO : ClassId} {ao ta : Nat} {B : Nat → Nat → Nat} {MB : Nat → Nat} {b Ln z tO : Nat} {xs : Nat → Int32} (C : Cx p room_1 s m args meth c cells slots 4 D A cL_law RL wsL_law ret cI cO) (hX : va_X b Ln xs s s.heap ∧ b < s.heap.size ∧ ¬ A b) (hL : Ln ≤ 3072) (hA : ∀ q, A q → z ≤ q) (hO : OT z tO s) (hwz : wz z ao ta B) (hF : law_Fin p l e s m args below meth c cells slots Q D A) : ∀ (fuel i : Nat) (T : Nat → TS) (t : TS), i ≤ Ln → Ln < i + fuel → Rel T t → J p l e room_1 s m args below meth c cells slots Q 4 D A 18 [some (.ref b), some (.ref ao), some (.ref (MB 10)), some (.int (nI (i)))] [] (wL cI cO ao ta B T MB t) := by
  intro fuel
  induction fuel with
  | zero => intro i T t h1 h2; omega
  | succ fuel ih =>
    intro i T t h1 h2 hr
    refine j_iload_n (pc' := 19) C dL_law_18 rfl rfl ?_
    refine j_aload_n (pc' := 20) C dL_law_19 rfl rfl ?_
    refine j_slen (pc' := 21) C hX dL_law_20 rfl ?_
    refine j_bipush (pc' := 23) C dL_law_21 rfl 6 (by decide) ?_
    refine j_isub (pc' := 24) C dL_law_23 rfl ?_
    refine j_icmp_gt (tgt := 814) (pc' := 27) C dL_law_24 (by decide) rfl (fun _ => hF _ _) (fun hg => ?_)
    have hi : i + 6 ≤ Ln := by
      have e1 : (nI Ln).toInt = (Ln : Int) := nI_toInt (by omega)
      have e2 : (nI i).toInt = (i : Int) := nI_toInt (by omega)
      have e6 : (6 : Int32).toInt = 6 := by decide
      have e3 : (nI Ln - 6).toInt = (nI Ln).toInt - (6 : Int32).toInt := fb_subI (by rw [e1, e6]; omega) (by rw [e1, e6]; omega)
      rw [Int32.lt_iff_toInt_lt, e3, e1, e2, e6] at hg
      omega
    have K : ∀ T1 t1, Rel T1 t1 → J p l e room_1 s m args below meth c cells slots Q 4 D A 808 [some (.ref b), some (.ref ao), some (.ref (MB 10)), some (.int (nI (i)))] [] (wL cI cO ao ta B T1 MB t1) := by
      intro T1 t1 hr1
      refine j_iinc (pc' := 811) C dL_law_808 rfl 6 (by decide) rfl (by decide) rfl ?_
      refine j_goto (pc' := 18) C dL_law_811 (by decide) ?_
      have := ih (i + 6) T1 t1 hi (by omega) hr1
      rw [show nI (i + 6) = nI i + 6 from (nI_add i 6).symm] at this
      exact this
    refine j_aload_n (pc' := 28) C dL_law_27 rfl rfl ?_
    refine j_iload_n (pc' := 29) C dL_law_28 rfl rfl ?_
    refine j_sld (pc' := 30) C hX dL_law_29 rfl i rfl (by omega) hL ?_
    refine j_bipush (pc' := 32) C dL_law_30 rfl 31 (by decide) ?_
    refine j_iand (pc' := 33) C dL_law_32 rfl ?_
    generalize xs i &&& 31 = v
    by_cases hv0 : v.toInt < 0 ∨ 16 < v.toInt
    · exact j_swOut (pc' := 808) C dL_law_33 (by decide) hv0 (K T t hr)
    have hv : ¬ v.toInt < 0 ∧ ¬ 16 < v.toInt := ⟨fun q => hv0 (Or.inl q), fun q => hv0 (Or.inr q)⟩
    rcases sw17 hv0 with hk | hk | hk | hk | hk | hk | hk | hk | hk | hk | hk | hk | hk | hk | hk | hk | hk
    · exact j_swIn (off := 83) (pc' := 116) C dL_law_33 (by decide) hv.1 hv.2 (by rw [hk]; rfl) (lc_rows C hX hL hi hr K)
    · exact j_swIn (off := 116) (pc' := 149) C dL_law_33 (by decide) hv.1 hv.2 (by rw [hk]; rfl) (lc_put C hX hL hi hr K)
    · exact j_swIn (off := 149) (pc' := 182) C dL_law_33 (by decide) hv.1 hv.2 (by rw [hk]; rfl) (lc_strike C hX hL hi hr K)
    · exact j_swIn (off := 182) (pc' := 215) C dL_law_33 (by decide) hv.1 hv.2 (by rw [hk]; rfl) (lc_sight C hX hL hi hr K)
    · exact j_swIn (off := 261) (pc' := 294) C dL_law_33 (by decide) hv.1 hv.2 (by rw [hk]; rfl) (lc_begins C hX hL hi hr K)
    · exact j_swIn (off := 314) (pc' := 347) C dL_law_33 (by decide) hv.1 hv.2 (by rw [hk]; rfl) (lc_room C hX hL hi hr K)
    · exact j_swIn (off := 347) (pc' := 380) C dL_law_33 (by decide) hv.1 hv.2 (by rw [hk]; rfl) (lc_sightOf C hX hL hi hr K)
    · exact j_swIn (off := 390) (pc' := 423) C dL_law_33 (by decide) hv.1 hv.2 (by rw [hk]; rfl) (lc_least C hX hL hi hr K)
    · exact j_swIn (off := 433) (pc' := 466) C dL_law_33 (by decide) hv.1 hv.2 (by rw [hk]; rfl) (lc_greatest C hX hL hi hr K)
    · exact j_swIn (off := 476) (pc' := 509) C dL_law_33 (by decide) hv.1 hv.2 (by rw [hk]; rfl) (lc_guess C hX hL hi hr K)
    · exact j_swIn (off := 519) (pc' := 552) C dL_law_33 (by decide) hv.1 hv.2 (by rw [hk]; rfl) (lc_join C hX hL hi hr K)
    · exact j_swIn (off := 573) (pc' := 606) C dL_law_33 (by decide) hv.1 hv.2 (by rw [hk]; rfl) (lc_truth C hX hL hi hr K)
    · exact j_swIn (off := 616) (pc' := 649) C dL_law_33 (by decide) hv.1 hv.2 (by rw [hk]; rfl) (lc_agrees C hX hL hi hr K)
    · exact j_swIn (off := 639) (pc' := 672) C dL_law_33 (by decide) hv.1 hv.2 (by rw [hk]; rfl) (lc_cost C hX hL hi hA hO hwz hr K)
    · exact j_swIn (off := 689) (pc' := 722) C dL_law_33 (by decide) hv.1 hv.2 (by rw [hk]; rfl) (lc_plan C hX hL hi hA hO hwz hr K)
    · exact j_swIn (off := 728) (pc' := 761) C dL_law_33 (by decide) hv.1 hv.2 (by rw [hk]; rfl) (lc_lost C hX hL hi hA hO hwz hr K)
    · exact j_swIn (off := 742) (pc' := 775) C dL_law_33 (by decide) hv.1 hv.2 (by rw [hk]; rfl) (lc_table C hX hL hi hr K)
