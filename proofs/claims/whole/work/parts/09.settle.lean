/-! settle -/
theorem j_ws {p : Program} {l : Launch} {e : Env} {R : Room} {s : State} {m : MethodId} {args : Array Value} {below : List Frame} {meth : Method} {c : Code} {cells slots : Nat} {Q : State → Prop} {n : Nat} {D : va_G} {A : Nat → Prop} {pc : Nat} {L : List (Option Value)} {S : List Value} {ws ws' : va_W} (h : ws = ws') (k : J p l e R s m args below meth c cells slots Q n D A pc L S ws') : J p l e R s m args below meth c cells slots Q n D A pc L S ws := h ▸ k
def setS (t : TS) (i : Nat) : TS := ((fitsF t i).2.1, ua (fitsF t i).2.2 7 (upd ((fitsF t i).2.2 7) i (if (fitsF t i).1 = 0 then 1 else 0)))
def setL (ol : Int32) : Nat → TS → TS
  | 0, t => t
  | i + 1, t => if nI i < ol then t else setL ol i (setS t i)
def set0 (t : TS) : TS := (t.1, ua (ua t.2 7 (fillF 2 40 (t.2 7))) 10 (upd (fillF 0 65 (t.2 10)) 64 (t.1 0)))
def oldF (t : TS) : Int32 := if t.1 1 - t.1 2 < 0 then 0 else t.1 1 - t.1 2
def settleF (t : TS) : TS := if t.1 12 = 0 then (upd (setL (oldF t) (t.1 1).toNatClampNeg (set0 t)).1 12 1, (setL (oldF t) (t.1 1).toNatClampNeg (set0 t)).2) else t
theorem fitsT_1 (t : TS) (mv fx : Nat) (goal : Int32) : (fitsT t mv fx goal).2.1 = t.1 := by
  unfold fitsT; split <;> rfl
theorem fitsT_k (t : TS) (mv fx : Nat) (goal : Int32) {k : Nat} (h : k ≠ 10) (h2 : k ≠ 11) : (fitsT t mv fx goal).2.2 k = t.2 k := by
  unfold fitsT; split
  · show ua t.2 11 _ k = _; rw [ua_n _ _ h2]
  · show ua (ua t.2 11 _) 10 _ k = _; rw [ua_n _ _ h, ua_n _ _ h2]
theorem fitsF_1 (t : TS) (i : Nat) : (fitsF t i).2.1 = t.1 := by
  unfold fitsF; split
  · exact fitsT_1 _ _ _ _
  · split
    · exact fitsT_1 _ _ _ _
    · rfl
theorem fitsF_k (t : TS) (i : Nat) {k : Nat} (h : k ≠ 10) (h2 : k ≠ 11) : (fitsF t i).2.2 k = t.2 k := by
  unfold fitsF; split
  · exact fitsT_k _ _ _ _ h h2
  · split
    · exact fitsT_k _ _ _ _ h h2
    · rfl
theorem fitsF_01 (t : TS) (i : Nat) : (fitsF t i).1 = 0 ∨ (fitsF t i).1 = 1 := by
  have h : ∀ mv fx goal, (fitsT t mv fx goal).1 = 0 ∨ (fitsT t mv fx goal).1 = 1 := by
    intro mv fx goal; unfold fitsT; split
    · exact Or.inl rfl
    · exact Or.inr rfl
  unfold fitsF; split
  · exact h _ _ _
  · split
    · exact h _ _ _
    · exact Or.inr rfl
def sameA (tt t : TS) : Prop := tt.1 = t.1 ∧ ∀ k, k ≠ 7 → k ≠ 10 → k ≠ 11 → tt.2 k = t.2 k
theorem sameA.ok {tt t : TS} (h : sameA tt t) (ho : okT t) : okT tt := by
  unfold okT at ho ⊢
  rw [h.1, h.2 3 (by decide) (by decide) (by decide), h.2 4 (by decide) (by decide) (by decide)]
  exact ho
theorem sameA.rf (t : TS) : sameA t t := ⟨rfl, fun _ _ _ _ => rfl⟩
theorem setS_same {tt t : TS} (i : Nat) (h : sameA tt t) : sameA (setS tt i) t := ⟨(fitsF_1 tt i).trans h.1, fun k h1 h2 h3 => by
  show ua (fitsF tt i).2.2 7 _ k = _
  rw [ua_n _ _ h1, fitsF_k _ _ h2 h3]
  exact h.2 k h1 h2 h3⟩
theorem set0_same (t : TS) : sameA (set0 t) t := ⟨rfl, fun k h1 h2 h3 => by
  show ua (ua t.2 7 _) 10 _ k = _
  rw [ua_n _ _ h2, ua_n _ _ h1]⟩
theorem setL_same (ol : Int32) : ∀ (i : Nat) (tt t : TS), sameA tt t → sameA (setL ol i tt) t
  | 0, _, _, h => h
  | i + 1, tt, t, h => by
    unfold setL; split
    · exact h
    · exact setL_same ol i _ _ (setS_same i h)
set_option maxRecDepth 100000 in
set_option maxHeartbeats 4000000 in
theorem c_settle (l : Launch) (D : va_G) (cI cO : ClassId) (B : Nat → Nat) (t : TS) (hok : okT t) : Kt l yX0_settle wsX0_settle 3 (wT cI B) D cI cO (fun _ => True) [.ref (B 0)] t (fun r u => r = none ∧ u = settleF t) := by
  refine Kt_of (cc := cX0_settle) (n := 3) (ret := none) rfl (by decide +kernel) (Nat.le_of_ble_eq_true rfl) rfl [some (.ref (B 0)), none, none] rfl ?_
  intro p e s m args below meth c A C _ _
  have hinT : ∀ w ∈ wsX00, w ∈ wsX0_settle := by decide +kernel
  obtain ⟨en, hn41⟩ := vp_in_c hok.1 (by decide)
  have hol : ¬ oldF t < 0 := by
    unfold oldF
    split
    · decide
    · assumption
  refine j_aload_n (pc' := 1) C dX0_settle_0 rfl rfl ?_
  refine jTi (pc' := 4) C dX0_settle_1 rfl 12 (by unfold isIT; decide) hinT (by decide +kernel) ?_
  refine j_if_eq (tgt := 8) (pc' := 7) C dX0_settle_4 (by decide) rfl (fun h4 => ?_) (fun h4 => ?_)
  · skip
    refine j_aload_n (pc' := 9) C dX0_settle_8 rfl rfl ?_
    refine jTa (pc' := 12) C dX0_settle_9 rfl 7 (by decide) hinT (by decide +kernel) ?_
    refine j_iconst (pc' := 13) C dX0_settle_12 rfl 2 (by decide) ?_
    refine jT_callA (pc' := 16) C 7 (by decide) (c_fill l D cI cO (B 7) (lenT 7) (by decide) (t.2 7) 2) 2 gX0_settle_J7_fill_53178 rfl (by decide +kernel) (by decide) rfl rfl (by decide) dX0_settle_13 rfl (fun v1 g1 hp1 => ?_)
    obtain ⟨rfl, rfl⟩ := hp1
    show J p l e _ s m args below meth c 0 0 _ _ D A _ _ [] _
    refine j_aload_n (pc' := 17) C dX0_settle_16 rfl rfl ?_
    refine jTa (pc' := 20) C dX0_settle_17 rfl 10 (by decide) hinT (by decide +kernel) ?_
    refine j_iconst (pc' := 21) C dX0_settle_20 rfl 0 (by decide) ?_
    refine jT_callA (pc' := 24) C 10 (by decide) (c_fill l D cI cO (B 10) (lenT 10) (by decide) (t.2 10) 0) 2 gX0_settle_J7_fill_53178 rfl (by decide +kernel) (by decide) rfl rfl (by decide) dX0_settle_21 rfl (fun v1 g1 hp1 => ?_)
    obtain ⟨rfl, rfl⟩ := hp1
    show J p l e _ s m args below meth c 0 0 _ _ D A _ _ [] _
    refine j_aload_n (pc' := 25) C dX0_settle_24 rfl rfl ?_
    refine jTa (pc' := 28) C dX0_settle_25 rfl 10 (by decide) hinT (by decide +kernel) ?_
    refine j_bipush (pc' := 30) C dX0_settle_28 rfl 64 (by decide) ?_
    refine j_aload_n (pc' := 31) C dX0_settle_30 rfl rfl ?_
    refine jTi (pc' := 34) C dX0_settle_31 rfl 0 (by unfold isIT; decide) hinT (by decide +kernel) ?_
    refine jTsN (pc' := 35) C dX0_settle_34 rfl 10 (by decide) 64 rfl (by decide) ?_
    refine j_ws (ws' := wT cI B (set0 t)) (by unfold set0; show wT cI B (t.1, ua (ua (ua t.2 7 _) 10 _) 10 _) = _; rw [ua_ua]; rfl) ?_
    have hset : settleF t = (upd (setL (oldF t) (t.1 1).toNatClampNeg (set0 t)).1 12 1, (setL (oldF t) (t.1 1).toNatClampNeg (set0 t)).2) := by rw [settleF, if_pos h4]
    have hout : ∀ (tt : TS) (x : Option Value), tt = setL (oldF t) (t.1 1).toNatClampNeg (set0 t) → J p l e (rmH 3) s m args below meth c 0 0 (RQ below args s D (wT cI B) (fun r u => r = none ∧ u = settleF t) A) 3 D A 86 [some (.ref (B 0)), some (.int (oldF t)), x] [] (wT cI B tt) := by
      intro tt x ett
      refine j_aload_n (pc' := 87) C dX0_settle_86 rfl rfl ?_
      refine j_iconst (pc' := 88) C dX0_settle_87 rfl 1 (by decide) ?_
      refine jTpZ (pc' := 91) C dX0_settle_88 rfl 12 (by decide) hinT (by decide +kernel) (by decide) ?_
      refine j_return _ C dX0_settle_91 ?_
      exact ⟨rfl, by rw [hset, ← ett]⟩
    have loop : ∀ (i : Nat) (tt : TS), i ≤ (t.1 1).toNatClampNeg → sameA tt t → setL (oldF t) i tt = setL (oldF t) (t.1 1).toNatClampNeg (set0 t) → J p l e (rmH 3) s m args below meth c 0 0 (RQ below args s D (wT cI B) (fun r u => r = none ∧ u = settleF t) A) 3 D A 56 [some (.ref (B 0)), some (.int (oldF t)), some (.int (nI i + (-1)))] [] (wT cI B tt) := by
      intro i
      induction i with
      | zero =>
        intro tt hi hs hr
        refine j_iload_n (pc' := 57) C dX0_settle_56 rfl rfl ?_
        refine j_iload_n (pc' := 58) C dX0_settle_57 rfl rfl ?_
        refine j_icmp_lt (tgt := 86) (pc' := 61) C dX0_settle_58 (by decide) rfl (fun h58 => ?_) (fun h58 => ?_)
        · skip
          exact hout tt _ hr
        · skip
          exact absurd (by
            have h2 : (nI 0 + (-1) : Int32).toInt = -1 := by decide
            have h3 : ¬ (oldF t).toInt < 0 := by
              intro h4
              exact hol (Int32.lt_iff_toInt_lt.mpr (by rw [show (0 : Int32).toInt = 0 from rfl]; exact h4))
            exact Int32.lt_iff_toInt_lt.mpr (by rw [h2]; omega)) h58 -- done
      | succ i ih =>
        intro tt hi hs hr
        rw [pk_m1]
        refine j_iload_n (pc' := 57) C dX0_settle_56 rfl rfl ?_
        refine j_iload_n (pc' := 58) C dX0_settle_57 rfl rfl ?_
        refine j_icmp_lt (tgt := 86) (pc' := 61) C dX0_settle_58 (by decide) rfl (fun h58 => ?_) (fun h58 => ?_)
        · skip
          exact hout tt _ (by rw [← hr, setL, if_pos h58])
        · skip
          refine j_aload_n (pc' := 62) C dX0_settle_61 rfl rfl ?_
          refine jTa (pc' := 65) C dX0_settle_62 rfl 7 (by decide) hinT (by decide +kernel) ?_
          refine j_iload_n (pc' := 66) C dX0_settle_65 rfl rfl ?_
          refine j_aload_n (pc' := 67) C dX0_settle_66 rfl rfl ?_
          refine j_iload_n (pc' := 68) C dX0_settle_67 rfl rfl ?_
          refine jc_same (pc' := 71) C (c_fits l D cI cO B tt (hs.ok hok) i (by rw [hs.1]; omega)) 1 gX0_settle_X0_fits rfl (by decide +kernel) (by decide) rfl rfl (Nat.le_of_ble_eq_true rfl) 0 0 rfl rfl (wT_obj cI B _) (fun _ => rfl) dX0_settle_68 rfl (fun v1 u1 hp1 => ?_)
          obtain ⟨rfl, rfl⟩ := hp1
          show J p l e _ s m args below meth c 0 0 _ _ D A _ _ [_, _, _] _
          refine j_if_eq (tgt := 78) (pc' := 74) C dX0_settle_71 (by decide) rfl (fun h71 => ?_) (fun h71 => ?_)
          · skip
            refine j_iconst (pc' := 79) C dX0_settle_78 rfl 1 (by decide) ?_
            have hx : J p l e (rmH 3) s m args below meth c 0 0 (RQ below args s D (wT cI B) (fun r u => r = none ∧ u = settleF t) A) 3 D A 79 [some (.ref (B 0)), some (.int (oldF t)), some (.int (nI i))] [.int (if (fitsF tt i).1 = 0 then 1 else 0), .int (nI i), .ref (B 7)] (wT cI B (fitsF tt i).2) := by
              refine jTsN (pc' := 80) C dX0_settle_79 rfl 7 (by decide) i rfl (by unfold lenT; simp; omega) ?_
              refine j_iinc (pc' := 83) C dX0_settle_80 rfl (-1) (by decide) rfl (by decide) rfl ?_
              refine j_goto (pc' := 56) C dX0_settle_83 (by decide) ?_
              exact ih (setS tt i) (by omega) (setS_same i hs) (by rw [← hr, setL, if_neg h58])
            first | (rw [if_pos h71] at hx; exact hx) | (rw [if_neg h71] at hx; exact hx)
          · skip
            refine j_iconst (pc' := 75) C dX0_settle_74 rfl 0 (by decide) ?_
            refine j_goto (pc' := 79) C dX0_settle_75 (by decide) ?_
            have hx : J p l e (rmH 3) s m args below meth c 0 0 (RQ below args s D (wT cI B) (fun r u => r = none ∧ u = settleF t) A) 3 D A 79 [some (.ref (B 0)), some (.int (oldF t)), some (.int (nI i))] [.int (if (fitsF tt i).1 = 0 then 1 else 0), .int (nI i), .ref (B 7)] (wT cI B (fitsF tt i).2) := by
              refine jTsN (pc' := 80) C dX0_settle_79 rfl 7 (by decide) i rfl (by unfold lenT; simp; omega) ?_
              refine j_iinc (pc' := 83) C dX0_settle_80 rfl (-1) (by decide) rfl (by decide) rfl ?_
              refine j_goto (pc' := 56) C dX0_settle_83 (by decide) ?_
              exact ih (setS tt i) (by omega) (setS_same i hs) (by rw [← hr, setL, if_neg h58])
            first | (rw [if_pos h71] at hx; exact hx) | (rw [if_neg h71] at hx; exact hx)
          
    refine j_aload_n (pc' := 36) C dX0_settle_35 rfl rfl ?_
    refine jTi (pc' := 39) C dX0_settle_36 rfl 1 (by unfold isIT; decide) hinT (by decide +kernel) ?_
    refine j_aload_n (pc' := 40) C dX0_settle_39 rfl rfl ?_
    refine jTi (pc' := 43) C dX0_settle_40 rfl 2 (by unfold isIT; decide) hinT (by decide +kernel) ?_
    refine j_isub (pc' := 44) C dX0_settle_43 rfl ?_
    refine j_iconst (pc' := 45) C dX0_settle_44 rfl 0 (by decide) ?_
    refine j_max (pc' := 48) C dX0_settle_45 rfl (by decide +kernel) (by decide +kernel) (by decide +kernel) (by decide +kernel) (by decide) (by decide) ?_
    refine j_istore_n (pc' := 49) C dX0_settle_48 rfl (by decide) rfl ?_
    refine j_aload_n (pc' := 50) C dX0_settle_49 rfl rfl ?_
    refine jTi (pc' := 53) C dX0_settle_50 rfl 1 (by unfold isIT; decide) hinT (by decide +kernel) ?_
    refine j_iconst (pc' := 54) C dX0_settle_53 rfl 1 (by decide) ?_
    refine j_isub (pc' := 55) C dX0_settle_54 rfl ?_
    refine j_istore_n (pc' := 56) C dX0_settle_55 rfl (by decide) rfl ?_
    have hb0 := loop (t.1 1).toNatClampNeg (set0 t) (Nat.le_refl _) (set0_same t) rfl
    rw [← en] at hb0
    rw [show (set0 t).1 1 - 1 = (t.1 1) + (-1) from Int32.sub_eq_add_neg _ _]
    exact hb0
    
    
    
  · skip
    refine j_return _ C dX0_settle_7 ?_
    exact ⟨rfl, by rw [settleF, if_neg h4]⟩
