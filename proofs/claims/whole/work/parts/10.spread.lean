/-! leastStep and spread -/
theorem settleF_1 (t : TS) {k : Nat} (h : k ≠ 12) : (settleF t).1 k = t.1 k := by
  unfold settleF; split
  · show upd _ 12 1 k = _
    rw [pk_un h, (setL_same _ _ _ _ (set0_same t)).1]
  · rfl
theorem settleF_k (t : TS) {k : Nat} (h1 : k ≠ 7) (h2 : k ≠ 10) (h3 : k ≠ 11) : (settleF t).2 k = t.2 k := by
  unfold settleF; split
  · exact (setL_same _ _ _ _ (set0_same t)).2 k h1 h2 h3
  · rfl
theorem settleF_ok {t : TS} (h : okT t) : okT (settleF t) := by
  unfold okT at h ⊢
  rw [settleF_1 t (by decide), settleF_k t (by decide) (by decide) (by decide), settleF_k t (by decide) (by decide) (by decide)]
  exact h
def lw0 (t : TS) (st : Int32) (n : Nat) : Nat → Int32 := fun j => if j < n then (if st ≤ nI j then 0 else -(t.1 0)) else t.2 11 j
theorem lw0_s (t : TS) (st : Int32) (i : Nat) : upd (lw0 t st i) i (if st ≤ nI i then 0 else -(t.1 0)) = lw0 t st (i + 1) := by
  funext j
  unfold upd lw0
  by_cases h : j = i
  · subst h; simp
  · by_cases h2 : j < i
    · rw [if_neg h, if_pos h2, if_pos (show j < i + 1 by omega)]
    · rw [if_neg h, if_neg h2, if_neg (show ¬ j < i + 1 by omega)]
theorem lw0_0 (t : TS) (st : Int32) : lw0 t st 0 = t.2 11 := by
  funext j; simp [lw0]
def leastW (t : TS) (st : Nat) : Nat → Int32 := climbF (settleF t) st 0 66 (lw0 (settleF t) (nI st) 65) 1
def leastF (t : TS) (st en : Nat) : Int32 × TS := (leastW t st en, ((settleF t).1, ua (settleF t).2 11 (leastW t st)))
def goalF (t : TS) (v : Nat) (r : (Nat → Int32) × (Nat → Int32)) : Int32 :=
  if r.2 (v + 1) < (if r.1 v + (t.1 0 - r.1 v) / nI (64 - v) < r.1 (v + 1) then r.1 (v + 1) else r.1 v + (t.1 0 - r.1 v) / nI (64 - v)) then r.2 (v + 1) else (if r.1 v + (t.1 0 - r.1 v) / nI (64 - v) < r.1 (v + 1) then r.1 (v + 1) else r.1 v + (t.1 0 - r.1 v) / nI (64 - v))
def sprG (t : TS) (v : Nat) (g : Nat → Int32) (goal : Int32) : Nat → Int32 := if (raiseAt g (v + 1) goal).2 = 0 then (raiseAt g (v + 1) goal).1 else climbF t (v + 1) goal 66 (raiseAt g (v + 1) goal).1 1
def sprH (t : TS) (v : Nat) (g : Nat → Int32) (goal : Int32) : Nat → Int32 := if (lowerAt g (v + 1) goal).2 = 0 then (lowerAt g (v + 1) goal).1 else sinkF t 66 (lowerAt g (v + 1) goal).1 1
def sprS (t : TS) (v : Nat) (r : (Nat → Int32) × (Nat → Int32)) : (Nat → Int32) × (Nat → Int32) := (sprG t v r.1 (goalF t v r), sprH t v r.2 (goalF t v r))
def sprL (t : TS) : Nat → (Nat → Int32) × (Nat → Int32) → (Nat → Int32) × (Nat → Int32)
  | 0, r => r
  | k + 1, r => sprL t k (sprS t (63 - k) r)
def spr0 (t : TS) : (Nat → Int32) × (Nat → Int32) := (cpyF (t.2 10) (t.2 9), sinkF t 66 (upd (fillF (t.1 0) 65 (t.2 11)) 0 0) 1)
def spreadF (t : TS) : TS := if t.1 13 = 0 then (upd (settleF t).1 13 1, ua (ua (settleF t).2 9 (sprL (settleF t) 64 (spr0 (settleF t))).1) 11 (sprL (settleF t) 64 (spr0 (settleF t))).2) else t
theorem ua_3 (f : Nat → Nat → Int32) (a b c : Nat → Int32) : ua (ua (ua f 9 a) 11 b) 9 c = ua (ua f 9 c) 11 b := by
  funext j; unfold ua; by_cases h : j = 9
  · subst h; rfl
  · by_cases h2 : j = 11
    · subst h2; rfl
    · rw [if_neg h, if_neg h2, if_neg h, if_neg h2, if_neg h]
set_option maxRecDepth 100000 in
set_option maxHeartbeats 4000000 in
theorem c_leastStep (l : Launch) (D : va_G) (cI cO : ClassId) (B : Nat → Nat) (t : TS) (hok : okT t) (st en : Nat) (hst : st ≤ 64) (hen : en ≤ 64) : Kt l yX0_leastStep wsX0_leastStep 4 (wT cI B) D cI cO (fun _ => True) [.ref (B 0), .int (nI st), .int (nI en)] t (fun r u => r = some (.int (leastF t st en).1) ∧ u = (leastF t st en).2) := by
  refine Kt_of (cc := cX0_leastStep) (n := 4) (ret := some .int) rfl (by decide +kernel) (Nat.le_of_ble_eq_true rfl) rfl [some (.ref (B 0)), some (.int (nI st)), some (.int (nI en)), none] rfl ?_
  intro p e s m args below meth c A C _ _
  have hinT : ∀ w ∈ wsX00, w ∈ wsX0_leastStep := by decide +kernel
  have hok1 := settleF_ok hok
  have h38 : ∀ x : Option Value, J p l e (rmH 4) s m args below meth c 0 0 (RQ below args s D (wT cI B) (fun r u => r = some (.int (leastF t st en).1) ∧ u = (leastF t st en).2) A) 4 D A 38 [some (.ref (B 0)), some (.int (nI st)), some (.int (nI en)), x] [] (wTW cI B (settleF t) 11 (lw0 (settleF t) (nI st) 65)) := by
    intro x
    refine j_ws (ws' := wT cI B ((settleF t).1, ua (settleF t).2 11 (lw0 (settleF t) (nI st) 65))) rfl ?_
    refine j_aload_n (pc' := 39) C dX0_leastStep_38 rfl rfl ?_
    refine j_aload_n (pc' := 40) C dX0_leastStep_39 rfl rfl ?_
    refine jTa (pc' := 43) C dX0_leastStep_40 rfl 11 (by decide) hinT (by decide +kernel) ?_
    refine j_iload_n (pc' := 44) C dX0_leastStep_43 rfl rfl ?_
    refine j_iconst (pc' := 45) C dX0_leastStep_44 rfl 0 (by decide) ?_
    refine jc_same (pc' := 48) C (c_climbG l D cI cO B _ (settleF t) (sameK_ua (sameK.rf _) (by decide) _) hok1 11 (by decide) (nI st) st rfl hst 0) 3 gX0_leastStep_X0_climb rfl (by decide +kernel) (by decide) rfl rfl (by decide) 0 0 rfl rfl (wT_obj cI B _) (fun _ => rfl) dX0_leastStep_45 rfl (fun v1 u1 hp1 => ?_)
    obtain ⟨e1, e2⟩ := hp1
    have e1 : u1 = ((settleF t).1, ua (settleF t).2 11 (leastW t st)) := by rw [e1]; show ((settleF t).1, ua (ua (settleF t).2 11 _) 11 _) = _; rw [ua_ua]; rfl
    subst e1
    subst e2
    show J p l e _ s m args below meth c 0 0 _ _ D A _ _ [_] _
    refine j_pop (pc' := 49) C dX0_leastStep_48 rfl rfl ?_
    refine j_aload_n (pc' := 50) C dX0_leastStep_49 rfl rfl ?_
    refine jTa (pc' := 53) C dX0_leastStep_50 rfl 11 (by decide) hinT (by decide +kernel) ?_
    refine j_iload_n (pc' := 54) C dX0_leastStep_53 rfl rfl ?_
    refine jTlN (pc' := 55) C dX0_leastStep_54 rfl 11 (by decide) en rfl (by unfold lenT; simp; omega) ?_
    refine j_ireturn _ C dX0_leastStep_55 ?_
    exact ⟨rfl, rfl⟩
    
  have loop : ∀ (k i : Nat), i + k = 65 → J p l e (rmH 4) s m args below meth c 0 0 (RQ below args s D (wT cI B) (fun r u => r = some (.int (leastF t st en).1) ∧ u = (leastF t st en).2) A) 4 D A 6 [some (.ref (B 0)), some (.int (nI st)), some (.int (nI en)), some (.int (nI i))] [] (wTW cI B (settleF t) 11 (lw0 (settleF t) (nI st) i)) := by
    intro k
    induction k with
    | zero =>
      intro i hi
      have hi2 : i = 65 := by omega
      subst hi2
      refine j_iload_n (pc' := 7) C dX0_leastStep_6 rfl rfl ?_
      refine j_bipush (pc' := 9) C dX0_leastStep_7 rfl 64 (by decide) ?_
      refine j_icmp_gt (tgt := 38) (pc' := 12) C dX0_leastStep_9 (by decide) rfl (fun h9 => ?_) (fun h9 => ?_)
      · skip
        exact h38 _
      · skip
        exact absurd (by decide) h9 -- done
    | succ k ih =>
      intro i hi
      have h31 : ∀ (x : Int32), x = (if nI st ≤ nI i then 0 else -((settleF t).1 0)) → J p l e (rmH 4) s m args below meth c 0 0 (RQ below args s D (wT cI B) (fun r u => r = some (.int (leastF t st en).1) ∧ u = (leastF t st en).2) A) 4 D A 31 [some (.ref (B 0)), some (.int (nI st)), some (.int (nI en)), some (.int (nI i))] [.int x, .int (nI i), .ref (B 11)] (wTW cI B (settleF t) 11 (lw0 (settleF t) (nI st) i)) := by
        intro x ex
        refine jWsN (pc' := 32) C dX0_leastStep_31 rfl (by decide) i rfl (by unfold lenT; simp; omega) ?_
        refine j_iinc (pc' := 35) C dX0_leastStep_32 rfl 1 (by decide) rfl (by decide) rfl ?_
        refine j_goto (pc' := 6) C dX0_leastStep_35 (by decide) ?_
        rw [ex, lw0_s, nI_1]
        exact ih (i + 1) (by omega)
      refine j_iload_n (pc' := 7) C dX0_leastStep_6 rfl rfl ?_
      refine j_bipush (pc' := 9) C dX0_leastStep_7 rfl 64 (by decide) ?_
      refine j_icmp_gt (tgt := 38) (pc' := 12) C dX0_leastStep_9 (by decide) rfl (fun h9 => ?_) (fun h9 => ?_)
      · skip
        exact absurd h9 (nI_nlt (a := 64) (by omega) (by decide)) -- done
      · skip
        refine j_aload_n (pc' := 13) C dX0_leastStep_12 rfl rfl ?_
        refine jWa (pc' := 16) C dX0_leastStep_13 rfl 11 (by decide) hinT (by decide +kernel) ?_
        refine j_iload_n (pc' := 17) C dX0_leastStep_16 rfl rfl ?_
        refine j_iload_n (pc' := 18) C dX0_leastStep_17 rfl rfl ?_
        refine j_iload_n (pc' := 19) C dX0_leastStep_18 rfl rfl ?_
        refine j_icmp_ge (tgt := 30) (pc' := 22) C dX0_leastStep_19 (by decide) rfl (fun h19 => ?_) (fun h19 => ?_)
        · skip
          refine j_iconst (pc' := 31) C dX0_leastStep_30 rfl 0 (by decide) ?_
          first | exact h31 _ (by rw [if_pos h19]) | exact h31 _ (by rw [if_neg h19])
        · skip
          refine j_aload_n (pc' := 23) C dX0_leastStep_22 rfl rfl ?_
          refine jWi (pc' := 26) C dX0_leastStep_23 rfl 0 (by unfold isIT; decide) hinT (by decide +kernel) ?_
          refine j_ineg (pc' := 27) C dX0_leastStep_26 rfl ?_
          refine j_goto (pc' := 31) C dX0_leastStep_27 (by decide) ?_
          first | exact h31 _ (by rw [if_pos h19]) | exact h31 _ (by rw [if_neg h19])
  refine j_aload_n (pc' := 1) C dX0_leastStep_0 rfl rfl ?_
  refine jc_same (pc' := 4) C (c_settle l D cI cO B (t) hok) 0 gX0_leastStep_X0_settle rfl (by decide +kernel) (by decide) rfl rfl (by decide) 0 0 rfl rfl (wT_obj cI B _) (fun _ => rfl) dX0_leastStep_1 rfl (fun v1 u1 hp1 => ?_)
  obtain ⟨rfl, rfl⟩ := hp1
  show J p l e _ s m args below meth c 0 0 _ _ D A _ _ [] _
  refine j_iconst (pc' := 5) C dX0_leastStep_4 rfl 0 (by decide) ?_
  refine j_istore_n (pc' := 6) C dX0_leastStep_5 rfl (by decide) rfl ?_
  have hb0 := loop 65 0 (by omega)
  unfold wTW at hb0
  rw [lw0_0, ua_self] at hb0
  exact hb0
  
set_option maxRecDepth 100000 in
set_option maxHeartbeats 4000000 in
theorem c_spread (l : Launch) (D : va_G) (cI cO : ClassId) (B : Nat → Nat) (t : TS) (hok : okT t) : Kt l yX0_spread wsX0_spread 4 (wT cI B) D cI cO (fun _ => True) [.ref (B 0)] t (fun r u => r = none ∧ u = spreadF t) := by
  refine Kt_of (cc := cX0_spread) (n := 7) (ret := none) rfl (by decide +kernel) (Nat.le_of_ble_eq_true rfl) rfl [some (.ref (B 0)), none, none, none, none, none, none] rfl ?_
  intro p e s m args below meth c A C _ _
  have hinT : ∀ w ∈ wsX00, w ∈ wsX0_spread := by decide +kernel
  have hok1 := settleF_ok hok
  have hsK : ∀ g h : Nat → Int32, sameK ((settleF t).1, ua (ua (settleF t).2 9 g) 11 h) (settleF t) := fun g h => sameK_ua (sameK_ua (sameK.rf _) (by decide) g) (by decide) h
  have loop : t.1 13 = 0 → ∀ (k : Nat) (g h : Nat → Int32) (x3 x4 x5 x6 : Option Value), k ≤ 64 → sprL (settleF t) k (g, h) = sprL (settleF t) 64 (spr0 (settleF t)) → J p l e (rmH 4) s m args below meth c 0 0 (RQ below args s D (wT cI B) (fun r u => r = none ∧ u = spreadF t) A) 7 D A 52 [some (.ref (B 0)), some (.ref (B 11)), some (.int (nI k)), x3, x4, x5, x6] [] (wT cI B ((settleF t).1, ua (ua (settleF t).2 9 g) 11 h)) := by
    intro h13 k
    induction k with
    | zero =>
      intro g h x3 x4 x5 x6 hk hr
      refine j_iload_n (pc' := 53) C dX0_spread_52 rfl rfl ?_
      refine j_if_le (tgt := 156) (pc' := 56) C dX0_spread_53 (by decide) rfl (fun h53 => ?_) (fun h53 => ?_)
      · skip
        refine j_aload_n (pc' := 157) C dX0_spread_156 rfl rfl ?_
        refine j_iconst (pc' := 158) C dX0_spread_157 rfl 1 (by decide) ?_
        refine jTpZ (pc' := 161) C dX0_spread_158 rfl 13 (by decide) hinT (by decide +kernel) (by decide) ?_
        refine j_return _ C dX0_spread_161 ?_
        refine ⟨rfl, ?_⟩
        have hg : g = (sprL (settleF t) 64 (spr0 (settleF t))).1 := by rw [← hr]; rfl
        have hh : h = (sprL (settleF t) 64 (spr0 (settleF t))).2 := by rw [← hr]; rfl
        rw [spreadF, if_pos h13, hg, hh]
      · skip
        exact absurd (by decide) h53 -- done
    | succ k ih =>
      intro g h x3 x4 x5 x6 hk hr
      have hv : (64 : Int32) - nI (k + 1) = nI (63 - k) := by
        have := pk_sub (a := 64) (b := k + 1) (by omega)
        rw [show 63 - k = 64 - (k + 1) by omega]
        exact this
      have hnx : (64 : Int32) - nI (k + 1) + 1 = nI (63 - k + 1) := by rw [hv, nI_1]
      have hdv : nI (k + 1) = nI (64 - (63 - k)) := by rw [show 64 - (63 - k) = k + 1 by omega]
      have h150 : ∀ (g1 h1 : Nat → Int32) (x3 x4 x5 x6 : Option Value), (g1, h1) = sprS (settleF t) (63 - k) (g, h) → J p l e (rmH 4) s m args below meth c 0 0 (RQ below args s D (wT cI B) (fun r u => r = none ∧ u = spreadF t) A) 7 D A 150 [some (.ref (B 0)), some (.ref (B 11)), some (.int (nI (k + 1))), x3, x4, x5, x6] [] (wT cI B ((settleF t).1, ua (ua (settleF t).2 9 g1) 11 h1)) := by
        intro g1 h1 x3 x4 x5 x6 e1
        refine j_iinc (pc' := 153) C dX0_spread_150 rfl (-1) (by decide) rfl (by decide) rfl ?_
        refine j_goto (pc' := 52) C dX0_spread_153 (by decide) ?_
        rw [pk_m1]
        exact ih g1 h1 _ _ _ _ (by omega) (by rw [e1]; exact hr)
      have h134 : ∀ (g1 : Nat → Int32) (goal nx : Int32) (x3 x5 : Option Value), goal = goalF (settleF t) (63 - k) (g, h) → nx = nI (63 - k + 1) → g1 = sprG (settleF t) (63 - k) g goal → J p l e (rmH 4) s m args below meth c 0 0 (RQ below args s D (wT cI B) (fun r u => r = none ∧ u = spreadF t) A) 7 D A 134 [some (.ref (B 0)), some (.ref (B 11)), some (.int (nI (k + 1))), x3, some (.int nx), x5, some (.int goal)] [] (wT cI B ((settleF t).1, ua (ua (settleF t).2 9 g1) 11 h)) := by
        intro g1 goal nx x3 x5 eg enx e1
        refine j_aload_n (pc' := 135) C dX0_spread_134 rfl rfl ?_
        refine j_iload (pc' := 137) C dX0_spread_135 rfl rfl ?_
        refine j_iload (pc' := 139) C dX0_spread_137 rfl rfl ?_
        refine jT_callA (pc' := 142) C 11 (by decide) (c_lowerN l D cI cO (B 11) (lenT 11) rfl h nx (63 - k + 1) enx (by omega) goal) 3 gX0_spread_X0_lower rfl (by decide +kernel) (by decide) rfl rfl (by decide) dX0_spread_139 rfl (fun v1 q1 hp1 => ?_)
        obtain ⟨rfl, rfl, h01⟩ := hp1
        show J p l e _ s m args below meth c 0 0 _ _ D A _ _ [_] _
        refine j_ws (ws' := wT cI B ((settleF t).1, ua (ua (settleF t).2 9 g1) 11 (lowerAt h (63 - k + 1) goal).1)) (by show wT cI B ((settleF t).1, ua (ua (ua (settleF t).2 9 g1) 11 h) 11 _) = _; rw [ua_ua]) ?_
        refine j_if_eq (tgt := 150) (pc' := 145) C dX0_spread_142 (by decide) rfl (fun h142 => ?_) (fun h142 => ?_)
        · skip
          exact h150 _ _ _ _ _ _ (by rw [sprS, ← eg, e1, sprH, if_pos h142])
        · skip
          refine j_aload_n (pc' := 146) C dX0_spread_145 rfl rfl ?_
          refine j_aload_n (pc' := 147) C dX0_spread_146 rfl rfl ?_
          refine jc_same (pc' := 150) C (c_sinkG l D cI cO B _ (settleF t) (hsK _ _) hok1 11 (by decide)) 1 gX0_spread_X0_sink rfl (by decide +kernel) (by decide) rfl rfl (by decide) 0 0 rfl rfl (wT_obj cI B _) (fun _ => rfl) dX0_spread_147 rfl (fun v1 u1 hp1 => ?_)
          obtain ⟨rfl, rfl⟩ := hp1
          show J p l e _ s m args below meth c 0 0 _ _ D A _ _ [] _
          refine j_ws (ws' := wT cI B ((settleF t).1, ua (ua (settleF t).2 9 g1) 11 (sinkF (settleF t) 66 (lowerAt h (63 - k + 1) goal).1 1))) (by show wT cI B ((settleF t).1, ua (ua (ua (settleF t).2 9 g1) 11 _) 11 _) = _; rw [ua_ua]; rfl) ?_
          exact h150 _ _ _ _ _ _ (by rw [sprS, ← eg, e1, sprH, if_neg h142])
        
      have h107 : ∀ (goal nx : Int32) (x3 x5 : Option Value), goal = goalF (settleF t) (63 - k) (g, h) → nx = nI (63 - k + 1) → J p l e (rmH 4) s m args below meth c 0 0 (RQ below args s D (wT cI B) (fun r u => r = none ∧ u = spreadF t) A) 7 D A 107 [some (.ref (B 0)), some (.ref (B 11)), some (.int (nI (k + 1))), x3, some (.int nx), x5, some (.int goal)] [] (wT cI B ((settleF t).1, ua (ua (settleF t).2 9 g) 11 h)) := by
        intro goal nx x3 x5 eg enx
        refine j_aload_n (pc' := 108) C dX0_spread_107 rfl rfl ?_
        refine jTa (pc' := 111) C dX0_spread_108 rfl 9 (by decide) hinT (by decide +kernel) ?_
        refine j_iload (pc' := 113) C dX0_spread_111 rfl rfl ?_
        refine j_iload (pc' := 115) C dX0_spread_113 rfl rfl ?_
        refine jT_callA (pc' := 118) C 9 (by decide) (c_raiseN l D cI cO (B 9) (lenT 9) rfl g nx (63 - k + 1) enx (by omega) goal) 3 gX0_spread_X0_raise rfl (by decide +kernel) (by decide) rfl rfl (by decide) dX0_spread_115 rfl (fun v1 q1 hp1 => ?_)
        obtain ⟨rfl, rfl, h01⟩ := hp1
        show J p l e _ s m args below meth c 0 0 _ _ D A _ _ [_] _
        refine j_ws (ws' := wT cI B ((settleF t).1, ua (ua (settleF t).2 9 (raiseAt g (63 - k + 1) goal).1) 11 h)) (by show wT cI B ((settleF t).1, ua (ua (ua (settleF t).2 9 g) 11 h) 9 _) = _; rw [ua_3]) ?_
        refine j_if_eq (tgt := 134) (pc' := 121) C dX0_spread_118 (by decide) rfl (fun h118 => ?_) (fun h118 => ?_)
        · skip
          exact h134 _ goal nx _ _ eg enx (by rw [sprG, if_pos h118])
        · skip
          refine j_aload_n (pc' := 122) C dX0_spread_121 rfl rfl ?_
          refine j_aload_n (pc' := 123) C dX0_spread_122 rfl rfl ?_
          refine jTa (pc' := 126) C dX0_spread_123 rfl 9 (by decide) hinT (by decide +kernel) ?_
          refine j_iload (pc' := 128) C dX0_spread_126 rfl rfl ?_
          refine j_iload (pc' := 130) C dX0_spread_128 rfl rfl ?_
          refine jc_same (pc' := 133) C (c_climbG l D cI cO B _ (settleF t) (hsK _ _) hok1 9 (by decide) nx (63 - k + 1) enx (by omega) goal) 3 gX0_spread_X0_climb rfl (by decide +kernel) (by decide) rfl rfl (by decide) 0 0 rfl rfl (wT_obj cI B _) (fun _ => rfl) dX0_spread_130 rfl (fun v1 u1 hp1 => ?_)
          obtain ⟨rfl, rfl⟩ := hp1
          show J p l e _ s m args below meth c 0 0 _ _ D A _ _ [_] _
          refine j_ws (ws' := wT cI B ((settleF t).1, ua (ua (settleF t).2 9 (climbF (settleF t) (63 - k + 1) goal 66 (raiseAt g (63 - k + 1) goal).1 1)) 11 h)) (by show wT cI B ((settleF t).1, ua (ua (ua (settleF t).2 9 _) 11 h) 9 _) = _; rw [ua_3]; rfl) ?_
          refine j_pop (pc' := 134) C dX0_spread_133 rfl rfl ?_
          exact h134 _ goal nx _ _ eg enx (by rw [sprG, if_neg h118])
          
        
      refine j_iload_n (pc' := 53) C dX0_spread_52 rfl rfl ?_
      refine j_if_le (tgt := 156) (pc' := 56) C dX0_spread_53 (by decide) rfl (fun h53 => ?_) (fun h53 => ?_)
      · skip
        exact absurd h53 (nI_nle (by omega) (by omega)) -- done
      · skip
        refine j_aload_n (pc' := 57) C dX0_spread_56 rfl rfl ?_
        refine jTa (pc' := 60) C dX0_spread_57 rfl 9 (by decide) hinT (by decide +kernel) ?_
        refine j_bipush (pc' := 62) C dX0_spread_60 rfl 64 (by decide) ?_
        refine j_iload_n (pc' := 63) C dX0_spread_62 rfl rfl ?_
        refine j_isub (pc' := 64) C dX0_spread_63 rfl ?_
        refine jTlN (pc' := 65) C dX0_spread_64 rfl 9 (by decide) (63 - k) hv (by unfold lenT; simp; omega) ?_
        refine j_istore_n (pc' := 66) C dX0_spread_65 rfl (by decide) rfl ?_
        refine j_bipush (pc' := 68) C dX0_spread_66 rfl 64 (by decide) ?_
        refine j_iload_n (pc' := 69) C dX0_spread_68 rfl rfl ?_
        refine j_isub (pc' := 70) C dX0_spread_69 rfl ?_
        refine j_iconst (pc' := 71) C dX0_spread_70 rfl 1 (by decide) ?_
        refine j_iadd (pc' := 72) C dX0_spread_71 rfl ?_
        refine j_istore (pc' := 74) C dX0_spread_72 rfl (by decide) rfl ?_
        refine j_iload_n (pc' := 75) C dX0_spread_74 rfl rfl ?_
        refine j_aload_n (pc' := 76) C dX0_spread_75 rfl rfl ?_
        refine jTi (pc' := 79) C dX0_spread_76 rfl 0 (by unfold isIT; decide) hinT (by decide +kernel) ?_
        refine j_iload_n (pc' := 80) C dX0_spread_79 rfl rfl ?_
        refine j_isub (pc' := 81) C dX0_spread_80 rfl ?_
        refine j_iload_n (pc' := 82) C dX0_spread_81 rfl rfl ?_
        refine j_idiv (pc' := 83) C dX0_spread_82 rfl (nI_ne0 (by omega) (by omega)) ?_
        refine j_iadd (pc' := 84) C dX0_spread_83 rfl ?_
        refine j_istore (pc' := 86) C dX0_spread_84 rfl (by decide) rfl ?_
        refine j_iload (pc' := 88) C dX0_spread_86 rfl rfl ?_
        refine j_aload_n (pc' := 89) C dX0_spread_88 rfl rfl ?_
        refine jTa (pc' := 92) C dX0_spread_89 rfl 9 (by decide) hinT (by decide +kernel) ?_
        refine j_iload (pc' := 94) C dX0_spread_92 rfl rfl ?_
        refine jTlN (pc' := 95) C dX0_spread_94 rfl 9 (by decide) (63 - k + 1) hnx (by unfold lenT; simp; omega) ?_
        refine j_max (pc' := 98) C dX0_spread_95 rfl (by decide +kernel) (by decide +kernel) (by decide +kernel) (by decide +kernel) (by decide) (by decide) ?_
        refine j_aload_n (pc' := 99) C dX0_spread_98 rfl rfl ?_
        refine j_iload (pc' := 101) C dX0_spread_99 rfl rfl ?_
        refine jTlN (pc' := 102) C dX0_spread_101 rfl 11 (by decide) (63 - k + 1) hnx (by unfold lenT; simp; omega) ?_
        refine j_min (pc' := 105) C dX0_spread_102 rfl (by decide +kernel) (by decide +kernel) (by decide +kernel) (by decide +kernel) (by decide) (by decide) ?_
        refine j_istore (pc' := 107) C dX0_spread_105 rfl (by decide) rfl ?_
        exact h107 _ _ _ _ (by rw [goalF, ← hdv]; rfl) hnx
  refine j_aload_n (pc' := 1) C dX0_spread_0 rfl rfl ?_
  refine jTi (pc' := 4) C dX0_spread_1 rfl 13 (by unfold isIT; decide) hinT (by decide +kernel) ?_
  refine j_if_eq (tgt := 8) (pc' := 7) C dX0_spread_4 (by decide) rfl (fun h4 => ?_) (fun h4 => ?_)
  · skip
    refine j_aload_n (pc' := 9) C dX0_spread_8 rfl rfl ?_
    refine jc_same (pc' := 12) C (c_settle l D cI cO B (t) hok) 0 gX0_spread_X0_settle rfl (by decide +kernel) (by decide) rfl rfl (by decide) 0 0 rfl rfl (wT_obj cI B _) (fun _ => rfl) dX0_spread_9 rfl (fun v1 u1 hp1 => ?_)
    obtain ⟨rfl, rfl⟩ := hp1
    show J p l e _ s m args below meth c 0 0 _ _ D A _ _ [] _
    refine j_aload_n (pc' := 13) C dX0_spread_12 rfl rfl ?_
    refine jTa (pc' := 16) C dX0_spread_13 rfl 10 (by decide) hinT (by decide +kernel) ?_
    refine j_iconst (pc' := 17) C dX0_spread_16 rfl 0 (by decide) ?_
    refine j_aload_n (pc' := 18) C dX0_spread_17 rfl rfl ?_
    refine jTa (pc' := 21) C dX0_spread_18 rfl 9 (by decide) hinT (by decide +kernel) ?_
    refine j_iconst (pc' := 22) C dX0_spread_21 rfl 0 (by decide) ?_
    refine j_bipush (pc' := 24) C dX0_spread_22 rfl 65 (by decide) ?_
    refine jT_copy (pc' := 27) C dX0_spread_24 rfl 10 9 (by decide) (by decide) (by decide +kernel) (by decide +kernel) (by decide +kernel) (by decide +kernel) (by decide) (by decide +kernel) ?_
    refine j_aload_n (pc' := 28) C dX0_spread_27 rfl rfl ?_
    refine jTa (pc' := 31) C dX0_spread_28 rfl 11 (by decide) hinT (by decide +kernel) ?_
    refine j_astore_n (pc' := 32) C dX0_spread_31 rfl (by decide) rfl ?_
    refine j_aload_n (pc' := 33) C dX0_spread_32 rfl rfl ?_
    refine j_aload_n (pc' := 34) C dX0_spread_33 rfl rfl ?_
    refine jTi (pc' := 37) C dX0_spread_34 rfl 0 (by unfold isIT; decide) hinT (by decide +kernel) ?_
    refine jT_callA (pc' := 40) C 11 (by decide) (c_fill l D cI cO (B 11) (lenT 11) (by decide) ((settleF t).2 11) ((settleF t).1 0)) 2 gX0_spread_J7_fill_53178 rfl (by decide +kernel) (by decide) rfl rfl (by decide) dX0_spread_37 rfl (fun v1 g1 hp1 => ?_)
    obtain ⟨rfl, rfl⟩ := hp1
    show J p l e _ s m args below meth c 0 0 _ _ D A _ _ [] _
    refine j_aload_n (pc' := 41) C dX0_spread_40 rfl rfl ?_
    refine j_iconst (pc' := 42) C dX0_spread_41 rfl 0 (by decide) ?_
    refine j_iconst (pc' := 43) C dX0_spread_42 rfl 0 (by decide) ?_
    refine jTsN (pc' := 44) C dX0_spread_43 rfl 11 (by decide) 0 rfl (by decide) ?_
    refine j_ws (ws' := wT cI B ((settleF t).1, ua (ua (settleF t).2 9 (cpyF ((settleF t).2 10) ((settleF t).2 9))) 11 (upd (fillF ((settleF t).1 0) 65 ((settleF t).2 11)) 0 0))) (by show wT cI B ((settleF t).1, ua (ua (ua (settleF t).2 9 _) 11 _) 11 _) = _; rw [ua_ua]; rfl) ?_
    refine j_aload_n (pc' := 45) C dX0_spread_44 rfl rfl ?_
    refine j_aload_n (pc' := 46) C dX0_spread_45 rfl rfl ?_
    refine jc_same (pc' := 49) C (c_sinkG l D cI cO B _ (settleF t) (hsK _ _) hok1 11 (by decide)) 1 gX0_spread_X0_sink rfl (by decide +kernel) (by decide) rfl rfl (by decide) 0 0 rfl rfl (wT_obj cI B _) (fun _ => rfl) dX0_spread_46 rfl (fun v1 u1 hp1 => ?_)
    obtain ⟨rfl, rfl⟩ := hp1
    show J p l e _ s m args below meth c 0 0 _ _ D A _ _ [] _
    refine j_ws (ws' := wT cI B ((settleF t).1, ua (ua (settleF t).2 9 (spr0 (settleF t)).1) 11 (spr0 (settleF t)).2)) (by show wT cI B ((settleF t).1, ua (ua (ua (settleF t).2 9 _) 11 _) 11 _) = _; rw [ua_ua]; rfl) ?_
    refine j_bipush (pc' := 51) C dX0_spread_49 rfl 64 (by decide) ?_
    refine j_istore_n (pc' := 52) C dX0_spread_51 rfl (by decide) rfl ?_
    exact loop h4 64 _ _ _ _ _ _ (by decide) rfl
    
    
    
    
    
  · skip
    refine j_return _ C dX0_spread_7 ?_
    exact ⟨rfl, by rw [spreadF, if_neg h4]⟩
