/-! the Model: guesses, joins, costs -/
def gsJ (f g : Nat → Int32) (lo v : Nat) : Nat → Nat → Int32 × Int32 → Int32 × Int32
  | 0, _, p => p
  | k + 1, j, p => gsJ f g lo v k (j + 1) (if p.1 < g (lo + j) - f (65 * (v + 1) + j) then g (lo + j) - f (65 * (v + 1) + j) else p.1, if g (lo + j) + f (65 * j + (v + 1)) < p.2 then g (lo + j) + f (65 * j + (v + 1)) else p.2)
def evenF (r x : Int32) (v : Nat) : Int32 := x + (r - x) / (64 - nI v)
def clampF (lo hi x : Int32) : Int32 := if lo < (if x < hi then x else hi) then (if x < hi then x else hi) else lo
def gsV (f g : Nat → Int32) (r : Int32) (lo v : Nat) : Int32 := clampF (gsJ f g lo v (v + 1) 0 (0, r)).1 (gsJ f g lo v (v + 1) 0 (0, r)).2 (evenF r (g (lo + v)) v)
def gsL (f : Nat → Int32) (r : Int32) (lo : Nat) : Nat → Nat → (Nat → Int32) → (Nat → Int32)
  | 0, _, g => g
  | k + 1, v, g => gsL f r lo k (v + 1) (upd g (lo + v + 1) (gsV f g r lo v))
def gs0 (t : TS) (i : Nat) : Nat → Int32 := gsL ((closF t i).2 9) ((closF t i).2 0 i) (65 * i) 64 0 (upd ((closF t i).2 11) (65 * i) 0)
def guessF (t : TS) (i : Nat) : TS := ((closF t i).1, ua (closF t i).2 11 (gs0 t i))
theorem guessF_k (t : TS) (i : Nat) {k : Nat} (h1 : k ≠ 7) (h2 : k ≠ 9) (h3 : k ≠ 11) : (guessF t i).2 k = t.2 k := by
  show ua (closF t i).2 11 _ k = _
  rw [ua_n _ _ h3]
  exact closF_same t i k h1 h2
theorem guessF_ok {t : TS} (h : okM t) (i : Nat) : okM (guessF t i) := by
  unfold okM at h ⊢
  rw [guessF_k t i (by decide) (by decide) (by decide), guessF_k t i (by decide) (by decide) (by decide), guessF_k t i (by decide) (by decide) (by decide)]
  exact h
def mGuess (t : TS) (tb a b : Int32) : Int32 × TS := if isInF tb 0 2 = 0 ∨ isSpanF a b = 0 then (-1, t) else ((guessF t tb.toNatClampNeg).2 11 (65 * tb.toNatClampNeg + b.toNatClampNeg) - (guessF t tb.toNatClampNeg).2 11 (65 * tb.toNatClampNeg + a.toNatClampNeg), guessF t tb.toNatClampNeg)
def joinS (t : TS) (i j lo : Nat) : Nat → Int64
  | 0 => 0
  | n + 1 => joinS t i j lo n + guessOfF t i (lo + n) * guessOfF t j (lo + n)
def mJoin (t : TS) (tb ub a b : Int32) : Int64 × TS := if isInF tb 0 2 = 0 ∨ isInF ub 0 2 = 0 ∨ isSpanF a b = 0 then (-1, t) else (joinS (guessF (guessF t tb.toNatClampNeg) ub.toNatClampNeg) tb.toNatClampNeg ub.toNatClampNeg a.toNatClampNeg (b.toNatClampNeg - a.toNatClampNeg), guessF (guessF t tb.toNatClampNeg) ub.toNatClampNeg)
def ordX (o : Nat) : Nat := o / 2
def ordY (o : Nat) : Nat := if o = 0 then 1 else if o = 1 then 2 else if o = 2 then 0 else if o = 3 then 2 else if o = 4 then 0 else 1
def ordZ (o : Nat) : Nat := 3 - ordX o - ordY o
def mTwo (t : TS) (o v : Nat) (by_ : Int32) : Int64 := mRowsOf t (ordX o) v by_ * mRowsOf t (ordY o) v by_
def costS (t : TS) (o : Nat) (by_ : Int32) : Nat → Int64
  | 0 => 0
  | v + 1 => costS t o by_ v + (mTwo t o v by_ + mTwo t o v by_ * mRowsOf t (ordZ o) v by_)
def mCostOf (t : TS) (o : Nat) (by_ : Int32) : Int64 := costS t o by_ 64
def allG (t : TS) : TS := guessF (guessF (guessF t 0) 1) 2
def mCost (t : TS) (od by_ : Int32) : Int64 × TS := if isInF od 0 5 = 0 then (-1, t) else (mCostOf (allG t) od.toNatClampNeg by_, allG t)
def planL (t : TS) (by_ : Int32) : Nat → Nat → Nat → Nat
  | 0, _, b => b
  | k + 1, o, b => planL t by_ k (o + 1) (if lg_cmp (mCostOf t o by_) (mCostOf t b by_) < 0 then o else b)
theorem planL_lt (t : TS) (by_ : Int32) : ∀ (k o b : Nat), o + k ≤ 6 → b < 6 → planL t by_ k o b < 6
  | 0, _, _, _, h => h
  | k + 1, o, b, hk, hb => by
    unfold planL
    refine planL_lt t by_ k (o + 1) _ (by omega) ?_
    split <;> omega
def planN (t : TS) (by_ : Int32) : Nat := planL (allG t) by_ 5 1 0
theorem allG_ok {t : TS} (h : okM t) : okM (allG t) := guessF_ok (guessF_ok (guessF_ok h 0) 1) 2
set_option maxRecDepth 100000 in
set_option maxHeartbeats 4000000 in
theorem c_guesses (l : Launch) (D : va_G) (cI cO : ClassId) (B : Nat → Nat) (t : TS) (hok : okM t) (tb : Int32) (i : Nat) (et : tb = nI i) (hi : i < 3) : Kt l yX2_guesses wsX2_guesses 3 (wM cI B) D cI cO (fun _ => True) [.ref (B 10), .int tb] t (fun r u => r = none ∧ u = guessF t i) := by
  refine Kt_of (cc := cX2_guesses) (n := 7) (ret := none) rfl (by decide +kernel) (Nat.le_of_ble_eq_true rfl) rfl [some (.ref (B 10)), some (.int tb), none, none, none, none, none] rfl ?_
  intro p e s m args below meth c A C _ _
  have hinM : ∀ w ∈ wsX20, w ∈ wsX2_guesses := by decide +kernel
  subst et
  have outer : ∀ (k v : Nat) (g : Nat → Int32) (x4 x5 x6 : Option Value), v + k = 64 → gsL ((closF t i).2 9) ((closF t i).2 0 i) (65 * i) k v g = gs0 t i → J p l e (rmH 3) s m args below meth c 0 0 (RQ below args s D (wM cI B) (fun r u => r = none ∧ u = guessF t i) A) 7 D A 19 [some (.ref (B 10)), some (.int (nI i)), some (.int (nI (65 * i))), some (.int (nI v)), x4, x5, x6] [] (wM cI B ((closF t i).1, ua (closF t i).2 11 (g))) := by
    intro k
    induction k with
    | zero =>
      intro v g x4 x5 x6 hv hr
      have hv2 : v = 64 := by omega
      subst hv2
      refine j_iload_n (pc' := 20) C dX2_guesses_19 rfl rfl ?_
      refine j_bipush (pc' := 22) C dX2_guesses_20 rfl 64 (by decide) ?_
      refine j_icmp_ge (tgt := 162) (pc' := 25) C dX2_guesses_22 (by decide) rfl (fun h22 => ?_) (fun h22 => ?_)
      · skip
        refine j_return _ C dX2_guesses_162 ?_
        exact ⟨rfl, by rw [guessF, ← hr]; rfl⟩
      · skip
        exact absurd (by decide) h22 -- done
    | succ k ih =>
      intro v g x4 x5 x6 hv hr
      have hdv : (64 : Int32) - nI v = nI (64 - v) := pk_sub (a := 64) (b := v) (by omega)
      have h103 : ∀ (lo hi2 : Int32) (x6 : Option Value), (lo, hi2) = gsJ ((closF t i).2 9) g (65 * i) v (v + 1) 0 (0, ((closF t i).2 0 i)) → J p l e (rmH 3) s m args below meth c 0 0 (RQ below args s D (wM cI B) (fun r u => r = none ∧ u = guessF t i) A) 7 D A 103 [some (.ref (B 10)), some (.int (nI i)), some (.int (nI (65 * i))), some (.int (nI v)), some (.int lo), some (.int hi2), x6] [] (wM cI B ((closF t i).1, ua (closF t i).2 11 (g))) := by
        intro lo hi2 x6 e1
        have hV : gsV ((closF t i).2 9) g ((closF t i).2 0 i) (65 * i) v = clampF lo hi2 (evenF ((closF t i).2 0 i) (g (65 * i + v)) v) := by rw [gsV, ← e1]
        refine j_aload_n (pc' := 104) C dX2_guesses_103 rfl rfl ?_
        refine jMa (pc' := 107) C dX2_guesses_104 rfl 11 (by decide) hinM (by decide +kernel) ?_
        refine j_iload_n (pc' := 108) C dX2_guesses_107 rfl rfl ?_
        refine j_iload_n (pc' := 109) C dX2_guesses_108 rfl rfl ?_
        refine j_iadd (pc' := 110) C dX2_guesses_109 rfl ?_
        refine jMlN (pc' := 111) C dX2_guesses_110 rfl 11 (by decide) (65 * i + v) (nI_add _ _) (by unfold lenM; simp; omega) ?_
        refine j_aload_n (pc' := 112) C dX2_guesses_111 rfl rfl ?_
        refine jMa (pc' := 115) C dX2_guesses_112 rfl 0 (by decide) hinM (by decide +kernel) ?_
        refine j_iload_n (pc' := 116) C dX2_guesses_115 rfl rfl ?_
        refine jMlN (pc' := 117) C dX2_guesses_116 rfl 0 (by decide) i rfl (by unfold lenM; simp; omega) ?_
        refine j_aload_n (pc' := 118) C dX2_guesses_117 rfl rfl ?_
        refine jMa (pc' := 121) C dX2_guesses_118 rfl 11 (by decide) hinM (by decide +kernel) ?_
        refine j_iload_n (pc' := 122) C dX2_guesses_121 rfl rfl ?_
        refine j_iload_n (pc' := 123) C dX2_guesses_122 rfl rfl ?_
        refine j_iadd (pc' := 124) C dX2_guesses_123 rfl ?_
        refine jMlN (pc' := 125) C dX2_guesses_124 rfl 11 (by decide) (65 * i + v) (nI_add _ _) (by unfold lenM; simp; omega) ?_
        refine j_isub (pc' := 126) C dX2_guesses_125 rfl ?_
        refine j_bipush (pc' := 128) C dX2_guesses_126 rfl 64 (by decide) ?_
        refine j_iload_n (pc' := 129) C dX2_guesses_128 rfl rfl ?_
        refine j_isub (pc' := 130) C dX2_guesses_129 rfl ?_
        refine j_idiv (pc' := 131) C dX2_guesses_130 rfl (by rw [hdv]; exact nI_ne0 (by omega) (by omega)) ?_
        refine j_iadd (pc' := 132) C dX2_guesses_131 rfl ?_
        refine j_istore (pc' := 134) C dX2_guesses_132 rfl (by decide) rfl ?_
        refine j_aload_n (pc' := 135) C dX2_guesses_134 rfl rfl ?_
        refine jMa (pc' := 138) C dX2_guesses_135 rfl 11 (by decide) hinM (by decide +kernel) ?_
        refine j_iload_n (pc' := 139) C dX2_guesses_138 rfl rfl ?_
        refine j_iload_n (pc' := 140) C dX2_guesses_139 rfl rfl ?_
        refine j_iadd (pc' := 141) C dX2_guesses_140 rfl ?_
        refine j_iconst (pc' := 142) C dX2_guesses_141 rfl 1 (by decide) ?_
        refine j_iadd (pc' := 143) C dX2_guesses_142 rfl ?_
        refine j_iload (pc' := 145) C dX2_guesses_143 rfl rfl ?_
        refine j_iload (pc' := 147) C dX2_guesses_145 rfl rfl ?_
        refine j_iload (pc' := 149) C dX2_guesses_147 rfl rfl ?_
        refine j_min (pc' := 152) C dX2_guesses_149 rfl (by decide +kernel) (by decide +kernel) (by decide +kernel) (by decide +kernel) (by decide) (Nat.le_of_ble_eq_true rfl) ?_
        refine j_max (pc' := 155) C dX2_guesses_152 rfl (by decide +kernel) (by decide +kernel) (by decide +kernel) (by decide +kernel) (by decide) (Nat.le_of_ble_eq_true rfl) ?_
        refine jMsN (pc' := 156) C dX2_guesses_155 rfl 11 (by decide) (65 * i + v + 1) (by rw [nI_add, nI_1]) (by unfold lenM; simp; omega) ?_
        refine j_iinc (pc' := 159) C dX2_guesses_156 rfl 1 (by decide) rfl (by decide) rfl ?_
        refine j_goto (pc' := 19) C dX2_guesses_159 (by decide) ?_
        rw [nI_1]
        refine j_ws (ws' := wM cI B ((closF t i).1, ua (closF t i).2 11 (upd g (65 * i + v + 1) (gsV ((closF t i).2 9) g ((closF t i).2 0 i) (65 * i) v)))) (by rw [hV]; show wM cI B ((closF t i).1, ua (ua (closF t i).2 11 g) 11 _) = _; rw [ua_ua]; rfl) ?_
        exact ih (v + 1) _ _ _ _ (by omega) hr
      have inner : ∀ (q j : Nat) (lo hi2 : Int32), j + q = v + 1 → gsJ ((closF t i).2 9) g (65 * i) v q j (lo, hi2) = gsJ ((closF t i).2 9) g (65 * i) v (v + 1) 0 (0, ((closF t i).2 0 i)) → J p l e (rmH 3) s m args below meth c 0 0 (RQ below args s D (wM cI B) (fun r u => r = none ∧ u = guessF t i) A) 7 D A 39 [some (.ref (B 10)), some (.int (nI i)), some (.int (nI (65 * i))), some (.int (nI v)), some (.int lo), some (.int hi2), some (.int (nI j))] [] (wM cI B ((closF t i).1, ua (closF t i).2 11 (g))) := by
        intro q
        induction q with
        | zero =>
          intro j lo hi2 hj hq
          have hj2 : j = v + 1 := by omega
          subst hj2
          refine j_iload (pc' := 41) C dX2_guesses_39 rfl rfl ?_
          refine j_iload_n (pc' := 42) C dX2_guesses_41 rfl rfl ?_
          refine j_icmp_gt (tgt := 103) (pc' := 45) C dX2_guesses_42 (by decide) rfl (fun h42 => ?_) (fun h42 => ?_)
          · skip
            exact h103 _ _ _ hq
          · skip
            exact absurd (nI_lt (by omega) (by omega)) h42 -- done
        | succ q jh =>
          intro j lo hi2 hj hq
          refine j_iload (pc' := 41) C dX2_guesses_39 rfl rfl ?_
          refine j_iload_n (pc' := 42) C dX2_guesses_41 rfl rfl ?_
          refine j_icmp_gt (tgt := 103) (pc' := 45) C dX2_guesses_42 (by decide) rfl (fun h42 => ?_) (fun h42 => ?_)
          · skip
            exact absurd h42 (nI_nlt (by omega) (by omega)) -- done
          · skip
            refine j_iload (pc' := 47) C dX2_guesses_45 rfl rfl ?_
            refine j_aload_n (pc' := 48) C dX2_guesses_47 rfl rfl ?_
            refine jMa (pc' := 51) C dX2_guesses_48 rfl 11 (by decide) hinM (by decide +kernel) ?_
            refine j_iload_n (pc' := 52) C dX2_guesses_51 rfl rfl ?_
            refine j_iload (pc' := 54) C dX2_guesses_52 rfl rfl ?_
            refine j_iadd (pc' := 55) C dX2_guesses_54 rfl ?_
            refine jMlN (pc' := 56) C dX2_guesses_55 rfl 11 (by decide) (65 * i + j) (nI_add _ _) (by unfold lenM; simp; omega) ?_
            refine j_aload_n (pc' := 57) C dX2_guesses_56 rfl rfl ?_
            refine j_iload_n (pc' := 58) C dX2_guesses_57 rfl rfl ?_
            refine j_iconst (pc' := 59) C dX2_guesses_58 rfl 1 (by decide) ?_
            refine j_iadd (pc' := 60) C dX2_guesses_59 rfl ?_
            refine j_iload (pc' := 62) C dX2_guesses_60 rfl rfl ?_
            refine jc_same (pc' := 65) C (c_most l D cI cO B (((closF t i).1, ua (closF t i).2 11 g)) (nI v + 1) (nI j) (v + 1) (j) (nI_1 v) rfl (by omega) (by omega)) 2 gX2_guesses_X2_most rfl (by decide +kernel) (by decide) rfl rfl (Nat.le_of_ble_eq_true rfl) 2 10 rfl rfl (wM_obj cI B _) (wM_addr cI B _) dX2_guesses_62 rfl (fun v1 u1 hp1 => ?_)
            obtain ⟨rfl, hu1⟩ := hp1
            rw [hu1]
            clear hu1 u1
            show J p l e _ s m args below meth c 0 0 _ _ D A _ _ [_, _, _] _
            refine j_isub (pc' := 66) C dX2_guesses_65 rfl ?_
            refine j_max (pc' := 69) C dX2_guesses_66 rfl (by decide +kernel) (by decide +kernel) (by decide +kernel) (by decide +kernel) (by decide) (Nat.le_of_ble_eq_true rfl) ?_
            refine j_istore (pc' := 71) C dX2_guesses_69 rfl (by decide) rfl ?_
            refine j_iload (pc' := 73) C dX2_guesses_71 rfl rfl ?_
            refine j_aload_n (pc' := 74) C dX2_guesses_73 rfl rfl ?_
            refine jMa (pc' := 77) C dX2_guesses_74 rfl 11 (by decide) hinM (by decide +kernel) ?_
            refine j_iload_n (pc' := 78) C dX2_guesses_77 rfl rfl ?_
            refine j_iload (pc' := 80) C dX2_guesses_78 rfl rfl ?_
            refine j_iadd (pc' := 81) C dX2_guesses_80 rfl ?_
            refine jMlN (pc' := 82) C dX2_guesses_81 rfl 11 (by decide) (65 * i + j) (nI_add _ _) (by unfold lenM; simp; omega) ?_
            refine j_aload_n (pc' := 83) C dX2_guesses_82 rfl rfl ?_
            refine j_iload (pc' := 85) C dX2_guesses_83 rfl rfl ?_
            refine j_iload_n (pc' := 86) C dX2_guesses_85 rfl rfl ?_
            refine j_iconst (pc' := 87) C dX2_guesses_86 rfl 1 (by decide) ?_
            refine j_iadd (pc' := 88) C dX2_guesses_87 rfl ?_
            refine jc_same (pc' := 91) C (c_most l D cI cO B (((closF t i).1, ua (closF t i).2 11 g)) (nI j) (nI v + 1) (j) (v + 1) rfl (nI_1 v) (by omega) (by omega)) 2 gX2_guesses_X2_most rfl (by decide +kernel) (by decide) rfl rfl (Nat.le_of_ble_eq_true rfl) 2 10 rfl rfl (wM_obj cI B _) (wM_addr cI B _) dX2_guesses_88 rfl (fun v1 u1 hp1 => ?_)
            obtain ⟨rfl, hu1⟩ := hp1
            rw [hu1]
            clear hu1 u1
            show J p l e _ s m args below meth c 0 0 _ _ D A _ _ [_, _, _] _
            refine j_iadd (pc' := 92) C dX2_guesses_91 rfl ?_
            refine j_min (pc' := 95) C dX2_guesses_92 rfl (by decide +kernel) (by decide +kernel) (by decide +kernel) (by decide +kernel) (by decide) (Nat.le_of_ble_eq_true rfl) ?_
            refine j_istore (pc' := 97) C dX2_guesses_95 rfl (by decide) rfl ?_
            refine j_iinc (pc' := 100) C dX2_guesses_97 rfl 1 (by decide) rfl (by decide) rfl ?_
            refine j_goto (pc' := 39) C dX2_guesses_100 (by decide) ?_
            rw [nI_1]
            exact jh (j + 1) _ _ (by omega) (by rw [← hq]; rfl)
            
            
      refine j_iload_n (pc' := 20) C dX2_guesses_19 rfl rfl ?_
      refine j_bipush (pc' := 22) C dX2_guesses_20 rfl 64 (by decide) ?_
      refine j_icmp_ge (tgt := 162) (pc' := 25) C dX2_guesses_22 (by decide) rfl (fun h22 => ?_) (fun h22 => ?_)
      · skip
        exact absurd h22 (nI_ge (b := 64) (by omega) (by decide)) -- done
      · skip
        refine j_iconst (pc' := 26) C dX2_guesses_25 rfl 0 (by decide) ?_
        refine j_istore (pc' := 28) C dX2_guesses_26 rfl (by decide) rfl ?_
        refine j_aload_n (pc' := 29) C dX2_guesses_28 rfl rfl ?_
        refine jMa (pc' := 32) C dX2_guesses_29 rfl 0 (by decide) hinM (by decide +kernel) ?_
        refine j_iload_n (pc' := 33) C dX2_guesses_32 rfl rfl ?_
        refine jMlN (pc' := 34) C dX2_guesses_33 rfl 0 (by decide) i rfl (by unfold lenM; simp; omega) ?_
        refine j_istore (pc' := 36) C dX2_guesses_34 rfl (by decide) rfl ?_
        refine j_iconst (pc' := 37) C dX2_guesses_36 rfl 0 (by decide) ?_
        refine j_istore (pc' := 39) C dX2_guesses_37 rfl (by decide) rfl ?_
        exact inner (v + 1) 0 0 _ (by omega) rfl
  refine j_aload_n (pc' := 1) C dX2_guesses_0 rfl rfl ?_
  refine j_iload_n (pc' := 2) C dX2_guesses_1 rfl rfl ?_
  refine jc_same (pc' := 5) C (c_closes l D cI cO B t hok (nI i) i rfl hi) 1 gX2_guesses_X2_closes rfl (by decide +kernel) (by decide) rfl rfl (by decide) 2 10 rfl rfl (wM_obj cI B _) (wM_addr cI B _) dX2_guesses_2 rfl (fun v1 u1 hp1 => ?_)
  obtain ⟨rfl, rfl⟩ := hp1
  show J p l e _ s m args below meth c 0 0 _ _ D A _ _ [] _
  have hokc : okM (closF t i) := (closF_same t i).ok hok
  refine j_bipush (pc' := 7) C dX2_guesses_5 rfl 65 (by decide) ?_
  refine j_iload_n (pc' := 8) C dX2_guesses_7 rfl rfl ?_
  refine j_imul (pc' := 9) C dX2_guesses_8 rfl ?_
  refine j_istore_n (pc' := 10) C dX2_guesses_9 rfl (by decide) rfl ?_
  rw [show (65 : Int32) * nI i = nI (65 * i) from pk_mul 65 i]
  refine j_aload_n (pc' := 11) C dX2_guesses_10 rfl rfl ?_
  refine jMa (pc' := 14) C dX2_guesses_11 rfl 11 (by decide) hinM (by decide +kernel) ?_
  refine j_iload_n (pc' := 15) C dX2_guesses_14 rfl rfl ?_
  refine j_iconst (pc' := 16) C dX2_guesses_15 rfl 0 (by decide) ?_
  refine jMsN (pc' := 17) C dX2_guesses_16 rfl 11 (by decide) (65 * i) rfl (by unfold lenM; simp; omega) ?_
  refine j_iconst (pc' := 18) C dX2_guesses_17 rfl 0 (by decide) ?_
  refine j_istore_n (pc' := 19) C dX2_guesses_18 rfl (by decide) rfl ?_
  exact outer 64 0 _ _ _ _ (by omega) rfl
  
  
set_option maxRecDepth 100000 in
set_option maxHeartbeats 4000000 in
theorem c_Mguess (l : Launch) (D : va_G) (cI cO : ClassId) (B : Nat → Nat) (t : TS) (hok : okM t) (tb a b : Int32) : Kt l yX2_guess wsX2_guess 4 (wM cI B) D cI cO (fun _ => True) [.ref (B 10), .int tb, .int a, .int b] t (fun r u => r = some (.int (mGuess t tb a b).1) ∧ u = (mGuess t tb a b).2) := by
  refine Kt_of (cc := cX2_guess) (n := 4) (ret := some .int) rfl (by decide +kernel) (Nat.le_of_ble_eq_true rfl) rfl [some (.ref (B 10)), some (.int tb), some (.int a), some (.int b)] rfl ?_
  intro p e s m args below meth c A C _ _
  have hinM : ∀ w ∈ wsX20, w ∈ wsX2_guess := by decide +kernel
  refine j_iload_n (pc' := 1) C dX2_guess_0 rfl rfl ?_
  refine jc_nil (pc' := 4) C (c_isTable l D cI cO _) 1 gX2_guess_X2_isTable rfl (by decide +kernel) (by decide) rfl rfl (Nat.le_of_ble_eq_true rfl) dX2_guess_1 rfl (fun v1 hp1 => ?_)
  subst hp1
  show J p l e _ s m args below meth c 0 0 _ _ D A _ _ [_] _
  refine j_if_eq (tgt := 15) (pc' := 7) C dX2_guess_4 (by decide) rfl (fun h4 => ?_) (fun h4 => ?_)
  · skip
    have hF : mGuess t tb a b = (-1, t) := by rw [mGuess, if_pos (Or.inl h4)]
    refine j_iconst (pc' := 16) C dX2_guess_15 rfl (-1) (by decide) ?_
    refine j_ireturn _ C dX2_guess_16 ?_
    exact ⟨by rw [hF] <;> rfl, by rw [hF] <;> rfl⟩
  · skip
    obtain ⟨i, hi, rfl⟩ := isTb h4
    refine j_iload_n (pc' := 8) C dX2_guess_7 rfl rfl ?_
    refine j_iload_n (pc' := 9) C dX2_guess_8 rfl rfl ?_
    refine jc_nil (pc' := 12) C (c_isSpanM l D cI cO _ _) 2 gX2_guess_X2_isSpan rfl (by decide +kernel) (by decide) rfl rfl (Nat.le_of_ble_eq_true rfl) dX2_guess_9 rfl (fun v1 hp1 => ?_)
    subst hp1
    show J p l e _ s m args below meth c 0 0 _ _ D A _ _ [_] _
    refine j_if_ne (tgt := 17) (pc' := 15) C dX2_guess_12 (by decide) rfl (fun h12 => ?_) (fun h12 => ?_)
    · skip
      have hF0 : mGuess t (nI i) a b = ((guessF t i).2 11 (65 * i + b.toNatClampNeg) - (guessF t i).2 11 (65 * i + a.toNatClampNeg), guessF t i) := by rw [mGuess, nI_clamp (show i < 2 ^ 31 by omega), if_neg (fun q => q.elim h4 h12)]
      obtain ⟨x, y, hxy, hy, rfl, rfl⟩ := isSpanF_1 h12
      rw [nI_clamp (show x < 2 ^ 31 by omega), nI_clamp (show y < 2 ^ 31 by omega)] at hF0
      refine j_aload_n (pc' := 18) C dX2_guess_17 rfl rfl ?_
      refine j_iload_n (pc' := 19) C dX2_guess_18 rfl rfl ?_
      refine jc_same (pc' := 22) C (c_guesses l D cI cO B (t) hok (nI i) i rfl hi) 1 gX2_guess_X2_guesses rfl (by decide +kernel) (by decide) rfl rfl (by decide) 2 10 rfl rfl (wM_obj cI B _) (wM_addr cI B _) dX2_guess_19 rfl (fun v1 u1 hp1 => ?_)
      obtain ⟨rfl, rfl⟩ := hp1
      show J p l e _ s m args below meth c 0 0 _ _ D A _ _ [] _
      refine j_aload_n (pc' := 23) C dX2_guess_22 rfl rfl ?_
      refine jMa (pc' := 26) C dX2_guess_23 rfl 11 (by decide) hinM (by decide +kernel) ?_
      refine j_bipush (pc' := 28) C dX2_guess_26 rfl 65 (by decide) ?_
      refine j_iload_n (pc' := 29) C dX2_guess_28 rfl rfl ?_
      refine j_imul (pc' := 30) C dX2_guess_29 rfl ?_
      refine j_iload_n (pc' := 31) C dX2_guess_30 rfl rfl ?_
      refine j_iadd (pc' := 32) C dX2_guess_31 rfl ?_
      refine jMlN (pc' := 33) C dX2_guess_32 rfl 11 (by decide) (65 * i + y) (e65 i y) (by unfold lenM; simp; omega) ?_
      refine j_aload_n (pc' := 34) C dX2_guess_33 rfl rfl ?_
      refine jMa (pc' := 37) C dX2_guess_34 rfl 11 (by decide) hinM (by decide +kernel) ?_
      refine j_bipush (pc' := 39) C dX2_guess_37 rfl 65 (by decide) ?_
      refine j_iload_n (pc' := 40) C dX2_guess_39 rfl rfl ?_
      refine j_imul (pc' := 41) C dX2_guess_40 rfl ?_
      refine j_iload_n (pc' := 42) C dX2_guess_41 rfl rfl ?_
      refine j_iadd (pc' := 43) C dX2_guess_42 rfl ?_
      refine jMlN (pc' := 44) C dX2_guess_43 rfl 11 (by decide) (65 * i + x) (e65 i x) (by unfold lenM; simp; omega) ?_
      refine j_isub (pc' := 45) C dX2_guess_44 rfl ?_
      refine j_ireturn _ C dX2_guess_45 ?_
      exact ⟨by rw [hF0] <;> rfl, by rw [hF0] <;> rfl⟩
      
    · skip
      have hF : mGuess t (nI i) a b = (-1, t) := by rw [mGuess, if_pos (Or.inr h12)]
      refine j_iconst (pc' := 16) C dX2_guess_15 rfl (-1) (by decide) ?_
      refine j_ireturn _ C dX2_guess_16 ?_
      exact ⟨by rw [hF] <;> rfl, by rw [hF] <;> rfl⟩
    
  
set_option maxRecDepth 100000 in
set_option maxHeartbeats 4000000 in
theorem c_Mjoin (l : Launch) (D : va_G) (cI cO : ClassId) (B : Nat → Nat) (t : TS) (hok : okM t) (tb ub a b : Int32) : Kt l yX2_join wsX2_join 4 (wM cI B) D cI cO (fun _ => True) [.ref (B 10), .int tb, .int ub, .int a, .int b] t (fun r u => r = some (.long (mJoin t tb ub a b).1) ∧ u = (mJoin t tb ub a b).2) := by
  refine Kt_of (cc := cX2_join) (n := 8) (ret := some .long) rfl (by decide +kernel) (Nat.le_of_ble_eq_true rfl) rfl [some (.ref (B 10)), some (.int tb), some (.int ub), some (.int a), some (.int b), none, none, none] rfl ?_
  intro p e s m args below meth c A C _ _
  have hinM : ∀ w ∈ wsX20, w ∈ wsX2_join := by decide +kernel
  refine j_iload_n (pc' := 1) C dX2_join_0 rfl rfl ?_
  refine jc_nil (pc' := 4) C (c_isTable l D cI cO _) 1 gX2_join_X2_isTable rfl (by decide +kernel) (by decide) rfl rfl (Nat.le_of_ble_eq_true rfl) dX2_join_1 rfl (fun v1 hp1 => ?_)
  subst hp1
  show J p l e _ s m args below meth c 0 0 _ _ D A _ _ [_] _
  refine j_if_eq (tgt := 23) (pc' := 7) C dX2_join_4 (by decide) rfl (fun h4 => ?_) (fun h4 => ?_)
  · skip
    have hF : mJoin t tb ub a b = (-1, t) := by rw [mJoin, if_pos (Or.inl h4)]
    refine j_ldc2 (pc' := 26) C dX2_join_23 rfl (-1) (by decide +kernel) ?_
    refine j_lreturn _ C dX2_join_26 ?_
    exact ⟨by rw [hF] <;> rfl, by rw [hF] <;> rfl⟩
  · skip
    refine j_iload_n (pc' := 8) C dX2_join_7 rfl rfl ?_
    refine jc_nil (pc' := 11) C (c_isTable l D cI cO _) 1 gX2_join_X2_isTable rfl (by decide +kernel) (by decide) rfl rfl (Nat.le_of_ble_eq_true rfl) dX2_join_8 rfl (fun v1 hp1 => ?_)
    subst hp1
    show J p l e _ s m args below meth c 0 0 _ _ D A _ _ [_] _
    refine j_if_eq (tgt := 23) (pc' := 14) C dX2_join_11 (by decide) rfl (fun h11 => ?_) (fun h11 => ?_)
    · skip
      have hF : mJoin t tb ub a b = (-1, t) := by rw [mJoin, if_pos (Or.inr (Or.inl h11))]
      refine j_ldc2 (pc' := 26) C dX2_join_23 rfl (-1) (by decide +kernel) ?_
      refine j_lreturn _ C dX2_join_26 ?_
      exact ⟨by rw [hF] <;> rfl, by rw [hF] <;> rfl⟩
    · skip
      refine j_iload_n (pc' := 15) C dX2_join_14 rfl rfl ?_
      refine j_iload (pc' := 17) C dX2_join_15 rfl rfl ?_
      refine jc_nil (pc' := 20) C (c_isSpanM l D cI cO _ _) 2 gX2_join_X2_isSpan rfl (by decide +kernel) (by decide) rfl rfl (Nat.le_of_ble_eq_true rfl) dX2_join_17 rfl (fun v1 hp1 => ?_)
      subst hp1
      show J p l e _ s m args below meth c 0 0 _ _ D A _ _ [_] _
      refine j_if_ne (tgt := 27) (pc' := 23) C dX2_join_20 (by decide) rfl (fun h20 => ?_) (fun h20 => ?_)
      · skip
        have hF0 : mJoin t tb ub a b = (joinS (guessF (guessF t tb.toNatClampNeg) ub.toNatClampNeg) tb.toNatClampNeg ub.toNatClampNeg a.toNatClampNeg (b.toNatClampNeg - a.toNatClampNeg), guessF (guessF t tb.toNatClampNeg) ub.toNatClampNeg) := by rw [mJoin, if_neg (fun q => q.elim h4 (fun q => q.elim h11 h20))]
        obtain ⟨i, hi, rfl⟩ := isTb h4
        obtain ⟨j, hj, rfl⟩ := isTb h11
        obtain ⟨x, y, hxy, hy, rfl, rfl⟩ := isSpanF_1 h20
        rw [nI_clamp (show i < 2 ^ 31 by omega), nI_clamp (show j < 2 ^ 31 by omega), nI_clamp (show x < 2 ^ 31 by omega), nI_clamp (show y < 2 ^ 31 by omega)] at hF0
        have loop : ∀ (k q : Nat), q + k = y - x → J p l e (rmH 4) s m args below meth c 0 0 (RQ below args s D (wM cI B) (fun r u => r = some (.long (mJoin t (nI i) (nI j) (nI x) (nI y)).1) ∧ u = (mJoin t (nI i) (nI j) (nI x) (nI y)).2) A) 8 D A 43 [some (.ref (B 10)), some (.int (nI i)), some (.int (nI j)), some (.int (nI x)), some (.int (nI y)), some (.long (joinS (guessF (guessF t i) j) i j x q)), none, some (.int (nI (x + q)))] [] (wM cI B (guessF (guessF t i) j)) := by
          intro k
          induction k with
          | zero =>
            intro q hq
            have hq2 : q = y - x := by omega
            subst hq2
            refine j_iload (pc' := 45) C dX2_join_43 rfl rfl ?_
            refine j_iload (pc' := 47) C dX2_join_45 rfl rfl ?_
            refine j_icmp_ge (tgt := 76) (pc' := 50) C dX2_join_47 (by decide) rfl (fun h47 => ?_) (fun h47 => ?_)
            · skip
              refine j_lload (pc' := 78) C dX2_join_76 rfl rfl ?_
              refine j_lreturn _ C dX2_join_78 ?_
              exact ⟨by rw [hF0] <;> rfl, by rw [hF0] <;> rfl⟩
            · skip
              exact absurd (nI_le (by omega) (by omega)) h47 -- done
          | succ k ih =>
            intro q hq
            refine j_iload (pc' := 45) C dX2_join_43 rfl rfl ?_
            refine j_iload (pc' := 47) C dX2_join_45 rfl rfl ?_
            refine j_icmp_ge (tgt := 76) (pc' := 50) C dX2_join_47 (by decide) rfl (fun h47 => ?_) (fun h47 => ?_)
            · skip
              exact absurd h47 (nI_ge (by omega) (by omega)) -- done
            · skip
              refine j_lload (pc' := 52) C dX2_join_50 rfl rfl ?_
              refine j_aload_n (pc' := 53) C dX2_join_52 rfl rfl ?_
              refine j_iload_n (pc' := 54) C dX2_join_53 rfl rfl ?_
              refine j_iload (pc' := 56) C dX2_join_54 rfl rfl ?_
              refine jc_same (pc' := 59) C (c_guessOf l D cI cO B ((guessF (guessF t i) j)) (nI i) (nI (x + q)) i (x + q) rfl rfl hi (by omega)) 2 gX2_join_X2_guessOf rfl (by decide +kernel) (by decide) rfl rfl (Nat.le_of_ble_eq_true rfl) 2 10 rfl rfl (wM_obj cI B _) (wM_addr cI B _) dX2_join_56 rfl (fun v1 u1 hp1 => ?_)
              obtain ⟨rfl, hu1⟩ := hp1
              rw [hu1]
              clear hu1 u1
              show J p l e _ s m args below meth c 0 0 _ _ D A _ _ [_, _] _
              refine j_aload_n (pc' := 60) C dX2_join_59 rfl rfl ?_
              refine j_iload_n (pc' := 61) C dX2_join_60 rfl rfl ?_
              refine j_iload (pc' := 63) C dX2_join_61 rfl rfl ?_
              refine jc_same (pc' := 66) C (c_guessOf l D cI cO B ((guessF (guessF t i) j)) (nI j) (nI (x + q)) j (x + q) rfl rfl hj (by omega)) 2 gX2_join_X2_guessOf rfl (by decide +kernel) (by decide) rfl rfl (Nat.le_of_ble_eq_true rfl) 2 10 rfl rfl (wM_obj cI B _) (wM_addr cI B _) dX2_join_63 rfl (fun v1 u1 hp1 => ?_)
              obtain ⟨rfl, hu1⟩ := hp1
              rw [hu1]
              clear hu1 u1
              show J p l e _ s m args below meth c 0 0 _ _ D A _ _ [_, _, _] _
              refine j_lmul (pc' := 67) C dX2_join_66 rfl ?_
              refine j_ladd (pc' := 68) C dX2_join_67 rfl ?_
              refine j_lstore (pc' := 70) C dX2_join_68 rfl (by decide) rfl ?_
              refine j_iinc (pc' := 73) C dX2_join_70 rfl 1 (by decide) rfl (by decide) rfl ?_
              refine j_goto (pc' := 43) C dX2_join_73 (by decide) ?_
              rw [nI_1]
              exact ih (q + 1) (by omega)
              
              
        
        refine j_aload_n (pc' := 28) C dX2_join_27 rfl rfl ?_
        refine j_iload_n (pc' := 29) C dX2_join_28 rfl rfl ?_
        refine jc_same (pc' := 32) C (c_guesses l D cI cO B (t) hok (nI i) i rfl hi) 1 gX2_join_X2_guesses rfl (by decide +kernel) (by decide) rfl rfl (by decide) 2 10 rfl rfl (wM_obj cI B _) (wM_addr cI B _) dX2_join_29 rfl (fun v1 u1 hp1 => ?_)
        obtain ⟨rfl, rfl⟩ := hp1
        show J p l e _ s m args below meth c 0 0 _ _ D A _ _ [] _
        refine j_aload_n (pc' := 33) C dX2_join_32 rfl rfl ?_
        refine j_iload_n (pc' := 34) C dX2_join_33 rfl rfl ?_
        refine jc_same (pc' := 37) C (c_guesses l D cI cO B (guessF t i) (guessF_ok hok i) (nI j) j rfl hj) 1 gX2_join_X2_guesses rfl (by decide +kernel) (by decide) rfl rfl (by decide) 2 10 rfl rfl (wM_obj cI B _) (wM_addr cI B _) dX2_join_34 rfl (fun v1 u1 hp1 => ?_)
        obtain ⟨rfl, rfl⟩ := hp1
        show J p l e _ s m args below meth c 0 0 _ _ D A _ _ [] _
        refine j_lconst (pc' := 38) C dX2_join_37 rfl 0 (by decide) ?_
        refine j_lstore (pc' := 40) C dX2_join_38 rfl (by decide) rfl ?_
        refine j_iload_n (pc' := 41) C dX2_join_40 rfl rfl ?_
        refine j_istore (pc' := 43) C dX2_join_41 rfl (by decide) rfl ?_
        exact loop (y - x) 0 (by omega)
        
        
      · skip
        have hF : mJoin t tb ub a b = (-1, t) := by rw [mJoin, if_pos (Or.inr (Or.inr h20))]
        refine j_ldc2 (pc' := 26) C dX2_join_23 rfl (-1) (by decide +kernel) ?_
        refine j_lreturn _ C dX2_join_26 ?_
        exact ⟨by rw [hF] <;> rfl, by rw [hF] <;> rfl⟩
      
    
  
set_option maxRecDepth 100000 in
set_option maxHeartbeats 4000000 in
theorem c_McostOf (l : Launch) (D : va_G) (cI cO : ClassId) (B : Nat → Nat) (t : TS) (od : Nat) (hod : od < 6) (by_ : Int32) : Kt l yX2_costOf wsX2_costOf 2 (wM cI B) D cI cO (fun _ => True) [.ref (B 10), .int (nI od), .int by_] t (fun r u => r = some (.long (mCostOf t od by_)) ∧ u = t) := by
  refine Kt_of (cc := cX2_costOf) (n := 11) (ret := some .long) rfl (by decide +kernel) (Nat.le_of_ble_eq_true rfl) rfl [some (.ref (B 10)), some (.int (nI od)), some (.int by_), none, none, none, none, none, none, none, none] rfl ?_
  intro p e s m args below meth c A C _ _
  have hinM : ∀ w ∈ wsX20, w ∈ wsX2_costOf := by decide +kernel
  have hX : ordX od < 3 := by unfold ordX; omega
  have hY : ordY od < 3 := by unfold ordY; (repeat' split) <;> omega
  have hZ : ordZ od < 3 := by
    rcases (show od = 0 ∨ od = 1 ∨ od = 2 ∨ od = 3 ∨ od = 4 ∨ od = 5 by omega) with rfl | rfl | rfl | rfl | rfl | rfl <;> decide
  have h42 : ∀ (xx yy zz : Int32), xx = nI (ordX od) → yy = nI (ordY od) → zz = nI (ordZ od) → J p l e (rmH 2) s m args below meth c 0 0 (RQ below args s D (wM cI B) (fun r u => r = some (.long (mCostOf t od by_)) ∧ u = t) A) 11 D A 42 [some (.ref (B 10)), some (.int (nI od)), some (.int by_), some (.int xx), some (.int yy), some (.int zz), none, none, none, none, none] [] (wM cI B t) := by
    intro xx yy zz ex ey ez
    have loop : ∀ (k v : Nat) (x9 : Option Value), v + k = 64 → J p l e (rmH 2) s m args below meth c 0 0 (RQ below args s D (wM cI B) (fun r u => r = some (.long (mCostOf t od by_)) ∧ u = t) A) 11 D A 48 [some (.ref (B 10)), some (.int (nI od)), some (.int by_), some (.int xx), some (.int yy), some (.int zz), some (.long (costS t od by_ v)), none, some (.int (nI v)), x9, none] [] (wM cI B t) := by
      intro k
      induction k with
      | zero =>
        intro v x9 hv
        have hv2 : v = 64 := by omega
        subst hv2
        refine j_iload (pc' := 50) C dX2_costOf_48 rfl rfl ?_
        refine j_bipush (pc' := 52) C dX2_costOf_50 rfl 64 (by decide) ?_
        refine j_icmp_ge (tgt := 101) (pc' := 55) C dX2_costOf_52 (by decide) rfl (fun h52 => ?_) (fun h52 => ?_)
        · skip
          refine j_lload (pc' := 103) C dX2_costOf_101 rfl rfl ?_
          refine j_lreturn _ C dX2_costOf_103 ?_
          exact ⟨rfl, rfl⟩
        · skip
          exact absurd (by decide) h52 -- done
      | succ k ih =>
        intro v x9 hv
        refine j_iload (pc' := 50) C dX2_costOf_48 rfl rfl ?_
        refine j_bipush (pc' := 52) C dX2_costOf_50 rfl 64 (by decide) ?_
        refine j_icmp_ge (tgt := 101) (pc' := 55) C dX2_costOf_52 (by decide) rfl (fun h52 => ?_) (fun h52 => ?_)
        · skip
          exact absurd h52 (nI_ge (b := 64) (by omega) (by decide)) -- done
        · skip
          refine j_aload_n (pc' := 56) C dX2_costOf_55 rfl rfl ?_
          refine j_iload_n (pc' := 57) C dX2_costOf_56 rfl rfl ?_
          refine j_iload (pc' := 59) C dX2_costOf_57 rfl rfl ?_
          refine j_iload_n (pc' := 60) C dX2_costOf_59 rfl rfl ?_
          refine jc_same (pc' := 63) C (c_MrowsOf l D cI cO B t (xx) (nI v) by_ (ordX od) v ex rfl hX (by omega)) 3 gX2_costOf_X2_rowsOf rfl (by decide +kernel) (by decide) rfl rfl (Nat.le_of_ble_eq_true rfl) 2 10 rfl rfl (wM_obj cI B _) (wM_addr cI B _) dX2_costOf_60 rfl (fun v1 u1 hp1 => ?_)
          obtain ⟨rfl, hu1⟩ := hp1
          rw [hu1]
          clear hu1 u1
          show J p l e _ s m args below meth c 0 0 _ _ D A _ _ [_] _
          refine j_aload_n (pc' := 64) C dX2_costOf_63 rfl rfl ?_
          refine j_iload (pc' := 66) C dX2_costOf_64 rfl rfl ?_
          refine j_iload (pc' := 68) C dX2_costOf_66 rfl rfl ?_
          refine j_iload_n (pc' := 69) C dX2_costOf_68 rfl rfl ?_
          refine jc_same (pc' := 72) C (c_MrowsOf l D cI cO B t (yy) (nI v) by_ (ordY od) v ey rfl hY (by omega)) 3 gX2_costOf_X2_rowsOf rfl (by decide +kernel) (by decide) rfl rfl (Nat.le_of_ble_eq_true rfl) 2 10 rfl rfl (wM_obj cI B _) (wM_addr cI B _) dX2_costOf_69 rfl (fun v1 u1 hp1 => ?_)
          obtain ⟨rfl, hu1⟩ := hp1
          rw [hu1]
          clear hu1 u1
          show J p l e _ s m args below meth c 0 0 _ _ D A _ _ [_, _] _
          refine j_lmul (pc' := 73) C dX2_costOf_72 rfl ?_
          refine j_lstore (pc' := 75) C dX2_costOf_73 rfl (by decide) rfl ?_
          refine j_lload (pc' := 77) C dX2_costOf_75 rfl rfl ?_
          refine j_lload (pc' := 79) C dX2_costOf_77 rfl rfl ?_
          refine j_lload (pc' := 81) C dX2_costOf_79 rfl rfl ?_
          refine j_aload_n (pc' := 82) C dX2_costOf_81 rfl rfl ?_
          refine j_iload (pc' := 84) C dX2_costOf_82 rfl rfl ?_
          refine j_iload (pc' := 86) C dX2_costOf_84 rfl rfl ?_
          refine j_iload_n (pc' := 87) C dX2_costOf_86 rfl rfl ?_
          refine jc_same (pc' := 90) C (c_MrowsOf l D cI cO B t (zz) (nI v) by_ (ordZ od) v ez rfl hZ (by omega)) 3 gX2_costOf_X2_rowsOf rfl (by decide +kernel) (by decide) rfl rfl (Nat.le_of_ble_eq_true rfl) 2 10 rfl rfl (wM_obj cI B _) (wM_addr cI B _) dX2_costOf_87 rfl (fun v1 u1 hp1 => ?_)
          obtain ⟨rfl, hu1⟩ := hp1
          rw [hu1]
          clear hu1 u1
          show J p l e _ s m args below meth c 0 0 _ _ D A _ _ [_, _, _, _] _
          refine j_lmul (pc' := 91) C dX2_costOf_90 rfl ?_
          refine j_ladd (pc' := 92) C dX2_costOf_91 rfl ?_
          refine j_ladd (pc' := 93) C dX2_costOf_92 rfl ?_
          refine j_lstore (pc' := 95) C dX2_costOf_93 rfl (by decide) rfl ?_
          refine j_iinc (pc' := 98) C dX2_costOf_95 rfl 1 (by decide) rfl (by decide) rfl ?_
          refine j_goto (pc' := 48) C dX2_costOf_98 (by decide) ?_
          rw [nI_1]
          exact ih (v + 1) _ (by omega)
          
          
          
    refine j_lconst (pc' := 43) C dX2_costOf_42 rfl 0 (by decide) ?_
    refine j_lstore (pc' := 45) C dX2_costOf_43 rfl (by decide) rfl ?_
    refine j_iconst (pc' := 46) C dX2_costOf_45 rfl 0 (by decide) ?_
    refine j_istore (pc' := 48) C dX2_costOf_46 rfl (by decide) rfl ?_
    exact loop 64 0 none (by omega)
  rcases (show od = 0 ∨ od = 1 ∨ od = 2 ∨ od = 3 ∨ od = 4 ∨ od = 5 by omega) with rfl | rfl | rfl | rfl | rfl | rfl
  · skip
    refine j_iload_n (pc' := 1) C dX2_costOf_0 rfl rfl ?_
    refine j_iconst (pc' := 2) C dX2_costOf_1 rfl 2 (by decide) ?_
    refine j_idiv (pc' := 3) C dX2_costOf_2 rfl (by decide) ?_
    refine j_istore_n (pc' := 4) C dX2_costOf_3 rfl (by decide) rfl ?_
    refine j_iload_n (pc' := 5) C dX2_costOf_4 rfl rfl ?_
    refine j_iconst (pc' := 6) C dX2_costOf_5 rfl 2 (by decide) ?_
    refine j_irem (pc' := 7) C dX2_costOf_6 rfl (by decide) ?_
    refine j_if_ne (tgt := 22) (pc' := 10) C dX2_costOf_7 (by decide) rfl (fun h7 => ?_) (fun h7 => ?_)
    · skip
      exact absurd h7 (by decide) -- done
    · skip
      refine j_iload_n (pc' := 11) C dX2_costOf_10 rfl rfl ?_
      refine j_if_ne (tgt := 18) (pc' := 14) C dX2_costOf_11 (by decide) rfl (fun h11 => ?_) (fun h11 => ?_)
      · skip
        exact absurd h11 (by decide) -- done
      · skip
        refine j_iconst (pc' := 15) C dX2_costOf_14 rfl 1 (by decide) ?_
        refine j_goto (pc' := 32) C dX2_costOf_15 (by decide) ?_
        refine j_istore (pc' := 34) C dX2_costOf_32 rfl (by decide) rfl ?_
        refine j_iconst (pc' := 35) C dX2_costOf_34 rfl 3 (by decide) ?_
        refine j_iload_n (pc' := 36) C dX2_costOf_35 rfl rfl ?_
        refine j_isub (pc' := 37) C dX2_costOf_36 rfl ?_
        refine j_iload (pc' := 39) C dX2_costOf_37 rfl rfl ?_
        refine j_isub (pc' := 40) C dX2_costOf_39 rfl ?_
        refine j_istore (pc' := 42) C dX2_costOf_40 rfl (by decide) rfl ?_
        exact h42 _ _ _ (by decide) (by decide) (by decide)
  · skip
    refine j_iload_n (pc' := 1) C dX2_costOf_0 rfl rfl ?_
    refine j_iconst (pc' := 2) C dX2_costOf_1 rfl 2 (by decide) ?_
    refine j_idiv (pc' := 3) C dX2_costOf_2 rfl (by decide) ?_
    refine j_istore_n (pc' := 4) C dX2_costOf_3 rfl (by decide) rfl ?_
    refine j_iload_n (pc' := 5) C dX2_costOf_4 rfl rfl ?_
    refine j_iconst (pc' := 6) C dX2_costOf_5 rfl 2 (by decide) ?_
    refine j_irem (pc' := 7) C dX2_costOf_6 rfl (by decide) ?_
    refine j_if_ne (tgt := 22) (pc' := 10) C dX2_costOf_7 (by decide) rfl (fun h7 => ?_) (fun h7 => ?_)
    · skip
      refine j_iload_n (pc' := 23) C dX2_costOf_22 rfl rfl ?_
      refine j_iconst (pc' := 24) C dX2_costOf_23 rfl 2 (by decide) ?_
      refine j_icmp_ne (tgt := 31) (pc' := 27) C dX2_costOf_24 (by decide) rfl (fun h24 => ?_) (fun h24 => ?_)
      · skip
        refine j_iconst (pc' := 32) C dX2_costOf_31 rfl 2 (by decide) ?_
        refine j_istore (pc' := 34) C dX2_costOf_32 rfl (by decide) rfl ?_
        refine j_iconst (pc' := 35) C dX2_costOf_34 rfl 3 (by decide) ?_
        refine j_iload_n (pc' := 36) C dX2_costOf_35 rfl rfl ?_
        refine j_isub (pc' := 37) C dX2_costOf_36 rfl ?_
        refine j_iload (pc' := 39) C dX2_costOf_37 rfl rfl ?_
        refine j_isub (pc' := 40) C dX2_costOf_39 rfl ?_
        refine j_istore (pc' := 42) C dX2_costOf_40 rfl (by decide) rfl ?_
        exact h42 _ _ _ (by decide) (by decide) (by decide)
      · skip
        exact absurd h24 (by decide) -- done
    · skip
      exact absurd h7 (by decide) -- done
  · skip
    refine j_iload_n (pc' := 1) C dX2_costOf_0 rfl rfl ?_
    refine j_iconst (pc' := 2) C dX2_costOf_1 rfl 2 (by decide) ?_
    refine j_idiv (pc' := 3) C dX2_costOf_2 rfl (by decide) ?_
    refine j_istore_n (pc' := 4) C dX2_costOf_3 rfl (by decide) rfl ?_
    refine j_iload_n (pc' := 5) C dX2_costOf_4 rfl rfl ?_
    refine j_iconst (pc' := 6) C dX2_costOf_5 rfl 2 (by decide) ?_
    refine j_irem (pc' := 7) C dX2_costOf_6 rfl (by decide) ?_
    refine j_if_ne (tgt := 22) (pc' := 10) C dX2_costOf_7 (by decide) rfl (fun h7 => ?_) (fun h7 => ?_)
    · skip
      exact absurd h7 (by decide) -- done
    · skip
      refine j_iload_n (pc' := 11) C dX2_costOf_10 rfl rfl ?_
      refine j_if_ne (tgt := 18) (pc' := 14) C dX2_costOf_11 (by decide) rfl (fun h11 => ?_) (fun h11 => ?_)
      · skip
        refine j_iconst (pc' := 19) C dX2_costOf_18 rfl 0 (by decide) ?_
        refine j_goto (pc' := 32) C dX2_costOf_19 (by decide) ?_
        refine j_istore (pc' := 34) C dX2_costOf_32 rfl (by decide) rfl ?_
        refine j_iconst (pc' := 35) C dX2_costOf_34 rfl 3 (by decide) ?_
        refine j_iload_n (pc' := 36) C dX2_costOf_35 rfl rfl ?_
        refine j_isub (pc' := 37) C dX2_costOf_36 rfl ?_
        refine j_iload (pc' := 39) C dX2_costOf_37 rfl rfl ?_
        refine j_isub (pc' := 40) C dX2_costOf_39 rfl ?_
        refine j_istore (pc' := 42) C dX2_costOf_40 rfl (by decide) rfl ?_
        exact h42 _ _ _ (by decide) (by decide) (by decide)
      · skip
        exact absurd h11 (by decide) -- done
  · skip
    refine j_iload_n (pc' := 1) C dX2_costOf_0 rfl rfl ?_
    refine j_iconst (pc' := 2) C dX2_costOf_1 rfl 2 (by decide) ?_
    refine j_idiv (pc' := 3) C dX2_costOf_2 rfl (by decide) ?_
    refine j_istore_n (pc' := 4) C dX2_costOf_3 rfl (by decide) rfl ?_
    refine j_iload_n (pc' := 5) C dX2_costOf_4 rfl rfl ?_
    refine j_iconst (pc' := 6) C dX2_costOf_5 rfl 2 (by decide) ?_
    refine j_irem (pc' := 7) C dX2_costOf_6 rfl (by decide) ?_
    refine j_if_ne (tgt := 22) (pc' := 10) C dX2_costOf_7 (by decide) rfl (fun h7 => ?_) (fun h7 => ?_)
    · skip
      refine j_iload_n (pc' := 23) C dX2_costOf_22 rfl rfl ?_
      refine j_iconst (pc' := 24) C dX2_costOf_23 rfl 2 (by decide) ?_
      refine j_icmp_ne (tgt := 31) (pc' := 27) C dX2_costOf_24 (by decide) rfl (fun h24 => ?_) (fun h24 => ?_)
      · skip
        refine j_iconst (pc' := 32) C dX2_costOf_31 rfl 2 (by decide) ?_
        refine j_istore (pc' := 34) C dX2_costOf_32 rfl (by decide) rfl ?_
        refine j_iconst (pc' := 35) C dX2_costOf_34 rfl 3 (by decide) ?_
        refine j_iload_n (pc' := 36) C dX2_costOf_35 rfl rfl ?_
        refine j_isub (pc' := 37) C dX2_costOf_36 rfl ?_
        refine j_iload (pc' := 39) C dX2_costOf_37 rfl rfl ?_
        refine j_isub (pc' := 40) C dX2_costOf_39 rfl ?_
        refine j_istore (pc' := 42) C dX2_costOf_40 rfl (by decide) rfl ?_
        exact h42 _ _ _ (by decide) (by decide) (by decide)
      · skip
        exact absurd h24 (by decide) -- done
    · skip
      exact absurd h7 (by decide) -- done
  · skip
    refine j_iload_n (pc' := 1) C dX2_costOf_0 rfl rfl ?_
    refine j_iconst (pc' := 2) C dX2_costOf_1 rfl 2 (by decide) ?_
    refine j_idiv (pc' := 3) C dX2_costOf_2 rfl (by decide) ?_
    refine j_istore_n (pc' := 4) C dX2_costOf_3 rfl (by decide) rfl ?_
    refine j_iload_n (pc' := 5) C dX2_costOf_4 rfl rfl ?_
    refine j_iconst (pc' := 6) C dX2_costOf_5 rfl 2 (by decide) ?_
    refine j_irem (pc' := 7) C dX2_costOf_6 rfl (by decide) ?_
    refine j_if_ne (tgt := 22) (pc' := 10) C dX2_costOf_7 (by decide) rfl (fun h7 => ?_) (fun h7 => ?_)
    · skip
      exact absurd h7 (by decide) -- done
    · skip
      refine j_iload_n (pc' := 11) C dX2_costOf_10 rfl rfl ?_
      refine j_if_ne (tgt := 18) (pc' := 14) C dX2_costOf_11 (by decide) rfl (fun h11 => ?_) (fun h11 => ?_)
      · skip
        refine j_iconst (pc' := 19) C dX2_costOf_18 rfl 0 (by decide) ?_
        refine j_goto (pc' := 32) C dX2_costOf_19 (by decide) ?_
        refine j_istore (pc' := 34) C dX2_costOf_32 rfl (by decide) rfl ?_
        refine j_iconst (pc' := 35) C dX2_costOf_34 rfl 3 (by decide) ?_
        refine j_iload_n (pc' := 36) C dX2_costOf_35 rfl rfl ?_
        refine j_isub (pc' := 37) C dX2_costOf_36 rfl ?_
        refine j_iload (pc' := 39) C dX2_costOf_37 rfl rfl ?_
        refine j_isub (pc' := 40) C dX2_costOf_39 rfl ?_
        refine j_istore (pc' := 42) C dX2_costOf_40 rfl (by decide) rfl ?_
        exact h42 _ _ _ (by decide) (by decide) (by decide)
      · skip
        exact absurd h11 (by decide) -- done
  · skip
    refine j_iload_n (pc' := 1) C dX2_costOf_0 rfl rfl ?_
    refine j_iconst (pc' := 2) C dX2_costOf_1 rfl 2 (by decide) ?_
    refine j_idiv (pc' := 3) C dX2_costOf_2 rfl (by decide) ?_
    refine j_istore_n (pc' := 4) C dX2_costOf_3 rfl (by decide) rfl ?_
    refine j_iload_n (pc' := 5) C dX2_costOf_4 rfl rfl ?_
    refine j_iconst (pc' := 6) C dX2_costOf_5 rfl 2 (by decide) ?_
    refine j_irem (pc' := 7) C dX2_costOf_6 rfl (by decide) ?_
    refine j_if_ne (tgt := 22) (pc' := 10) C dX2_costOf_7 (by decide) rfl (fun h7 => ?_) (fun h7 => ?_)
    · skip
      refine j_iload_n (pc' := 23) C dX2_costOf_22 rfl rfl ?_
      refine j_iconst (pc' := 24) C dX2_costOf_23 rfl 2 (by decide) ?_
      refine j_icmp_ne (tgt := 31) (pc' := 27) C dX2_costOf_24 (by decide) rfl (fun h24 => ?_) (fun h24 => ?_)
      · skip
        exact absurd h24 (by decide) -- done
      · skip
        refine j_iconst (pc' := 28) C dX2_costOf_27 rfl 1 (by decide) ?_
        refine j_goto (pc' := 32) C dX2_costOf_28 (by decide) ?_
        refine j_istore (pc' := 34) C dX2_costOf_32 rfl (by decide) rfl ?_
        refine j_iconst (pc' := 35) C dX2_costOf_34 rfl 3 (by decide) ?_
        refine j_iload_n (pc' := 36) C dX2_costOf_35 rfl rfl ?_
        refine j_isub (pc' := 37) C dX2_costOf_36 rfl ?_
        refine j_iload (pc' := 39) C dX2_costOf_37 rfl rfl ?_
        refine j_isub (pc' := 40) C dX2_costOf_39 rfl ?_
        refine j_istore (pc' := 42) C dX2_costOf_40 rfl (by decide) rfl ?_
        exact h42 _ _ _ (by decide) (by decide) (by decide)
    · skip
      exact absurd h7 (by decide) -- done
set_option maxRecDepth 100000 in
set_option maxHeartbeats 4000000 in
theorem c_allGuesses (l : Launch) (D : va_G) (cI cO : ClassId) (B : Nat → Nat) (t : TS) (hok : okM t) : Kt l yX2_allGuesses wsX2_allGuesses 4 (wM cI B) D cI cO (fun _ => True) [.ref (B 10)] t (fun r u => r = none ∧ u = allG t) := by
  refine Kt_of (cc := cX2_allGuesses) (n := 2) (ret := none) rfl (by decide +kernel) (Nat.le_of_ble_eq_true rfl) rfl [some (.ref (B 10)), none] rfl ?_
  intro p e s m args below meth c A C _ _
  have hinM : ∀ w ∈ wsX20, w ∈ wsX2_allGuesses := by decide +kernel
  refine j_iconst (pc' := 1) C dX2_allGuesses_0 rfl 0 (by decide) ?_
  refine j_istore_n (pc' := 2) C dX2_allGuesses_1 rfl (by decide) rfl ?_
  show J p l e (rmH 4) s m args below meth c 0 0 (RQ below args s D (wM cI B) (fun r u => r = none ∧ u = allG t) A) 2 D A 2 [some (.ref (B 10)), some (.int (nI 0))] [] (wM cI B t)
  refine j_iload_n (pc' := 3) C dX2_allGuesses_2 rfl rfl ?_
  refine j_iconst (pc' := 4) C dX2_allGuesses_3 rfl 3 (by decide) ?_
  refine j_icmp_ge (tgt := 18) (pc' := 7) C dX2_allGuesses_4 (by decide) rfl (fun h4 => ?_) (fun h4 => ?_)
  · skip
    exact absurd h4 (by decide) -- done
  · skip
    refine j_aload_n (pc' := 8) C dX2_allGuesses_7 rfl rfl ?_
    refine j_iload_n (pc' := 9) C dX2_allGuesses_8 rfl rfl ?_
    refine jc_same (pc' := 12) C (c_guesses l D cI cO B (t) hok (nI 0) 0 rfl (by decide)) 1 gX2_allGuesses_X2_guesses rfl (by decide +kernel) (by decide) rfl rfl (by decide) 2 10 rfl rfl (wM_obj cI B _) (wM_addr cI B _) dX2_allGuesses_9 rfl (fun v1 u1 hp1 => ?_)
    obtain ⟨rfl, rfl⟩ := hp1
    show J p l e _ s m args below meth c 0 0 _ _ D A _ _ [] _
    refine j_iinc (pc' := 15) C dX2_allGuesses_12 rfl 1 (by decide) rfl (by decide) rfl ?_
    refine j_goto (pc' := 2) C dX2_allGuesses_15 (by decide) ?_
    rw [show (nI 0 : Int32) + 1 = nI 1 from nI_1 0]
    refine j_iload_n (pc' := 3) C dX2_allGuesses_2 rfl rfl ?_
    refine j_iconst (pc' := 4) C dX2_allGuesses_3 rfl 3 (by decide) ?_
    refine j_icmp_ge (tgt := 18) (pc' := 7) C dX2_allGuesses_4 (by decide) rfl (fun h4 => ?_) (fun h4 => ?_)
    · skip
      exact absurd h4 (by decide) -- done
    · skip
      refine j_aload_n (pc' := 8) C dX2_allGuesses_7 rfl rfl ?_
      refine j_iload_n (pc' := 9) C dX2_allGuesses_8 rfl rfl ?_
      refine jc_same (pc' := 12) C (c_guesses l D cI cO B (guessF (t) 0) (guessF_ok hok 0) (nI 1) 1 rfl (by decide)) 1 gX2_allGuesses_X2_guesses rfl (by decide +kernel) (by decide) rfl rfl (by decide) 2 10 rfl rfl (wM_obj cI B _) (wM_addr cI B _) dX2_allGuesses_9 rfl (fun v1 u1 hp1 => ?_)
      obtain ⟨rfl, rfl⟩ := hp1
      show J p l e _ s m args below meth c 0 0 _ _ D A _ _ [] _
      refine j_iinc (pc' := 15) C dX2_allGuesses_12 rfl 1 (by decide) rfl (by decide) rfl ?_
      refine j_goto (pc' := 2) C dX2_allGuesses_15 (by decide) ?_
      rw [show (nI 1 : Int32) + 1 = nI 2 from nI_1 1]
      refine j_iload_n (pc' := 3) C dX2_allGuesses_2 rfl rfl ?_
      refine j_iconst (pc' := 4) C dX2_allGuesses_3 rfl 3 (by decide) ?_
      refine j_icmp_ge (tgt := 18) (pc' := 7) C dX2_allGuesses_4 (by decide) rfl (fun h4 => ?_) (fun h4 => ?_)
      · skip
        exact absurd h4 (by decide) -- done
      · skip
        refine j_aload_n (pc' := 8) C dX2_allGuesses_7 rfl rfl ?_
        refine j_iload_n (pc' := 9) C dX2_allGuesses_8 rfl rfl ?_
        refine jc_same (pc' := 12) C (c_guesses l D cI cO B (guessF (guessF (t) 0) 1) (guessF_ok (guessF_ok hok 0) 1) (nI 2) 2 rfl (by decide)) 1 gX2_allGuesses_X2_guesses rfl (by decide +kernel) (by decide) rfl rfl (by decide) 2 10 rfl rfl (wM_obj cI B _) (wM_addr cI B _) dX2_allGuesses_9 rfl (fun v1 u1 hp1 => ?_)
        obtain ⟨rfl, rfl⟩ := hp1
        show J p l e _ s m args below meth c 0 0 _ _ D A _ _ [] _
        refine j_iinc (pc' := 15) C dX2_allGuesses_12 rfl 1 (by decide) rfl (by decide) rfl ?_
        refine j_goto (pc' := 2) C dX2_allGuesses_15 (by decide) ?_
        rw [show (nI 2 : Int32) + 1 = nI 3 from nI_1 2]
        refine j_iload_n (pc' := 3) C dX2_allGuesses_2 rfl rfl ?_
        refine j_iconst (pc' := 4) C dX2_allGuesses_3 rfl 3 (by decide) ?_
        refine j_icmp_ge (tgt := 18) (pc' := 7) C dX2_allGuesses_4 (by decide) rfl (fun h4 => ?_) (fun h4 => ?_)
        · skip
          refine j_return _ C dX2_allGuesses_18 ?_
          exact ⟨rfl, rfl⟩
        · skip
          exact absurd (by decide) h4 -- done
        
        
      
      
    
    
  
set_option maxRecDepth 100000 in
set_option maxHeartbeats 4000000 in
theorem c_Mcost (l : Launch) (D : va_G) (cI cO : ClassId) (B : Nat → Nat) (t : TS) (hok : okM t) (od by_ : Int32) : Kt l yX2_cost wsX2_cost 5 (wM cI B) D cI cO (fun _ => True) [.ref (B 10), .int od, .int by_] t (fun r u => r = some (.long (mCost t od by_).1) ∧ u = (mCost t od by_).2) := by
  refine Kt_of (cc := cX2_cost) (n := 3) (ret := some .long) rfl (by decide +kernel) (Nat.le_of_ble_eq_true rfl) rfl [some (.ref (B 10)), some (.int od), some (.int by_)] rfl ?_
  intro p e s m args below meth c A C _ _
  have hinM : ∀ w ∈ wsX20, w ∈ wsX2_cost := by decide +kernel
  refine j_iload_n (pc' := 1) C dX2_cost_0 rfl rfl ?_
  refine j_iconst (pc' := 2) C dX2_cost_1 rfl 0 (by decide) ?_
  refine j_iconst (pc' := 3) C dX2_cost_2 rfl 5 (by decide) ?_
  refine jc_nil (pc' := 6) C (c_isIn l D cI cO _ _ _) 3 gX2_cost_X2_isIn rfl (by decide +kernel) (by decide) rfl rfl (Nat.le_of_ble_eq_true rfl) dX2_cost_3 rfl (fun v1 hp1 => ?_)
  subst hp1
  show J p l e _ s m args below meth c 0 0 _ _ D A _ _ [_] _
  refine j_if_ne (tgt := 13) (pc' := 9) C dX2_cost_6 (by decide) rfl (fun h6 => ?_) (fun h6 => ?_)
  · skip
    have hF0 : mCost t od by_ = (mCostOf (allG t) od.toNatClampNeg by_, allG t) := by rw [mCost, if_neg h6]
    obtain ⟨q, hq, rfl⟩ := isInF_nI 5 (by decide) h6
    rw [nI_clamp (show q < 2 ^ 31 by omega)] at hF0
    refine j_aload_n (pc' := 14) C dX2_cost_13 rfl rfl ?_
    refine jc_same (pc' := 17) C (c_allGuesses l D cI cO B (t) hok) 0 gX2_cost_X2_allGuesses rfl (by decide +kernel) (by decide) rfl rfl (by decide) 2 10 rfl rfl (wM_obj cI B _) (wM_addr cI B _) dX2_cost_14 rfl (fun v1 u1 hp1 => ?_)
    obtain ⟨rfl, rfl⟩ := hp1
    show J p l e _ s m args below meth c 0 0 _ _ D A _ _ [] _
    refine j_aload_n (pc' := 18) C dX2_cost_17 rfl rfl ?_
    refine j_iload_n (pc' := 19) C dX2_cost_18 rfl rfl ?_
    refine j_iload_n (pc' := 20) C dX2_cost_19 rfl rfl ?_
    refine jc_same (pc' := 23) C (c_McostOf l D cI cO B (allG t) (q) (by omega) (by_)) 2 gX2_cost_X2_costOf rfl (by decide +kernel) (by decide) rfl rfl (Nat.le_of_ble_eq_true rfl) 2 10 rfl rfl (wM_obj cI B _) (wM_addr cI B _) dX2_cost_20 rfl (fun v1 u1 hp1 => ?_)
    obtain ⟨rfl, hu1⟩ := hp1
    rw [hu1]
    clear hu1 u1
    show J p l e _ s m args below meth c 0 0 _ _ D A _ _ [_] _
    refine j_lreturn _ C dX2_cost_23 ?_
    exact ⟨by rw [hF0], by rw [hF0]⟩
    
    
  · skip
    have hF : mCost t od by_ = (-1, t) := by rw [mCost, if_pos h6]
    refine j_ldc2 (pc' := 12) C dX2_cost_9 rfl (-1) (by decide +kernel) ?_
    refine j_lreturn _ C dX2_cost_12 ?_
    exact ⟨by rw [hF] <;> rfl, by rw [hF] <;> rfl⟩
  
set_option maxRecDepth 100000 in
set_option maxHeartbeats 4000000 in
theorem c_Mplan (l : Launch) (D : va_G) (cI cO : ClassId) (B : Nat → Nat) (t : TS) (hok : okM t) (by_ : Int32) : Kt l yX2_plan wsX2_plan 5 (wM cI B) D cI cO (fun _ => True) [.ref (B 10), .int by_] t (fun r u => r = some (.int (nI (planN t by_))) ∧ u = allG t) := by
  refine Kt_of (cc := cX2_plan) (n := 4) (ret := some .int) rfl (by decide +kernel) (Nat.le_of_ble_eq_true rfl) rfl [some (.ref (B 10)), some (.int by_), none, none] rfl ?_
  intro p e s m args below meth c A C _ _
  have hinM : ∀ w ∈ wsX20, w ∈ wsX2_plan := by decide +kernel
  have loop : ∀ (k o b : Nat), o + k = 6 → b < 6 → planL (allG t) by_ k o b = planN t by_ → J p l e (rmH 5) s m args below meth c 0 0 (RQ below args s D (wM cI B) (fun r u => r = some (.int (nI (planN t by_))) ∧ u = allG t) A) 4 D A 8 [some (.ref (B 10)), some (.int by_), some (.int (nI b)), some (.int (nI o))] [] (wM cI B (allG t)) := by
    intro k
    induction k with
    | zero =>
      intro o b ho hb hr
      have ho2 : o = 6 := by omega
      subst ho2
      refine j_iload_n (pc' := 9) C dX2_plan_8 rfl rfl ?_
      refine j_bipush (pc' := 11) C dX2_plan_9 rfl 6 (by decide) ?_
      refine j_icmp_ge (tgt := 38) (pc' := 14) C dX2_plan_11 (by decide) rfl (fun h11 => ?_) (fun h11 => ?_)
      · skip
        refine j_iload_n (pc' := 39) C dX2_plan_38 rfl rfl ?_
        refine j_ireturn _ C dX2_plan_39 ?_
        exact ⟨by rw [← hr]; rfl, rfl⟩
      · skip
        exact absurd (by decide) h11 -- done
    | succ k ih =>
      intro o b ho hb hr
      refine j_iload_n (pc' := 9) C dX2_plan_8 rfl rfl ?_
      refine j_bipush (pc' := 11) C dX2_plan_9 rfl 6 (by decide) ?_
      refine j_icmp_ge (tgt := 38) (pc' := 14) C dX2_plan_11 (by decide) rfl (fun h11 => ?_) (fun h11 => ?_)
      · skip
        exact absurd h11 (nI_ge (b := 6) (by omega) (by decide)) -- done
      · skip
        refine j_aload_n (pc' := 15) C dX2_plan_14 rfl rfl ?_
        refine j_iload_n (pc' := 16) C dX2_plan_15 rfl rfl ?_
        refine j_iload_n (pc' := 17) C dX2_plan_16 rfl rfl ?_
        refine jc_same (pc' := 20) C (c_McostOf l D cI cO B (allG t) (o) (by omega) (by_)) 2 gX2_plan_X2_costOf rfl (by decide +kernel) (by decide) rfl rfl (Nat.le_of_ble_eq_true rfl) 2 10 rfl rfl (wM_obj cI B _) (wM_addr cI B _) dX2_plan_17 rfl (fun v1 u1 hp1 => ?_)
        obtain ⟨rfl, hu1⟩ := hp1
        rw [hu1]
        clear hu1 u1
        show J p l e _ s m args below meth c 0 0 _ _ D A _ _ [_] _
        refine j_aload_n (pc' := 21) C dX2_plan_20 rfl rfl ?_
        refine j_iload_n (pc' := 22) C dX2_plan_21 rfl rfl ?_
        refine j_iload_n (pc' := 23) C dX2_plan_22 rfl rfl ?_
        refine jc_same (pc' := 26) C (c_McostOf l D cI cO B (allG t) (b) hb (by_)) 2 gX2_plan_X2_costOf rfl (by decide +kernel) (by decide) rfl rfl (Nat.le_of_ble_eq_true rfl) 2 10 rfl rfl (wM_obj cI B _) (wM_addr cI B _) dX2_plan_23 rfl (fun v1 u1 hp1 => ?_)
        obtain ⟨rfl, hu1⟩ := hp1
        rw [hu1]
        clear hu1 u1
        show J p l e _ s m args below meth c 0 0 _ _ D A _ _ [_, _] _
        refine j_lcmp (pc' := 27) C dX2_plan_26 rfl ?_
        refine j_if_ge (tgt := 32) (pc' := 30) C dX2_plan_27 (by decide) rfl (fun h27 => ?_) (fun h27 => ?_)
        · skip
          have hx : ¬ lg_cmp (mCostOf (allG t) o by_) (mCostOf (allG t) b by_) < 0 := i32_le_nlt h27
          refine j_iinc (pc' := 35) C dX2_plan_32 rfl 1 (by decide) rfl (by decide) rfl ?_
          refine j_goto (pc' := 8) C dX2_plan_35 (by decide) ?_
          rw [nI_1]
          first
            | exact ih (o + 1) b (by omega) hb (by rw [← hr, planL, if_neg hx])
            | exact ih (o + 1) o (by omega) (by omega) (by rw [← hr, planL, if_pos hy])
        · skip
          have hy : lg_cmp (mCostOf (allG t) o by_) (mCostOf (allG t) b by_) < 0 := i32_nle h27
          refine j_iload_n (pc' := 31) C dX2_plan_30 rfl rfl ?_
          refine j_istore_n (pc' := 32) C dX2_plan_31 rfl (by decide) rfl ?_
          refine j_iinc (pc' := 35) C dX2_plan_32 rfl 1 (by decide) rfl (by decide) rfl ?_
          refine j_goto (pc' := 8) C dX2_plan_35 (by decide) ?_
          rw [nI_1]
          first
            | exact ih (o + 1) b (by omega) hb (by rw [← hr, planL, if_neg hx])
            | exact ih (o + 1) o (by omega) (by omega) (by rw [← hr, planL, if_pos hy])
        
        
  refine j_aload_n (pc' := 1) C dX2_plan_0 rfl rfl ?_
  refine jc_same (pc' := 4) C (c_allGuesses l D cI cO B (t) hok) 0 gX2_plan_X2_allGuesses rfl (by decide +kernel) (by decide) rfl rfl (by decide) 2 10 rfl rfl (wM_obj cI B _) (wM_addr cI B _) dX2_plan_1 rfl (fun v1 u1 hp1 => ?_)
  obtain ⟨rfl, rfl⟩ := hp1
  show J p l e _ s m args below meth c 0 0 _ _ D A _ _ [] _
  refine j_iconst (pc' := 5) C dX2_plan_4 rfl 0 (by decide) ?_
  refine j_istore_n (pc' := 6) C dX2_plan_5 rfl (by decide) rfl ?_
  refine j_iconst (pc' := 7) C dX2_plan_6 rfl 1 (by decide) ?_
  refine j_istore_n (pc' := 8) C dX2_plan_7 rfl (by decide) rfl ?_
  exact loop 5 1 0 (by omega) (by omega) rfl
  
