/-! the Model: sightOf, least, greatest, many, table, agrees -/
theorem isIn_pred {sg : Int32} {n : Nat} (hn : n < 2 ^ 30) (h : ¬ isInF sg 0 (nI n - 1) = 0) : ∃ j : Nat, j < n ∧ sg = nI j := by
  cases n with
  | zero =>
    obtain ⟨h1, h2⟩ := isInF_1 h
    rw [Int32.le_iff_toInt_le] at h1 h2
    have e1 : (nI 0 - 1 : Int32).toInt = -1 := by decide
    have e2 : (0 : Int32).toInt = 0 := rfl
    omega
  | succ n =>
    rw [nI_pred] at h
    obtain ⟨i, h1, h2⟩ := isInF_nI n (by omega) h
    exact ⟨i, by omega, h2⟩
def mSightVal (t : TS) (K : Nat) (w : Int32) : Int32 := if w = 0 then t.2 3 K else if w = 1 then t.2 4 K else if w = 2 then t.2 5 K else if w = 3 then t.2 6 K else if w = 4 then t.2 7 K else -1
def mSightOf (t : TS) (tb sg w : Int32) : Int32 × TS := if isInF tb 0 2 = 0 ∨ isInF sg 0 (t.2 1 tb.toNatClampNeg - 1) = 0 then (-1, t) else (mSightVal (closF t tb.toNatClampNeg) (40 * tb.toNatClampNeg + sg.toNatClampNeg) w, closF t tb.toNatClampNeg)
def mLeast (t : TS) (tb a b : Int32) : Int32 × TS := if isInF tb 0 2 = 0 ∨ isSpanF a b = 0 then (-1, t) else (- (closF t tb.toNatClampNeg).2 9 (65 * b.toNatClampNeg + a.toNatClampNeg), closF t tb.toNatClampNeg)
def mGreatest (t : TS) (tb a b : Int32) : Int32 × TS := if isInF tb 0 2 = 0 ∨ isSpanF a b = 0 then (-1, t) else ((closF t tb.toNatClampNeg).2 9 (65 * a.toNatClampNeg + b.toNatClampNeg), closF t tb.toNatClampNeg)
def cntR (f : Nat → Int32) (st : Int32) (lo : Nat) : Nat → Int32
  | 0 => 0
  | n + 1 => cntR f st lo n + (if f (lo + n) = st then 1 else 0)
def manyF (t : TS) (i : Nat) (st : Int32) : Int32 := cntR ((closF t i).2 7) st (40 * i) (t.2 1 i).toNatClampNeg
def mTable (t : TS) (tb w : Int32) : Int32 × TS := if isInF tb 0 2 = 0 then (-1, t) else if w = 0 then (t.2 0 tb.toNatClampNeg, t) else if w = 1 then (t.2 1 tb.toNatClampNeg, t) else if w = 2 then (manyF t tb.toNatClampNeg 0, closF t tb.toNatClampNeg) else if w = 3 then (manyF t tb.toNatClampNeg 1, closF t tb.toNatClampNeg) else if w = 4 then (manyF t tb.toNatClampNeg 2, closF t tb.toNatClampNeg) else if w = 5 then (t.2 2 tb.toNatClampNeg, t) else (-1, t)
def agV (a : Int32) (t : TS) (i K : Nat) : Int32 := if a = 0 then 0 else if ¬ t.2 7 K = 0 then 1 else if lg_cmp (sumT (t.2 8) (64 * i + (t.2 3 K).toNatClampNeg) ((t.2 4 K).toNatClampNeg - (t.2 3 K).toNatClampNeg)) (t.2 5 K).toInt64 < 0 then 0 else if t.2 6 K = 1000001 then 1 else if 0 < lg_cmp (sumT (t.2 8) (64 * i + (t.2 3 K).toNatClampNeg) ((t.2 4 K).toNatClampNeg - (t.2 3 K).toNatClampNeg)) (t.2 6 K).toInt64 then 0 else 1
def magL (t : TS) (i : Nat) : Nat → Nat → Int32 → Int32
  | 0, _, a => a
  | k + 1, c, a => magL t i k (c + 1) (agV a t i (40 * i + c))
def magF (t : TS) (i : Nat) : Int32 := magL (closF t i) i (t.2 1 i).toNatClampNeg 0 (if lg_cmp (sumT ((closF t i).2 8) (64 * i) 64) ((closF t i).2 0 i).toInt64 = 0 then 1 else 0)
def mAgrees (t : TS) (tb : Int32) : Int32 × TS := if isInF tb 0 2 = 0 then (-1, t) else (if magF t tb.toNatClampNeg = 0 then 0 else 1, closF t tb.toNatClampNeg)
theorem agV_01 (a : Int32) (t : TS) (i K : Nat) : agV a t i K = 0 ∨ agV a t i K = 1 := by
  unfold agV; (repeat' split) <;> first | exact Or.inl rfl | exact Or.inr rfl
set_option maxRecDepth 100000 in
set_option maxHeartbeats 4000000 in
theorem c_MsightOf (l : Launch) (D : va_G) (cI cO : ClassId) (B : Nat → Nat) (t : TS) (hok : okM t) (tb sg w : Int32) : Kt l yX2_sightOf wsX2_sightOf 3 (wM cI B) D cI cO (fun _ => True) [.ref (B 10), .int tb, .int sg, .int w] t (fun r u => r = some (.int (mSightOf t tb sg w).1) ∧ u = (mSightOf t tb sg w).2) := by
  refine Kt_of (cc := cX2_sightOf) (n := 5) (ret := some .int) rfl (by decide +kernel) (Nat.le_of_ble_eq_true rfl) rfl [some (.ref (B 10)), some (.int tb), some (.int sg), some (.int w), none] rfl ?_
  intro p e s m args below meth c A C _ _
  have hinM : ∀ w ∈ wsX20, w ∈ wsX2_sightOf := by decide +kernel
  refine j_iload_n (pc' := 1) C dX2_sightOf_0 rfl rfl ?_
  refine jc_nil (pc' := 4) C (c_isTable l D cI cO _) 1 gX2_sightOf_X2_isTable rfl (by decide +kernel) (by decide) rfl rfl (Nat.le_of_ble_eq_true rfl) dX2_sightOf_1 rfl (fun v1 hp1 => ?_)
  subst hp1
  show J p l e _ s m args below meth c 0 0 _ _ D A _ _ [_] _
  refine j_if_eq (tgt := 23) (pc' := 7) C dX2_sightOf_4 (by decide) rfl (fun h4 => ?_) (fun h4 => ?_)
  · skip
    have hF : mSightOf t tb sg w = (-1, t) := by rw [mSightOf, if_pos (Or.inl h4)]
    refine j_iconst (pc' := 24) C dX2_sightOf_23 rfl (-1) (by decide) ?_
    refine j_ireturn _ C dX2_sightOf_24 ?_
    exact ⟨by rw [hF] <;> rfl, by rw [hF] <;> rfl⟩
  · skip
    obtain ⟨i, hi, rfl⟩ := isTb h4
    refine j_iload_n (pc' := 8) C dX2_sightOf_7 rfl rfl ?_
    refine j_iconst (pc' := 9) C dX2_sightOf_8 rfl 0 (by decide) ?_
    refine j_aload_n (pc' := 10) C dX2_sightOf_9 rfl rfl ?_
    refine jMa (pc' := 13) C dX2_sightOf_10 rfl 1 (by decide) hinM (by decide +kernel) ?_
    refine j_iload_n (pc' := 14) C dX2_sightOf_13 rfl rfl ?_
    refine jMlN (pc' := 15) C dX2_sightOf_14 rfl 1 (by decide) i rfl (by unfold lenM; simp; omega) ?_
    refine j_iconst (pc' := 16) C dX2_sightOf_15 rfl 1 (by decide) ?_
    refine j_isub (pc' := 17) C dX2_sightOf_16 rfl ?_
    refine jc_nil (pc' := 20) C (c_isIn l D cI cO _ _ _) 3 gX2_sightOf_X2_isIn rfl (by decide +kernel) (by decide) rfl rfl (Nat.le_of_ble_eq_true rfl) dX2_sightOf_17 rfl (fun v1 hp1 => ?_)
    subst hp1
    show J p l e _ s m args below meth c 0 0 _ _ D A _ _ [_] _
    refine j_if_ne (tgt := 25) (pc' := 23) C dX2_sightOf_20 (by decide) rfl (fun h20 => ?_) (fun h20 => ?_)
    · skip
      obtain ⟨en, hn41⟩ := vp_in_c (hok i hi).1 (by decide)
      have hF0 : mSightOf t (nI i) sg w = (mSightVal (closF t i) (40 * i + sg.toNatClampNeg) w, closF t i) := by rw [mSightOf, nI_clamp (by omega), if_neg (fun q => q.elim h4 h20)]
      rw [en] at h20
      obtain ⟨j, hj, rfl⟩ := isIn_pred (by omega) h20
      rw [nI_clamp (show j < 2 ^ 31 by omega)] at hF0
      refine j_aload_n (pc' := 26) C dX2_sightOf_25 rfl rfl ?_
      refine j_iload_n (pc' := 27) C dX2_sightOf_26 rfl rfl ?_
      refine jc_same (pc' := 30) C (c_closes l D cI cO B t hok (nI i) i rfl hi) 1 gX2_sightOf_X2_closes rfl (by decide +kernel) (by decide) rfl rfl (by decide) 2 10 rfl rfl (wM_obj cI B _) (wM_addr cI B _) dX2_sightOf_27 rfl (fun v1 u1 hp1 => ?_)
      obtain ⟨rfl, rfl⟩ := hp1
      show J p l e _ s m args below meth c 0 0 _ _ D A _ _ [] _
      have hokc : okM (closF t i) := (closF_same t i).ok hok
      refine j_bipush (pc' := 32) C dX2_sightOf_30 rfl 40 (by decide) ?_
      refine j_iload_n (pc' := 33) C dX2_sightOf_32 rfl rfl ?_
      refine j_imul (pc' := 34) C dX2_sightOf_33 rfl ?_
      refine j_iload_n (pc' := 35) C dX2_sightOf_34 rfl rfl ?_
      refine j_iadd (pc' := 36) C dX2_sightOf_35 rfl ?_
      refine j_istore (pc' := 38) C dX2_sightOf_36 rfl (by decide) rfl ?_
      refine j_iload_n (pc' := 39) C dX2_sightOf_38 rfl rfl ?_
      refine j_if_ne (tgt := 52) (pc' := 42) C dX2_sightOf_39 (by decide) rfl (fun h39 => ?_) (fun h39 => ?_)
      · skip
        refine j_iload_n (pc' := 53) C dX2_sightOf_52 rfl rfl ?_
        refine j_iconst (pc' := 54) C dX2_sightOf_53 rfl 1 (by decide) ?_
        refine j_icmp_ne (tgt := 67) (pc' := 57) C dX2_sightOf_54 (by decide) rfl (fun h54 => ?_) (fun h54 => ?_)
        · skip
          refine j_iload_n (pc' := 68) C dX2_sightOf_67 rfl rfl ?_
          refine j_iconst (pc' := 69) C dX2_sightOf_68 rfl 2 (by decide) ?_
          refine j_icmp_ne (tgt := 82) (pc' := 72) C dX2_sightOf_69 (by decide) rfl (fun h69 => ?_) (fun h69 => ?_)
          · skip
            refine j_iload_n (pc' := 83) C dX2_sightOf_82 rfl rfl ?_
            refine j_iconst (pc' := 84) C dX2_sightOf_83 rfl 3 (by decide) ?_
            refine j_icmp_ne (tgt := 97) (pc' := 87) C dX2_sightOf_84 (by decide) rfl (fun h84 => ?_) (fun h84 => ?_)
            · skip
              refine j_iload_n (pc' := 98) C dX2_sightOf_97 rfl rfl ?_
              refine j_iconst (pc' := 99) C dX2_sightOf_98 rfl 4 (by decide) ?_
              refine j_icmp_ne (tgt := 112) (pc' := 102) C dX2_sightOf_99 (by decide) rfl (fun h99 => ?_) (fun h99 => ?_)
              · skip
                have hv : mSightVal (closF t i) (40 * i + j) w = -1 := by rw [mSightVal, if_neg h39, if_neg h54, if_neg h69, if_neg h84, if_neg h99]
                refine j_iconst (pc' := 113) C dX2_sightOf_112 rfl (-1) (by decide) ?_
                refine j_ireturn _ C dX2_sightOf_113 ?_
                exact ⟨by rw [hF0, hv] <;> rfl, by rw [hF0] <;> rfl⟩
              · skip
                have hv : mSightVal (closF t i) (40 * i + j) w = (closF t i).2 7 (40 * i + j) := by rw [mSightVal, if_neg h39, if_neg h54, if_neg h69, if_neg h84, if_pos h99]
                refine j_aload_n (pc' := 103) C dX2_sightOf_102 rfl rfl ?_
                refine jMa (pc' := 106) C dX2_sightOf_103 rfl 7 (by decide) hinM (by decide +kernel) ?_
                refine j_iload (pc' := 108) C dX2_sightOf_106 rfl rfl ?_
                refine jMlN (pc' := 109) C dX2_sightOf_108 rfl 7 (by decide) (40 * i + j) (e40 i j) (by unfold lenM; simp; omega) ?_
                refine j_goto (pc' := 113) C dX2_sightOf_109 (by decide) ?_
                refine j_ireturn _ C dX2_sightOf_113 ?_
                exact ⟨by rw [hF0, hv] <;> rfl, by rw [hF0] <;> rfl⟩
            · skip
              have hv : mSightVal (closF t i) (40 * i + j) w = (closF t i).2 6 (40 * i + j) := by rw [mSightVal, if_neg h39, if_neg h54, if_neg h69, if_pos h84]
              refine j_aload_n (pc' := 88) C dX2_sightOf_87 rfl rfl ?_
              refine jMa (pc' := 91) C dX2_sightOf_88 rfl 6 (by decide) hinM (by decide +kernel) ?_
              refine j_iload (pc' := 93) C dX2_sightOf_91 rfl rfl ?_
              refine jMlN (pc' := 94) C dX2_sightOf_93 rfl 6 (by decide) (40 * i + j) (e40 i j) (by unfold lenM; simp; omega) ?_
              refine j_goto (pc' := 113) C dX2_sightOf_94 (by decide) ?_
              refine j_ireturn _ C dX2_sightOf_113 ?_
              exact ⟨by rw [hF0, hv] <;> rfl, by rw [hF0] <;> rfl⟩
          · skip
            have hv : mSightVal (closF t i) (40 * i + j) w = (closF t i).2 5 (40 * i + j) := by rw [mSightVal, if_neg h39, if_neg h54, if_pos h69]
            refine j_aload_n (pc' := 73) C dX2_sightOf_72 rfl rfl ?_
            refine jMa (pc' := 76) C dX2_sightOf_73 rfl 5 (by decide) hinM (by decide +kernel) ?_
            refine j_iload (pc' := 78) C dX2_sightOf_76 rfl rfl ?_
            refine jMlN (pc' := 79) C dX2_sightOf_78 rfl 5 (by decide) (40 * i + j) (e40 i j) (by unfold lenM; simp; omega) ?_
            refine j_goto (pc' := 113) C dX2_sightOf_79 (by decide) ?_
            refine j_ireturn _ C dX2_sightOf_113 ?_
            exact ⟨by rw [hF0, hv] <;> rfl, by rw [hF0] <;> rfl⟩
        · skip
          have hv : mSightVal (closF t i) (40 * i + j) w = (closF t i).2 4 (40 * i + j) := by rw [mSightVal, if_neg h39, if_pos h54]
          refine j_aload_n (pc' := 58) C dX2_sightOf_57 rfl rfl ?_
          refine jMa (pc' := 61) C dX2_sightOf_58 rfl 4 (by decide) hinM (by decide +kernel) ?_
          refine j_iload (pc' := 63) C dX2_sightOf_61 rfl rfl ?_
          refine jMlN (pc' := 64) C dX2_sightOf_63 rfl 4 (by decide) (40 * i + j) (e40 i j) (by unfold lenM; simp; omega) ?_
          refine j_goto (pc' := 113) C dX2_sightOf_64 (by decide) ?_
          refine j_ireturn _ C dX2_sightOf_113 ?_
          exact ⟨by rw [hF0, hv] <;> rfl, by rw [hF0] <;> rfl⟩
      · skip
        have hv : mSightVal (closF t i) (40 * i + j) w = (closF t i).2 3 (40 * i + j) := by rw [mSightVal, if_pos h39]
        refine j_aload_n (pc' := 43) C dX2_sightOf_42 rfl rfl ?_
        refine jMa (pc' := 46) C dX2_sightOf_43 rfl 3 (by decide) hinM (by decide +kernel) ?_
        refine j_iload (pc' := 48) C dX2_sightOf_46 rfl rfl ?_
        refine jMlN (pc' := 49) C dX2_sightOf_48 rfl 3 (by decide) (40 * i + j) (e40 i j) (by unfold lenM; simp; omega) ?_
        refine j_goto (pc' := 113) C dX2_sightOf_49 (by decide) ?_
        refine j_ireturn _ C dX2_sightOf_113 ?_
        exact ⟨by rw [hF0, hv] <;> rfl, by rw [hF0] <;> rfl⟩
      
    · skip
      have hF : mSightOf t (nI i) sg w = (-1, t) := by rw [mSightOf, nI_clamp (by omega), if_pos (Or.inr h20)]
      refine j_iconst (pc' := 24) C dX2_sightOf_23 rfl (-1) (by decide) ?_
      refine j_ireturn _ C dX2_sightOf_24 ?_
      exact ⟨by rw [hF] <;> rfl, by rw [hF] <;> rfl⟩
    
  
set_option maxRecDepth 100000 in
set_option maxHeartbeats 4000000 in
theorem c_Mleast (l : Launch) (D : va_G) (cI cO : ClassId) (B : Nat → Nat) (t : TS) (hok : okM t) (tb a b : Int32) : Kt l yX2_least wsX2_least 3 (wM cI B) D cI cO (fun _ => True) [.ref (B 10), .int tb, .int a, .int b] t (fun r u => r = some (.int (mLeast t tb a b).1) ∧ u = (mLeast t tb a b).2) := by
  refine Kt_of (cc := cX2_least) (n := 4) (ret := some .int) rfl (by decide +kernel) (Nat.le_of_ble_eq_true rfl) rfl [some (.ref (B 10)), some (.int tb), some (.int a), some (.int b)] rfl ?_
  intro p e s m args below meth c A C _ _
  have hinM : ∀ w ∈ wsX20, w ∈ wsX2_least := by decide +kernel
  refine j_iload_n (pc' := 1) C dX2_least_0 rfl rfl ?_
  refine jc_nil (pc' := 4) C (c_isTable l D cI cO _) 1 gX2_least_X2_isTable rfl (by decide +kernel) (by decide) rfl rfl (Nat.le_of_ble_eq_true rfl) dX2_least_1 rfl (fun v1 hp1 => ?_)
  subst hp1
  show J p l e _ s m args below meth c 0 0 _ _ D A _ _ [_] _
  refine j_if_eq (tgt := 15) (pc' := 7) C dX2_least_4 (by decide) rfl (fun h4 => ?_) (fun h4 => ?_)
  · skip
    have hF : mLeast t tb a b = (-1, t) := by rw [mLeast, if_pos (Or.inl h4)]
    refine j_iconst (pc' := 16) C dX2_least_15 rfl (-1) (by decide) ?_
    refine j_ireturn _ C dX2_least_16 ?_
    exact ⟨by rw [hF] <;> rfl, by rw [hF] <;> rfl⟩
  · skip
    obtain ⟨i, hi, rfl⟩ := isTb h4
    refine j_iload_n (pc' := 8) C dX2_least_7 rfl rfl ?_
    refine j_iload_n (pc' := 9) C dX2_least_8 rfl rfl ?_
    refine jc_nil (pc' := 12) C (c_isSpanM l D cI cO _ _) 2 gX2_least_X2_isSpan rfl (by decide +kernel) (by decide) rfl rfl (Nat.le_of_ble_eq_true rfl) dX2_least_9 rfl (fun v1 hp1 => ?_)
    subst hp1
    show J p l e _ s m args below meth c 0 0 _ _ D A _ _ [_] _
    refine j_if_ne (tgt := 17) (pc' := 15) C dX2_least_12 (by decide) rfl (fun h12 => ?_) (fun h12 => ?_)
    · skip
      have hF0 : mLeast t (nI i) a b = (- (closF t i).2 9 (65 * b.toNatClampNeg + a.toNatClampNeg), closF t i) := by rw [mLeast, nI_clamp (by omega), if_neg (fun q => q.elim h4 h12)]
      obtain ⟨x, y, hxy, hy, rfl, rfl⟩ := isSpanF_1 h12
      rw [nI_clamp (show x < 2 ^ 31 by omega), nI_clamp (show y < 2 ^ 31 by omega)] at hF0
      refine j_aload_n (pc' := 18) C dX2_least_17 rfl rfl ?_
      refine j_iload_n (pc' := 19) C dX2_least_18 rfl rfl ?_
      refine jc_same (pc' := 22) C (c_closes l D cI cO B t hok (nI i) i rfl hi) 1 gX2_least_X2_closes rfl (by decide +kernel) (by decide) rfl rfl (by decide) 2 10 rfl rfl (wM_obj cI B _) (wM_addr cI B _) dX2_least_19 rfl (fun v1 u1 hp1 => ?_)
      obtain ⟨rfl, rfl⟩ := hp1
      show J p l e _ s m args below meth c 0 0 _ _ D A _ _ [] _
      have hokc : okM (closF t i) := (closF_same t i).ok hok
      refine j_aload_n (pc' := 23) C dX2_least_22 rfl rfl ?_
      refine j_iload_n (pc' := 24) C dX2_least_23 rfl rfl ?_
      refine j_iload_n (pc' := 25) C dX2_least_24 rfl rfl ?_
      refine jc_same (pc' := 28) C (c_most l D cI cO B (closF t i) (nI y) (nI x) (y) (x) rfl rfl (by omega) (by omega)) 2 gX2_least_X2_most rfl (by decide +kernel) (by decide) rfl rfl (Nat.le_of_ble_eq_true rfl) 2 10 rfl rfl (wM_obj cI B _) (wM_addr cI B _) dX2_least_25 rfl (fun v1 u1 hp1 => ?_)
      obtain ⟨rfl, hu1⟩ := hp1
      rw [hu1]
      clear hu1 u1
      show J p l e _ s m args below meth c 0 0 _ _ D A _ _ [_] _
      refine j_ineg (pc' := 29) C dX2_least_28 rfl ?_
      refine j_ireturn _ C dX2_least_29 ?_
      exact ⟨by rw [hF0] <;> rfl, by rw [hF0] <;> rfl⟩
      
      
    · skip
      have hF : mLeast t (nI i) a b = (-1, t) := by rw [mLeast, if_pos (Or.inr h12)]
      refine j_iconst (pc' := 16) C dX2_least_15 rfl (-1) (by decide) ?_
      refine j_ireturn _ C dX2_least_16 ?_
      exact ⟨by rw [hF] <;> rfl, by rw [hF] <;> rfl⟩
    
  
set_option maxRecDepth 100000 in
set_option maxHeartbeats 4000000 in
theorem c_Mgreatest (l : Launch) (D : va_G) (cI cO : ClassId) (B : Nat → Nat) (t : TS) (hok : okM t) (tb a b : Int32) : Kt l yX2_greatest wsX2_greatest 3 (wM cI B) D cI cO (fun _ => True) [.ref (B 10), .int tb, .int a, .int b] t (fun r u => r = some (.int (mGreatest t tb a b).1) ∧ u = (mGreatest t tb a b).2) := by
  refine Kt_of (cc := cX2_greatest) (n := 4) (ret := some .int) rfl (by decide +kernel) (Nat.le_of_ble_eq_true rfl) rfl [some (.ref (B 10)), some (.int tb), some (.int a), some (.int b)] rfl ?_
  intro p e s m args below meth c A C _ _
  have hinM : ∀ w ∈ wsX20, w ∈ wsX2_greatest := by decide +kernel
  refine j_iload_n (pc' := 1) C dX2_greatest_0 rfl rfl ?_
  refine jc_nil (pc' := 4) C (c_isTable l D cI cO _) 1 gX2_greatest_X2_isTable rfl (by decide +kernel) (by decide) rfl rfl (Nat.le_of_ble_eq_true rfl) dX2_greatest_1 rfl (fun v1 hp1 => ?_)
  subst hp1
  show J p l e _ s m args below meth c 0 0 _ _ D A _ _ [_] _
  refine j_if_eq (tgt := 15) (pc' := 7) C dX2_greatest_4 (by decide) rfl (fun h4 => ?_) (fun h4 => ?_)
  · skip
    have hF : mGreatest t tb a b = (-1, t) := by rw [mGreatest, if_pos (Or.inl h4)]
    refine j_iconst (pc' := 16) C dX2_greatest_15 rfl (-1) (by decide) ?_
    refine j_ireturn _ C dX2_greatest_16 ?_
    exact ⟨by rw [hF] <;> rfl, by rw [hF] <;> rfl⟩
  · skip
    obtain ⟨i, hi, rfl⟩ := isTb h4
    refine j_iload_n (pc' := 8) C dX2_greatest_7 rfl rfl ?_
    refine j_iload_n (pc' := 9) C dX2_greatest_8 rfl rfl ?_
    refine jc_nil (pc' := 12) C (c_isSpanM l D cI cO _ _) 2 gX2_greatest_X2_isSpan rfl (by decide +kernel) (by decide) rfl rfl (Nat.le_of_ble_eq_true rfl) dX2_greatest_9 rfl (fun v1 hp1 => ?_)
    subst hp1
    show J p l e _ s m args below meth c 0 0 _ _ D A _ _ [_] _
    refine j_if_ne (tgt := 17) (pc' := 15) C dX2_greatest_12 (by decide) rfl (fun h12 => ?_) (fun h12 => ?_)
    · skip
      have hF0 : mGreatest t (nI i) a b = ((closF t i).2 9 (65 * a.toNatClampNeg + b.toNatClampNeg), closF t i) := by rw [mGreatest, nI_clamp (by omega), if_neg (fun q => q.elim h4 h12)]
      obtain ⟨x, y, hxy, hy, rfl, rfl⟩ := isSpanF_1 h12
      rw [nI_clamp (show x < 2 ^ 31 by omega), nI_clamp (show y < 2 ^ 31 by omega)] at hF0
      refine j_aload_n (pc' := 18) C dX2_greatest_17 rfl rfl ?_
      refine j_iload_n (pc' := 19) C dX2_greatest_18 rfl rfl ?_
      refine jc_same (pc' := 22) C (c_closes l D cI cO B t hok (nI i) i rfl hi) 1 gX2_greatest_X2_closes rfl (by decide +kernel) (by decide) rfl rfl (by decide) 2 10 rfl rfl (wM_obj cI B _) (wM_addr cI B _) dX2_greatest_19 rfl (fun v1 u1 hp1 => ?_)
      obtain ⟨rfl, rfl⟩ := hp1
      show J p l e _ s m args below meth c 0 0 _ _ D A _ _ [] _
      have hokc : okM (closF t i) := (closF_same t i).ok hok
      refine j_aload_n (pc' := 23) C dX2_greatest_22 rfl rfl ?_
      refine j_iload_n (pc' := 24) C dX2_greatest_23 rfl rfl ?_
      refine j_iload_n (pc' := 25) C dX2_greatest_24 rfl rfl ?_
      refine jc_same (pc' := 28) C (c_most l D cI cO B (closF t i) (nI x) (nI y) (x) (y) rfl rfl (by omega) (by omega)) 2 gX2_greatest_X2_most rfl (by decide +kernel) (by decide) rfl rfl (Nat.le_of_ble_eq_true rfl) 2 10 rfl rfl (wM_obj cI B _) (wM_addr cI B _) dX2_greatest_25 rfl (fun v1 u1 hp1 => ?_)
      obtain ⟨rfl, hu1⟩ := hp1
      rw [hu1]
      clear hu1 u1
      show J p l e _ s m args below meth c 0 0 _ _ D A _ _ [_] _
      refine j_ireturn _ C dX2_greatest_28 ?_
      exact ⟨by rw [hF0] <;> rfl, by rw [hF0] <;> rfl⟩
      
      
    · skip
      have hF : mGreatest t (nI i) a b = (-1, t) := by rw [mGreatest, if_pos (Or.inr h12)]
      refine j_iconst (pc' := 16) C dX2_greatest_15 rfl (-1) (by decide) ?_
      refine j_ireturn _ C dX2_greatest_16 ?_
      exact ⟨by rw [hF] <;> rfl, by rw [hF] <;> rfl⟩
    
  
set_option maxRecDepth 100000 in
set_option maxHeartbeats 4000000 in
theorem c_many (l : Launch) (D : va_G) (cI cO : ClassId) (B : Nat → Nat) (t : TS) (hok : okM t) (tb st : Int32) (i : Nat) (et : tb = nI i) (hi : i < 3) : Kt l yX2_many wsX2_many 3 (wM cI B) D cI cO (fun _ => True) [.ref (B 10), .int tb, .int st] t (fun r u => r = some (.int (manyF t i st)) ∧ u = closF t i) := by
  refine Kt_of (cc := cX2_many) (n := 5) (ret := some .int) rfl (by decide +kernel) (Nat.le_of_ble_eq_true rfl) rfl [some (.ref (B 10)), some (.int tb), some (.int st), none, none] rfl ?_
  intro p e s m args below meth c A C _ _
  have hinM : ∀ w ∈ wsX20, w ∈ wsX2_many := by decide +kernel
  subst et
  obtain ⟨en, hn41⟩ := vp_in_c (hok i hi).1 (by decide)
  obtain ⟨N, hN⟩ : ∃ N, N = (t.2 1 i).toNatClampNeg := ⟨_, rfl⟩
  rw [← hN] at en hn41
  have en2 : (closF t i).2 1 i = nI N := by rw [closF_same t i 1 (by decide) (by decide)]; exact en
  have loop : ∀ (k j : Nat), j + k = N → J p l e (rmH 3) s m args below meth c 0 0 (RQ below args s D (wM cI B) (fun r u => r = some (.int (manyF t i st)) ∧ u = closF t i) A) 5 D A 13 [some (.ref (B 10)), some (.int (nI i)), some (.int st), some (.int (cntR ((closF t i).2 7) st (40 * i) j)), some (.int (nI (40 * i + j)))] [] (wM cI B (closF t i)) := by
    intro k
    induction k with
    | zero =>
      intro j hj
      have hj2 : j = N := by omega
      subst hj2
      refine j_iload (pc' := 15) C dX2_many_13 rfl rfl ?_
      refine j_bipush (pc' := 17) C dX2_many_15 rfl 40 (by decide) ?_
      refine j_iload_n (pc' := 18) C dX2_many_17 rfl rfl ?_
      refine j_imul (pc' := 19) C dX2_many_18 rfl ?_
      refine j_aload_n (pc' := 20) C dX2_many_19 rfl rfl ?_
      refine jMa (pc' := 23) C dX2_many_20 rfl 1 (by decide) hinM (by decide +kernel) ?_
      refine j_iload_n (pc' := 24) C dX2_many_23 rfl rfl ?_
      refine jMlN (pc' := 25) C dX2_many_24 rfl 1 (by decide) i rfl (by unfold lenM; simp; omega) ?_
      refine j_iadd (pc' := 26) C dX2_many_25 rfl ?_
      refine j_icmp_ge (tgt := 54) (pc' := 29) C dX2_many_26 (by decide) rfl (fun h26 => ?_) (fun h26 => ?_)
      · skip
        refine j_iload_n (pc' := 55) C dX2_many_54 rfl rfl ?_
        refine j_ireturn _ C dX2_many_55 ?_
        exact ⟨by rw [manyF, ← hN], rfl⟩
      · skip
        exact absurd (by rw [en2, e40]; exact nI_le (Nat.le_refl _) (by omega)) h26 -- done
    | succ k ih =>
      intro j hj
      have h46 : ∀ x : Int32, x = (if (closF t i).2 7 (40 * i + j) = st then 1 else 0) → J p l e (rmH 3) s m args below meth c 0 0 (RQ below args s D (wM cI B) (fun r u => r = some (.int (manyF t i st)) ∧ u = closF t i) A) 5 D A 46 [some (.ref (B 10)), some (.int (nI i)), some (.int st), some (.int (cntR ((closF t i).2 7) st (40 * i) j)), some (.int (nI (40 * i + j)))] [.int x, .int (cntR ((closF t i).2 7) st (40 * i) j)] (wM cI B (closF t i)) := by
        intro x ex
        refine j_iadd (pc' := 47) C dX2_many_46 rfl ?_
        refine j_istore_n (pc' := 48) C dX2_many_47 rfl (by decide) rfl ?_
        refine j_iinc (pc' := 51) C dX2_many_48 rfl 1 (by decide) rfl (by decide) rfl ?_
        refine j_goto (pc' := 13) C dX2_many_51 (by decide) ?_
        rw [nI_1, ex]
        exact ih (j + 1) (by omega)
      refine j_iload (pc' := 15) C dX2_many_13 rfl rfl ?_
      refine j_bipush (pc' := 17) C dX2_many_15 rfl 40 (by decide) ?_
      refine j_iload_n (pc' := 18) C dX2_many_17 rfl rfl ?_
      refine j_imul (pc' := 19) C dX2_many_18 rfl ?_
      refine j_aload_n (pc' := 20) C dX2_many_19 rfl rfl ?_
      refine jMa (pc' := 23) C dX2_many_20 rfl 1 (by decide) hinM (by decide +kernel) ?_
      refine j_iload_n (pc' := 24) C dX2_many_23 rfl rfl ?_
      refine jMlN (pc' := 25) C dX2_many_24 rfl 1 (by decide) i rfl (by unfold lenM; simp; omega) ?_
      refine j_iadd (pc' := 26) C dX2_many_25 rfl ?_
      refine j_icmp_ge (tgt := 54) (pc' := 29) C dX2_many_26 (by decide) rfl (fun h26 => ?_) (fun h26 => ?_)
      · skip
        exact absurd h26 (by rw [en2, e40]; exact nI_ge (by omega) (by omega)) -- done
      · skip
        refine j_iload_n (pc' := 30) C dX2_many_29 rfl rfl ?_
        refine j_aload_n (pc' := 31) C dX2_many_30 rfl rfl ?_
        refine jMa (pc' := 34) C dX2_many_31 rfl 7 (by decide) hinM (by decide +kernel) ?_
        refine j_iload (pc' := 36) C dX2_many_34 rfl rfl ?_
        refine jMlN (pc' := 37) C dX2_many_36 rfl 7 (by decide) (40 * i + j) rfl (by unfold lenM; simp; omega) ?_
        refine j_iload_n (pc' := 38) C dX2_many_37 rfl rfl ?_
        refine j_icmp_ne (tgt := 45) (pc' := 41) C dX2_many_38 (by decide) rfl (fun h38 => ?_) (fun h38 => ?_)
        · skip
          refine j_iconst (pc' := 46) C dX2_many_45 rfl 0 (by decide) ?_
          first | exact h46 _ (if_pos h38).symm | exact h46 _ (if_neg h38).symm
        · skip
          refine j_iconst (pc' := 42) C dX2_many_41 rfl 1 (by decide) ?_
          refine j_goto (pc' := 46) C dX2_many_42 (by decide) ?_
          first | exact h46 _ (if_pos h38).symm | exact h46 _ (if_neg h38).symm
  refine j_aload_n (pc' := 1) C dX2_many_0 rfl rfl ?_
  refine j_iload_n (pc' := 2) C dX2_many_1 rfl rfl ?_
  refine jc_same (pc' := 5) C (c_closes l D cI cO B t hok (nI i) i rfl hi) 1 gX2_many_X2_closes rfl (by decide +kernel) (by decide) rfl rfl (by decide) 2 10 rfl rfl (wM_obj cI B _) (wM_addr cI B _) dX2_many_2 rfl (fun v1 u1 hp1 => ?_)
  obtain ⟨rfl, rfl⟩ := hp1
  show J p l e _ s m args below meth c 0 0 _ _ D A _ _ [] _
  have hokc : okM (closF t i) := (closF_same t i).ok hok
  refine j_iconst (pc' := 6) C dX2_many_5 rfl 0 (by decide) ?_
  refine j_istore_n (pc' := 7) C dX2_many_6 rfl (by decide) rfl ?_
  refine j_bipush (pc' := 9) C dX2_many_7 rfl 40 (by decide) ?_
  refine j_iload_n (pc' := 10) C dX2_many_9 rfl rfl ?_
  refine j_imul (pc' := 11) C dX2_many_10 rfl ?_
  refine j_istore (pc' := 13) C dX2_many_11 rfl (by decide) rfl ?_
  rw [show (40 : Int32) * nI i = nI (40 * i + 0) from pk_mul 40 i]
  exact loop N 0 (by omega)
  
set_option maxRecDepth 100000 in
set_option maxHeartbeats 4000000 in
theorem c_Mtable (l : Launch) (D : va_G) (cI cO : ClassId) (B : Nat → Nat) (t : TS) (hok : okM t) (tb w : Int32) : Kt l yX2_table wsX2_table 4 (wM cI B) D cI cO (fun _ => True) [.ref (B 10), .int tb, .int w] t (fun r u => r = some (.int (mTable t tb w).1) ∧ u = (mTable t tb w).2) := by
  refine Kt_of (cc := cX2_table) (n := 3) (ret := some .int) rfl (by decide +kernel) (Nat.le_of_ble_eq_true rfl) rfl [some (.ref (B 10)), some (.int tb), some (.int w)] rfl ?_
  intro p e s m args below meth c A C _ _
  have hinM : ∀ w ∈ wsX20, w ∈ wsX2_table := by decide +kernel
  refine j_iload_n (pc' := 1) C dX2_table_0 rfl rfl ?_
  refine jc_nil (pc' := 4) C (c_isTable l D cI cO _) 1 gX2_table_X2_isTable rfl (by decide +kernel) (by decide) rfl rfl (Nat.le_of_ble_eq_true rfl) dX2_table_1 rfl (fun v1 hp1 => ?_)
  subst hp1
  show J p l e _ s m args below meth c 0 0 _ _ D A _ _ [_] _
  refine j_if_ne (tgt := 9) (pc' := 7) C dX2_table_4 (by decide) rfl (fun h4 => ?_) (fun h4 => ?_)
  · skip
    obtain ⟨i, hi, rfl⟩ := isTb h4
    refine j_iload_n (pc' := 10) C dX2_table_9 rfl rfl ?_
    by_cases hw : w.toInt < 0 ∨ 5 < w.toInt
    · have hne : ∀ q : Nat, q ≤ 5 → ¬ w = nI q := by
        intro q hq e
        rw [e, nI_toInt (by omega)] at hw
        omega
      have hF : mTable t (nI i) w = (-1, t) := by
        rw [mTable, if_neg h4, if_neg (show ¬ w = 0 from hne 0 (by decide)), if_neg (show ¬ w = 1 from hne 1 (by decide)), if_neg (show ¬ w = 2 from hne 2 (by decide)), if_neg (show ¬ w = 3 from hne 3 (by decide)), if_neg (show ¬ w = 4 from hne 4 (by decide)), if_neg (show ¬ w = 5 from hne 5 (by decide))]
      refine j_swOut (pc' := 90) C dX2_table_10 (by decide) hw ?_
      refine j_iconst (pc' := 91) C dX2_table_90 rfl (-1) (by decide) ?_
      refine j_ireturn _ C dX2_table_91 ?_
      exact ⟨by rw [hF] <;> rfl, by rw [hF] <;> rfl⟩
    · obtain ⟨q, hq, rfl⟩ : ∃ q : Nat, q ≤ 5 ∧ w = nI q := by
        refine nI_of2 (M := 5) (n := 5) (by decide) ?_ ?_
        · intro z
          rw [Int32.lt_iff_toInt_lt] at z
          exact hw (Or.inl z)
        · rw [Int32.le_iff_toInt_le]
          have : (5 : Int32).toInt = 5 := rfl
          omega
      rcases (show q = 0 ∨ q = 1 ∨ q = 2 ∨ q = 3 ∨ q = 4 ∨ q = 5 by omega) with rfl | rfl | rfl | rfl | rfl | rfl
      · have hF : mTable t (nI i) (nI 0) = (t.2 0 i, t) := by rw [mTable, if_neg h4, nI_clamp (by omega), if_pos (show nI 0 = 0 by decide)]
        refine j_swIn (pc' := 48) (off := 38) C dX2_table_10 (by decide) (by decide) (by decide) (by decide) ?_
        refine j_aload_n (pc' := 49) C dX2_table_48 rfl rfl ?_
        refine jMa (pc' := 52) C dX2_table_49 rfl 0 (by decide) hinM (by decide +kernel) ?_
        refine j_iload_n (pc' := 53) C dX2_table_52 rfl rfl ?_
        refine jMlN (pc' := 54) C dX2_table_53 rfl 0 (by decide) i rfl (by unfold lenM; simp; omega) ?_
        refine j_ireturn _ C dX2_table_54 ?_
        exact ⟨by rw [hF] <;> rfl, by rw [hF] <;> rfl⟩
      · have hF : mTable t (nI i) (nI 1) = (t.2 1 i, t) := by rw [mTable, if_neg h4, nI_clamp (by omega), if_neg (show ¬ nI 1 = 0 by decide), if_pos (show nI 1 = 1 by decide)]
        refine j_swIn (pc' := 55) (off := 45) C dX2_table_10 (by decide) (by decide) (by decide) (by decide) ?_
        refine j_aload_n (pc' := 56) C dX2_table_55 rfl rfl ?_
        refine jMa (pc' := 59) C dX2_table_56 rfl 1 (by decide) hinM (by decide +kernel) ?_
        refine j_iload_n (pc' := 60) C dX2_table_59 rfl rfl ?_
        refine jMlN (pc' := 61) C dX2_table_60 rfl 1 (by decide) i rfl (by unfold lenM; simp; omega) ?_
        refine j_ireturn _ C dX2_table_61 ?_
        exact ⟨by rw [hF] <;> rfl, by rw [hF] <;> rfl⟩
      · have hF : mTable t (nI i) (nI 2) = (manyF t i 0, closF t i) := by rw [mTable, if_neg h4, nI_clamp (by omega), if_neg (show ¬ nI 2 = 0 by decide), if_neg (show ¬ nI 2 = 1 by decide), if_pos (show nI 2 = 2 by decide)]
        refine j_swIn (pc' := 62) (off := 52) C dX2_table_10 (by decide) (by decide) (by decide) (by decide) ?_
        refine j_aload_n (pc' := 63) C dX2_table_62 rfl rfl ?_
        refine j_iload_n (pc' := 64) C dX2_table_63 rfl rfl ?_
        refine j_iconst (pc' := 65) C dX2_table_64 rfl 0 (by decide) ?_
        refine jc_same (pc' := 68) C (c_many l D cI cO B t hok (nI i) 0 i rfl hi) 2 gX2_table_X2_many rfl (by decide +kernel) (by decide) rfl rfl (by decide) 2 10 rfl rfl (wM_obj cI B _) (wM_addr cI B _) dX2_table_65 rfl (fun v1 u1 hp1 => ?_)
        obtain ⟨rfl, rfl⟩ := hp1
        show J p l e _ s m args below meth c 0 0 _ _ D A _ _ [_] _
        refine j_ireturn _ C dX2_table_68 ?_
        exact ⟨by rw [hF] <;> rfl, by rw [hF] <;> rfl⟩
        
      · have hF : mTable t (nI i) (nI 3) = (manyF t i 1, closF t i) := by rw [mTable, if_neg h4, nI_clamp (by omega), if_neg (show ¬ nI 3 = 0 by decide), if_neg (show ¬ nI 3 = 1 by decide), if_neg (show ¬ nI 3 = 2 by decide), if_pos (show nI 3 = 3 by decide)]
        refine j_swIn (pc' := 69) (off := 59) C dX2_table_10 (by decide) (by decide) (by decide) (by decide) ?_
        refine j_aload_n (pc' := 70) C dX2_table_69 rfl rfl ?_
        refine j_iload_n (pc' := 71) C dX2_table_70 rfl rfl ?_
        refine j_iconst (pc' := 72) C dX2_table_71 rfl 1 (by decide) ?_
        refine jc_same (pc' := 75) C (c_many l D cI cO B t hok (nI i) 1 i rfl hi) 2 gX2_table_X2_many rfl (by decide +kernel) (by decide) rfl rfl (by decide) 2 10 rfl rfl (wM_obj cI B _) (wM_addr cI B _) dX2_table_72 rfl (fun v1 u1 hp1 => ?_)
        obtain ⟨rfl, rfl⟩ := hp1
        show J p l e _ s m args below meth c 0 0 _ _ D A _ _ [_] _
        refine j_ireturn _ C dX2_table_75 ?_
        exact ⟨by rw [hF] <;> rfl, by rw [hF] <;> rfl⟩
        
      · have hF : mTable t (nI i) (nI 4) = (manyF t i 2, closF t i) := by rw [mTable, if_neg h4, nI_clamp (by omega), if_neg (show ¬ nI 4 = 0 by decide), if_neg (show ¬ nI 4 = 1 by decide), if_neg (show ¬ nI 4 = 2 by decide), if_neg (show ¬ nI 4 = 3 by decide), if_pos (show nI 4 = 4 by decide)]
        refine j_swIn (pc' := 76) (off := 66) C dX2_table_10 (by decide) (by decide) (by decide) (by decide) ?_
        refine j_aload_n (pc' := 77) C dX2_table_76 rfl rfl ?_
        refine j_iload_n (pc' := 78) C dX2_table_77 rfl rfl ?_
        refine j_iconst (pc' := 79) C dX2_table_78 rfl 2 (by decide) ?_
        refine jc_same (pc' := 82) C (c_many l D cI cO B t hok (nI i) 2 i rfl hi) 2 gX2_table_X2_many rfl (by decide +kernel) (by decide) rfl rfl (by decide) 2 10 rfl rfl (wM_obj cI B _) (wM_addr cI B _) dX2_table_79 rfl (fun v1 u1 hp1 => ?_)
        obtain ⟨rfl, rfl⟩ := hp1
        show J p l e _ s m args below meth c 0 0 _ _ D A _ _ [_] _
        refine j_ireturn _ C dX2_table_82 ?_
        exact ⟨by rw [hF] <;> rfl, by rw [hF] <;> rfl⟩
        
      · have hF : mTable t (nI i) (nI 5) = (t.2 2 i, t) := by rw [mTable, if_neg h4, nI_clamp (by omega), if_neg (show ¬ nI 5 = 0 by decide), if_neg (show ¬ nI 5 = 1 by decide), if_neg (show ¬ nI 5 = 2 by decide), if_neg (show ¬ nI 5 = 3 by decide), if_neg (show ¬ nI 5 = 4 by decide), if_pos (show nI 5 = 5 by decide)]
        refine j_swIn (pc' := 83) (off := 73) C dX2_table_10 (by decide) (by decide) (by decide) (by decide) ?_
        refine j_aload_n (pc' := 84) C dX2_table_83 rfl rfl ?_
        refine jMa (pc' := 87) C dX2_table_84 rfl 2 (by decide) hinM (by decide +kernel) ?_
        refine j_iload_n (pc' := 88) C dX2_table_87 rfl rfl ?_
        refine jMlN (pc' := 89) C dX2_table_88 rfl 2 (by decide) i rfl (by unfold lenM; simp; omega) ?_
        refine j_ireturn _ C dX2_table_89 ?_
        exact ⟨by rw [hF] <;> rfl, by rw [hF] <;> rfl⟩
    
  · skip
    have hF : mTable t tb w = (-1, t) := by rw [mTable, if_pos (h4)]
    refine j_iconst (pc' := 8) C dX2_table_7 rfl (-1) (by decide) ?_
    refine j_ireturn _ C dX2_table_8 ?_
    exact ⟨by rw [hF] <;> rfl, by rw [hF] <;> rfl⟩
  
set_option maxRecDepth 100000 in
set_option maxHeartbeats 4000000 in
theorem c_Magrees (l : Launch) (D : va_G) (cI cO : ClassId) (B : Nat → Nat) (t : TS) (hok : okM t) (tb : Int32) : Kt l yX2_agrees wsX2_agrees 3 (wM cI B) D cI cO (fun _ => True) [.ref (B 10), .int tb] t (fun r u => r = some (.int (mAgrees t tb).1) ∧ u = (mAgrees t tb).2) := by
  refine Kt_of (cc := cX2_agrees) (n := 6) (ret := some .int) rfl (by decide +kernel) (Nat.le_of_ble_eq_true rfl) rfl [some (.ref (B 10)), some (.int tb), none, none, none, none] rfl ?_
  intro p e s m args below meth c A C _ _
  have hinM : ∀ w ∈ wsX20, w ∈ wsX2_agrees := by decide +kernel
  refine j_iload_n (pc' := 1) C dX2_agrees_0 rfl rfl ?_
  refine jc_nil (pc' := 4) C (c_isTable l D cI cO _) 1 gX2_agrees_X2_isTable rfl (by decide +kernel) (by decide) rfl rfl (Nat.le_of_ble_eq_true rfl) dX2_agrees_1 rfl (fun v1 hp1 => ?_)
  subst hp1
  show J p l e _ s m args below meth c 0 0 _ _ D A _ _ [_] _
  refine j_if_ne (tgt := 9) (pc' := 7) C dX2_agrees_4 (by decide) rfl (fun h4 => ?_) (fun h4 => ?_)
  · skip
    obtain ⟨i, hi, rfl⟩ := isTb h4
    refine j_aload_n (pc' := 10) C dX2_agrees_9 rfl rfl ?_
    refine j_iload_n (pc' := 11) C dX2_agrees_10 rfl rfl ?_
    refine jc_same (pc' := 14) C (c_closes l D cI cO B t hok (nI i) i rfl hi) 1 gX2_agrees_X2_closes rfl (by decide +kernel) (by decide) rfl rfl (by decide) 2 10 rfl rfl (wM_obj cI B _) (wM_addr cI B _) dX2_agrees_11 rfl (fun v1 u1 hp1 => ?_)
    obtain ⟨rfl, rfl⟩ := hp1
    show J p l e _ s m args below meth c 0 0 _ _ D A _ _ [] _
    have hokc : okM (closF t i) := (closF_same t i).ok hok
    obtain ⟨en, hn41⟩ := vp_in_c (hok i hi).1 (by decide)
    obtain ⟨N, hN⟩ : ∃ N, N = (t.2 1 i).toNatClampNeg := ⟨_, rfl⟩
    rw [← hN] at en hn41
    have en2 : (closF t i).2 1 i = nI N := by rw [closF_same t i 1 (by decide) (by decide)]; exact en
    have hF : mAgrees t (nI i) = (if magF t i = 0 then 0 else 1, closF t i) := by rw [mAgrees, if_neg h4, nI_clamp (by omega)]
    have hft := (hokc i hi).2
    rw [en2, nI_clamp (by omega)] at hft
    have h140 : ∀ (a : Int32) (x3 x4 x5 : Option Value), a = magF t i → J p l e (rmH 3) s m args below meth c 0 0 (RQ below args s D (wM cI B) (fun r u => r = some (.int (mAgrees t (nI i)).1) ∧ u = (mAgrees t (nI i)).2) A) 6 D A 140 [some (.ref (B 10)), some (.int (nI i)), some (.int a), x3, x4, x5] [] (wM cI B (closF t i)) := by
      intro a x3 x4 x5 ea
      refine j_iload_n (pc' := 141) C dX2_agrees_140 rfl rfl ?_
      refine j_if_eq (tgt := 148) (pc' := 144) C dX2_agrees_141 (by decide) rfl (fun h141 => ?_) (fun h141 => ?_)
      · skip
        have hv : magF t i = 0 := by rw [← ea]; exact h141
        refine j_iconst (pc' := 149) C dX2_agrees_148 rfl 0 (by decide) ?_
        refine j_ireturn _ C dX2_agrees_149 ?_
        first | exact ⟨by rw [hF, if_pos hv], by rw [hF]⟩ | exact ⟨by rw [hF, if_neg hv], by rw [hF]⟩
      · skip
        have hv : ¬ magF t i = 0 := by rw [← ea]; exact h141
        refine j_iconst (pc' := 145) C dX2_agrees_144 rfl 1 (by decide) ?_
        refine j_goto (pc' := 149) C dX2_agrees_145 (by decide) ?_
        refine j_ireturn _ C dX2_agrees_149 ?_
        first | exact ⟨by rw [hF, if_pos hv], by rw [hF]⟩ | exact ⟨by rw [hF, if_neg hv], by rw [hF]⟩
    have loop : ∀ (k j : Nat) (a : Int32) (x4 x5 : Option Value), j + k = N → (a = 0 ∨ a = 1) → magL (closF t i) i k j a = magF t i → J p l e (rmH 3) s m args below meth c 0 0 (RQ below args s D (wM cI B) (fun r u => r = some (.int (mAgrees t (nI i)).1) ∧ u = (mAgrees t (nI i)).2) A) 6 D A 44 [some (.ref (B 10)), some (.int (nI i)), some (.int a), some (.int (nI (40 * i + j))), x4, x5] [] (wM cI B (closF t i)) := by
      intro k
      induction k with
      | zero =>
        intro j a x4 x5 hj ha hr
        have hj2 : j = N := by omega
        subst hj2
        refine j_iload_n (pc' := 45) C dX2_agrees_44 rfl rfl ?_
        refine j_bipush (pc' := 47) C dX2_agrees_45 rfl 40 (by decide) ?_
        refine j_iload_n (pc' := 48) C dX2_agrees_47 rfl rfl ?_
        refine j_imul (pc' := 49) C dX2_agrees_48 rfl ?_
        refine j_aload_n (pc' := 50) C dX2_agrees_49 rfl rfl ?_
        refine jMa (pc' := 53) C dX2_agrees_50 rfl 1 (by decide) hinM (by decide +kernel) ?_
        refine j_iload_n (pc' := 54) C dX2_agrees_53 rfl rfl ?_
        refine jMlN (pc' := 55) C dX2_agrees_54 rfl 1 (by decide) i rfl (by unfold lenM; simp; omega) ?_
        refine j_iadd (pc' := 56) C dX2_agrees_55 rfl ?_
        refine j_icmp_ge (tgt := 140) (pc' := 59) C dX2_agrees_56 (by decide) rfl (fun h56 => ?_) (fun h56 => ?_)
        · skip
          exact h140 _ _ _ _ hr
        · skip
          exact absurd (by rw [en2, e40]; exact nI_le (Nat.le_refl _) (by omega)) h56 -- done
      | succ k ih =>
        intro j a x4 x5 hj ha hr
        obtain ⟨ea, hal⟩ := vp_in_c (hft j (by omega)).1 (by decide)
        obtain ⟨eb, hbl⟩ := vp_in_c (hft j (by omega)).2 (by decide)
        have h133 : ∀ (x : Int32) (x4 x5 : Option Value), x = agV a (closF t i) i (40 * i + j) → J p l e (rmH 3) s m args below meth c 0 0 (RQ below args s D (wM cI B) (fun r u => r = some (.int (mAgrees t (nI i)).1) ∧ u = (mAgrees t (nI i)).2) A) 6 D A 133 [some (.ref (B 10)), some (.int (nI i)), some (.int a), some (.int (nI (40 * i + j))), x4, x5] [.int x] (wM cI B (closF t i)) := by
          intro x x4 x5 ex
          refine j_istore_n (pc' := 134) C dX2_agrees_133 rfl (by decide) rfl ?_
          refine j_iinc (pc' := 137) C dX2_agrees_134 rfl 1 (by decide) rfl (by decide) rfl ?_
          refine j_goto (pc' := 44) C dX2_agrees_137 (by decide) ?_
          rw [nI_1]
          exact ih (j + 1) x _ _ (by omega) (by rw [ex]; exact agV_01 _ _ _ _) (by rw [ex]; exact hr)
        refine j_iload_n (pc' := 45) C dX2_agrees_44 rfl rfl ?_
        refine j_bipush (pc' := 47) C dX2_agrees_45 rfl 40 (by decide) ?_
        refine j_iload_n (pc' := 48) C dX2_agrees_47 rfl rfl ?_
        refine j_imul (pc' := 49) C dX2_agrees_48 rfl ?_
        refine j_aload_n (pc' := 50) C dX2_agrees_49 rfl rfl ?_
        refine jMa (pc' := 53) C dX2_agrees_50 rfl 1 (by decide) hinM (by decide +kernel) ?_
        refine j_iload_n (pc' := 54) C dX2_agrees_53 rfl rfl ?_
        refine jMlN (pc' := 55) C dX2_agrees_54 rfl 1 (by decide) i rfl (by unfold lenM; simp; omega) ?_
        refine j_iadd (pc' := 56) C dX2_agrees_55 rfl ?_
        refine j_icmp_ge (tgt := 140) (pc' := 59) C dX2_agrees_56 (by decide) rfl (fun h56 => ?_) (fun h56 => ?_)
        · skip
          exact absurd h56 (by rw [en2, e40]; exact nI_ge (by omega) (by omega)) -- done
        · skip
          refine j_aload_n (pc' := 60) C dX2_agrees_59 rfl rfl ?_
          refine j_iload_n (pc' := 61) C dX2_agrees_60 rfl rfl ?_
          refine j_aload_n (pc' := 62) C dX2_agrees_61 rfl rfl ?_
          refine jMa (pc' := 65) C dX2_agrees_62 rfl 3 (by decide) hinM (by decide +kernel) ?_
          refine j_iload_n (pc' := 66) C dX2_agrees_65 rfl rfl ?_
          refine jMlN (pc' := 67) C dX2_agrees_66 rfl 3 (by decide) (40 * i + j) rfl (by unfold lenM; simp; omega) ?_
          refine j_aload_n (pc' := 68) C dX2_agrees_67 rfl rfl ?_
          refine jMa (pc' := 71) C dX2_agrees_68 rfl 4 (by decide) hinM (by decide +kernel) ?_
          refine j_iload_n (pc' := 72) C dX2_agrees_71 rfl rfl ?_
          refine jMlN (pc' := 73) C dX2_agrees_72 rfl 4 (by decide) (40 * i + j) rfl (by unfold lenM; simp; omega) ?_
          refine jc_same (pc' := 76) C (c_trueIn l D cI cO B (closF t i) (nI i) (((closF t i).2 3 (40 * i + j))) (((closF t i).2 4 (40 * i + j))) i (((closF t i).2 3 (40 * i + j)).toNatClampNeg) (((closF t i).2 4 (40 * i + j)).toNatClampNeg) rfl ea eb hi (by omega) (by omega)) 3 gX2_agrees_X2_trueIn rfl (by decide +kernel) (by decide) rfl rfl (Nat.le_of_ble_eq_true rfl) 2 10 rfl rfl (wM_obj cI B _) (wM_addr cI B _) dX2_agrees_73 rfl (fun v1 u1 hp1 => ?_)
          obtain ⟨rfl, hu1⟩ := hp1
          rw [hu1]
          clear hu1 u1
          show J p l e _ s m args below meth c 0 0 _ _ D A _ _ [_] _
          refine j_lstore (pc' := 78) C dX2_agrees_76 rfl (by decide) rfl ?_
          refine j_iload_n (pc' := 79) C dX2_agrees_78 rfl rfl ?_
          refine j_if_eq (tgt := 132) (pc' := 82) C dX2_agrees_79 (by decide) rfl (fun h79 => ?_) (fun h79 => ?_)
          · skip
            have hv : agV a (closF t i) i (40 * i + j) = 0 := by rw [agV, if_pos h79]
            refine j_iconst (pc' := 133) C dX2_agrees_132 rfl 0 (by decide) ?_
            exact h133 _ _ _ hv.symm
          · skip
            refine j_aload_n (pc' := 83) C dX2_agrees_82 rfl rfl ?_
            refine jMa (pc' := 86) C dX2_agrees_83 rfl 7 (by decide) hinM (by decide +kernel) ?_
            refine j_iload_n (pc' := 87) C dX2_agrees_86 rfl rfl ?_
            refine jMlN (pc' := 88) C dX2_agrees_87 rfl 7 (by decide) (40 * i + j) rfl (by unfold lenM; simp; omega) ?_
            refine j_if_ne (tgt := 128) (pc' := 91) C dX2_agrees_88 (by decide) rfl (fun h88 => ?_) (fun h88 => ?_)
            · skip
              have hv : agV a (closF t i) i (40 * i + j) = 1 := by rw [agV, if_neg h79, if_pos h88]
              refine j_iconst (pc' := 129) C dX2_agrees_128 rfl 1 (by decide) ?_
              refine j_goto (pc' := 133) C dX2_agrees_129 (by decide) ?_
              exact h133 _ _ _ hv.symm
            · skip
              refine j_lload (pc' := 93) C dX2_agrees_91 rfl rfl ?_
              refine j_aload_n (pc' := 94) C dX2_agrees_93 rfl rfl ?_
              refine jMa (pc' := 97) C dX2_agrees_94 rfl 5 (by decide) hinM (by decide +kernel) ?_
              refine j_iload_n (pc' := 98) C dX2_agrees_97 rfl rfl ?_
              refine jMlN (pc' := 99) C dX2_agrees_98 rfl 5 (by decide) (40 * i + j) rfl (by unfold lenM; simp; omega) ?_
              refine j_i2l (pc' := 100) C dX2_agrees_99 rfl ?_
              refine j_lcmp (pc' := 101) C dX2_agrees_100 rfl ?_
              refine j_if_lt (tgt := 132) (pc' := 104) C dX2_agrees_101 (by decide) rfl (fun h101 => ?_) (fun h101 => ?_)
              · skip
                have hv : agV a (closF t i) i (40 * i + j) = 0 := by rw [agV, if_neg h79, if_neg (fun q => q h88), if_pos h101]
                refine j_iconst (pc' := 133) C dX2_agrees_132 rfl 0 (by decide) ?_
                exact h133 _ _ _ hv.symm
              · skip
                refine j_aload_n (pc' := 105) C dX2_agrees_104 rfl rfl ?_
                refine jMa (pc' := 108) C dX2_agrees_105 rfl 6 (by decide) hinM (by decide +kernel) ?_
                refine j_iload_n (pc' := 109) C dX2_agrees_108 rfl rfl ?_
                refine jMlN (pc' := 110) C dX2_agrees_109 rfl 6 (by decide) (40 * i + j) rfl (by unfold lenM; simp; omega) ?_
                refine j_ldc (pc' := 112) C dX2_agrees_110 rfl 1000001 (by decide +kernel) ?_
                refine j_icmp_eq (tgt := 128) (pc' := 115) C dX2_agrees_112 (by decide) rfl (fun h112 => ?_) (fun h112 => ?_)
                · skip
                  have hv : agV a (closF t i) i (40 * i + j) = 1 := by rw [agV, if_neg h79, if_neg (fun q => q h88), if_neg h101, if_pos h112]
                  refine j_iconst (pc' := 129) C dX2_agrees_128 rfl 1 (by decide) ?_
                  refine j_goto (pc' := 133) C dX2_agrees_129 (by decide) ?_
                  exact h133 _ _ _ hv.symm
                · skip
                  refine j_lload (pc' := 117) C dX2_agrees_115 rfl rfl ?_
                  refine j_aload_n (pc' := 118) C dX2_agrees_117 rfl rfl ?_
                  refine jMa (pc' := 121) C dX2_agrees_118 rfl 6 (by decide) hinM (by decide +kernel) ?_
                  refine j_iload_n (pc' := 122) C dX2_agrees_121 rfl rfl ?_
                  refine jMlN (pc' := 123) C dX2_agrees_122 rfl 6 (by decide) (40 * i + j) rfl (by unfold lenM; simp; omega) ?_
                  refine j_i2l (pc' := 124) C dX2_agrees_123 rfl ?_
                  refine j_lcmp (pc' := 125) C dX2_agrees_124 rfl ?_
                  refine j_if_gt (tgt := 132) (pc' := 128) C dX2_agrees_125 (by decide) rfl (fun h125 => ?_) (fun h125 => ?_)
                  · skip
                    have hv : agV a (closF t i) i (40 * i + j) = 0 := by rw [agV, if_neg h79, if_neg (fun q => q h88), if_neg h101, if_neg h112, if_pos h125]
                    refine j_iconst (pc' := 133) C dX2_agrees_132 rfl 0 (by decide) ?_
                    exact h133 _ _ _ hv.symm
                  · skip
                    have hv : agV a (closF t i) i (40 * i + j) = 1 := by rw [agV, if_neg h79, if_neg (fun q => q h88), if_neg h101, if_neg h112, if_neg h125]
                    refine j_iconst (pc' := 129) C dX2_agrees_128 rfl 1 (by decide) ?_
                    refine j_goto (pc' := 133) C dX2_agrees_129 (by decide) ?_
                    exact h133 _ _ _ hv.symm
          
    refine j_aload_n (pc' := 15) C dX2_agrees_14 rfl rfl ?_
    refine j_iload_n (pc' := 16) C dX2_agrees_15 rfl rfl ?_
    refine j_iconst (pc' := 17) C dX2_agrees_16 rfl 0 (by decide) ?_
    refine j_bipush (pc' := 19) C dX2_agrees_17 rfl 64 (by decide) ?_
    refine jc_same (pc' := 22) C (c_trueIn l D cI cO B (closF t i) (nI i) (0) (64) i (0) (64) rfl rfl rfl hi (by decide) (by decide)) 3 gX2_agrees_X2_trueIn rfl (by decide +kernel) (by decide) rfl rfl (Nat.le_of_ble_eq_true rfl) 2 10 rfl rfl (wM_obj cI B _) (wM_addr cI B _) dX2_agrees_19 rfl (fun v1 u1 hp1 => ?_)
    obtain ⟨rfl, hu1⟩ := hp1
    rw [hu1]
    clear hu1 u1
    show J p l e _ s m args below meth c 0 0 _ _ D A _ _ [_] _
    have h38 : ∀ x : Int32, x = (if lg_cmp (sumT ((closF t i).2 8) (64 * i) 64) ((closF t i).2 0 i).toInt64 = 0 then 1 else 0) → J p l e (rmH 3) s m args below meth c 0 0 (RQ below args s D (wM cI B) (fun r u => r = some (.int (mAgrees t (nI i)).1) ∧ u = (mAgrees t (nI i)).2) A) 6 D A 38 [some (.ref (B 10)), some (.int (nI i)), none, none, none, none] [.int x] (wM cI B (closF t i)) := by
      intro x ex
      refine j_istore_n (pc' := 39) C dX2_agrees_38 rfl (by decide) rfl ?_
      refine j_bipush (pc' := 41) C dX2_agrees_39 rfl 40 (by decide) ?_
      refine j_iload_n (pc' := 42) C dX2_agrees_41 rfl rfl ?_
      refine j_imul (pc' := 43) C dX2_agrees_42 rfl ?_
      refine j_istore_n (pc' := 44) C dX2_agrees_43 rfl (by decide) rfl ?_
      rw [show (40 : Int32) * nI i = nI (40 * i + 0) from pk_mul 40 i]
      exact loop N 0 x _ _ (by omega) (by rw [ex]; split <;> first | exact Or.inl rfl | exact Or.inr rfl) (by rw [magF, ← hN, ex])
    refine j_aload_n (pc' := 23) C dX2_agrees_22 rfl rfl ?_
    refine jMa (pc' := 26) C dX2_agrees_23 rfl 0 (by decide) hinM (by decide +kernel) ?_
    refine j_iload_n (pc' := 27) C dX2_agrees_26 rfl rfl ?_
    refine jMlN (pc' := 28) C dX2_agrees_27 rfl 0 (by decide) i rfl (by unfold lenM; simp; omega) ?_
    refine j_i2l (pc' := 29) C dX2_agrees_28 rfl ?_
    refine j_lcmp (pc' := 30) C dX2_agrees_29 rfl ?_
    refine j_if_ne (tgt := 37) (pc' := 33) C dX2_agrees_30 (by decide) rfl (fun h30 => ?_) (fun h30 => ?_)
    · skip
      refine j_iconst (pc' := 38) C dX2_agrees_37 rfl 0 (by decide) ?_
      first | exact h38 _ (if_pos h30).symm | exact h38 _ (if_neg h30).symm
    · skip
      refine j_iconst (pc' := 34) C dX2_agrees_33 rfl 1 (by decide) ?_
      refine j_goto (pc' := 38) C dX2_agrees_34 (by decide) ?_
      first | exact h38 _ (if_pos h30).symm | exact h38 _ (if_neg h30).symm
    
    
  · skip
    have hF : mAgrees t tb = (-1, t) := by rw [mAgrees, if_pos (h4)]
    refine j_iconst (pc' := 8) C dX2_agrees_7 rfl (-1) (by decide) ?_
    refine j_ireturn _ C dX2_agrees_8 ?_
    exact ⟨by rw [hF] <;> rfl, by rw [hF] <;> rfl⟩
  
