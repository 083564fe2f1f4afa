/-! the Model: sight, begins, reads, binds -/
def mSight (t : TS) (tb a b ct al : Int32) : Int32 × TS := if isInF tb 0 2 = 0 ∨ isSpanF a b = 0 ∨ isInF ct 0 (t.2 0 tb.toNatClampNeg) = 0 ∨ t.2 1 tb.toNatClampNeg = 40 then (-1, t) else (t.2 1 tb.toNatClampNeg + 1 - 1, (upd t.1 10 (-1), ua (ua (ua (ua (ua t.2 3 (upd (t.2 3) (40 * tb.toNatClampNeg + (t.2 1 tb.toNatClampNeg).toNatClampNeg) a)) 4 (upd (t.2 4) (40 * tb.toNatClampNeg + (t.2 1 tb.toNatClampNeg).toNatClampNeg) b)) 5 (upd (t.2 5) (40 * tb.toNatClampNeg + (t.2 1 tb.toNatClampNeg).toNatClampNeg) ct)) 6 (upd (t.2 6) (40 * tb.toNatClampNeg + (t.2 1 tb.toNatClampNeg).toNatClampNeg) (if al = 0 then ct else 1000001))) 1 (upd (t.2 1) tb.toNatClampNeg (t.2 1 tb.toNatClampNeg + 1))))
def wideF (n : Int32) : Int32 := 64 >>> ((2 * n) &&& 31)
def mBegins (t : TS) (tb n v ct : Int32) : Int32 × TS := if isInF n 0 3 = 0 then (-1, t) else if isInF v 0 (64 / wideF n - 1) = 0 then (-1, t) else mSight t tb (v * wideF n) (v * wideF n + wideF n) ct 0
theorem wideF_ne {n : Int32} (h : ¬ isInF n 0 3 = 0) : ¬ wideF n = 0 := by
  obtain ⟨j, hj, rfl⟩ := isInF_nI 3 (by decide) h
  rcases (show j = 0 ∨ j = 1 ∨ j = 2 ∨ j = 3 by omega) with rfl | rfl | rfl | rfl <;> decide +kernel
def sumT (f : Nat → Int32) (lo : Nat) : Nat → Int64
  | 0 => 0
  | n + 1 => sumT f lo n + (f (lo + n)).toInt64
def guessOfF (t : TS) (i v : Nat) : Int64 := (t.2 11 (65 * i + v + 1) - t.2 11 (65 * i + v)).toInt64
def mRowsOf (t : TS) (i v : Nat) (by_ : Int32) : Int64 := if by_ = 0 then guessOfF t i v else (t.2 8 (64 * i + v)).toInt64
def bindsJ (b i : Nat) (bef : Int32) : Nat → Nat → (Nat → Int32) → (Nat → Int32)
  | 0, _, f => f
  | k + 1, j, f => bindsJ b i bef k (j + 1) (upd f (65 * i + j) (if bef + f (65 * b + j) < f (65 * i + j) then bef + f (65 * b + j) else f (65 * i + j)))
def bindsI (a b : Nat) (by_ : Int32) : Nat → Nat → (Nat → Int32) → (Nat → Int32)
  | 0, _, f => f
  | k + 1, i, f => bindsI a b by_ k (i + 1) (bindsJ b i (f (65 * i + a) + by_) 65 0 f)
def bindsF (f : Nat → Int32) (a b : Nat) (by_ : Int32) : Nat → Int32 := if by_ < f (65 * a + b) then bindsI a b by_ 65 0 f else f
theorem e65 (i v : Nat) : (65 : Int32) * nI i + nI v = nI (65 * i + v) := by rw [show (65 : Int32) * nI i = nI (65 * i) from pk_mul 65 i, nI_add]
theorem e64 (i v : Nat) : (64 : Int32) * nI i + nI v = nI (64 * i + v) := by rw [show (64 : Int32) * nI i = nI (64 * i) from pk_mul 64 i, nI_add]
theorem e40 (i v : Nat) : (40 : Int32) * nI i + nI v = nI (40 * i + v) := by rw [show (40 : Int32) * nI i = nI (40 * i) from pk_mul 40 i, nI_add]
set_option maxRecDepth 100000 in
set_option maxHeartbeats 4000000 in
theorem c_Msight (l : Launch) (D : va_G) (cI cO : ClassId) (B : Nat → Nat) (t : TS) (hok : okM t) (tb a b ct al : Int32) : Kt l yX2_sight wsX2_sight 2 (wM cI B) D cI cO (fun _ => True) [.ref (B 10), .int tb, .int a, .int b, .int ct, .int al] t (fun r u => r = some (.int (mSight t tb a b ct al).1) ∧ u = (mSight t tb a b ct al).2) := by
  refine Kt_of (cc := cX2_sight) (n := 7) (ret := some .int) rfl (by decide +kernel) (Nat.le_of_ble_eq_true rfl) rfl [some (.ref (B 10)), some (.int tb), some (.int a), some (.int b), some (.int ct), some (.int al), none] rfl ?_
  intro p e s m args below meth c A C _ _
  have hinM : ∀ w ∈ wsX20, w ∈ wsX2_sight := by decide +kernel
  refine j_iload_n (pc' := 1) C dX2_sight_0 rfl rfl ?_
  refine jc_nil (pc' := 4) C (c_isTable l D cI cO _) 1 gX2_sight_X2_isTable rfl (by decide +kernel) (by decide) rfl rfl (Nat.le_of_ble_eq_true rfl) dX2_sight_1 rfl (fun v1 hp1 => ?_)
  subst hp1
  show J p l e _ s m args below meth c 0 0 _ _ D A _ _ [_] _
  refine j_if_eq (tgt := 41) (pc' := 7) C dX2_sight_4 (by decide) rfl (fun h4 => ?_) (fun h4 => ?_)
  · skip
    have hF : mSight t tb a b ct al = (-1, t) := by rw [mSight, if_pos (Or.inl h4)]
    refine j_iconst (pc' := 42) C dX2_sight_41 rfl (-1) (by decide) ?_
    refine j_ireturn _ C dX2_sight_42 ?_
    exact ⟨by rw [hF] <;> rfl, by rw [hF] <;> rfl⟩
  · skip
    obtain ⟨i, hi, rfl⟩ := isTb h4
    refine j_iload_n (pc' := 8) C dX2_sight_7 rfl rfl ?_
    refine j_iload_n (pc' := 9) C dX2_sight_8 rfl rfl ?_
    refine jc_nil (pc' := 12) C (c_isSpanM l D cI cO _ _) 2 gX2_sight_X2_isSpan rfl (by decide +kernel) (by decide) rfl rfl (Nat.le_of_ble_eq_true rfl) dX2_sight_9 rfl (fun v1 hp1 => ?_)
    subst hp1
    show J p l e _ s m args below meth c 0 0 _ _ D A _ _ [_] _
    refine j_if_eq (tgt := 41) (pc' := 15) C dX2_sight_12 (by decide) rfl (fun h12 => ?_) (fun h12 => ?_)
    · skip
      have hF : mSight t (nI i) a b ct al = (-1, t) := by rw [mSight, nI_clamp (by omega), if_pos (Or.inr (Or.inl h12))]
      refine j_iconst (pc' := 42) C dX2_sight_41 rfl (-1) (by decide) ?_
      refine j_ireturn _ C dX2_sight_42 ?_
      exact ⟨by rw [hF] <;> rfl, by rw [hF] <;> rfl⟩
    · skip
      refine j_iload (pc' := 17) C dX2_sight_15 rfl rfl ?_
      refine j_iconst (pc' := 18) C dX2_sight_17 rfl 0 (by decide) ?_
      refine j_aload_n (pc' := 19) C dX2_sight_18 rfl rfl ?_
      refine jMa (pc' := 22) C dX2_sight_19 rfl 0 (by decide) hinM (by decide +kernel) ?_
      refine j_iload_n (pc' := 23) C dX2_sight_22 rfl rfl ?_
      refine jMlN (pc' := 24) C dX2_sight_23 rfl 0 (by decide) i rfl (by unfold lenM; simp; omega) ?_
      refine jc_nil (pc' := 27) C (c_isIn l D cI cO _ _ _) 3 gX2_sight_X2_isIn rfl (by decide +kernel) (by decide) rfl rfl (Nat.le_of_ble_eq_true rfl) dX2_sight_24 rfl (fun v1 hp1 => ?_)
      subst hp1
      show J p l e _ s m args below meth c 0 0 _ _ D A _ _ [_] _
      refine j_if_eq (tgt := 41) (pc' := 30) C dX2_sight_27 (by decide) rfl (fun h27 => ?_) (fun h27 => ?_)
      · skip
        have hF : mSight t (nI i) a b ct al = (-1, t) := by rw [mSight, nI_clamp (by omega), if_pos (Or.inr (Or.inr (Or.inl h27)))]
        refine j_iconst (pc' := 42) C dX2_sight_41 rfl (-1) (by decide) ?_
        refine j_ireturn _ C dX2_sight_42 ?_
        exact ⟨by rw [hF] <;> rfl, by rw [hF] <;> rfl⟩
      · skip
        refine j_aload_n (pc' := 31) C dX2_sight_30 rfl rfl ?_
        refine jMa (pc' := 34) C dX2_sight_31 rfl 1 (by decide) hinM (by decide +kernel) ?_
        refine j_iload_n (pc' := 35) C dX2_sight_34 rfl rfl ?_
        refine jMlN (pc' := 36) C dX2_sight_35 rfl 1 (by decide) i rfl (by unfold lenM; simp; omega) ?_
        refine j_bipush (pc' := 38) C dX2_sight_36 rfl 40 (by decide) ?_
        refine j_icmp_ne (tgt := 43) (pc' := 41) C dX2_sight_38 (by decide) rfl (fun h38 => ?_) (fun h38 => ?_)
        · skip
          obtain ⟨en, hn41⟩ := vp_in_c (hok i hi).1 (by decide)
          generalize hN : (t.2 1 i).toNatClampNeg = N at en hn41
          have hn40 : N < 40 := by
            rcases Nat.lt_or_ge N 40 with q | q
            · exact q
            · exact absurd (by rw [en, show N = 40 by omega]; rfl) h38
          have ek : (40 : Int32) * nI i + t.2 1 i = nI (40 * i + N) := by rw [en]; exact e40 i N
          have hF : mSight t (nI i) a b ct al = (t.2 1 i + 1 - 1, (upd t.1 10 (-1), ua (ua (ua (ua (ua t.2 3 (upd (t.2 3) (40 * i + N) a)) 4 (upd (t.2 4) (40 * i + N) b)) 5 (upd (t.2 5) (40 * i + N) ct)) 6 (upd (t.2 6) (40 * i + N) (if al = 0 then ct else 1000001))) 1 (upd (t.2 1) i (t.2 1 i + 1)))) := by
            rw [mSight, nI_clamp (by omega), if_neg (fun q => q.elim h4 (fun q => q.elim h12 (fun q => q.elim h27 h38))), hN]
          have h99 : ∀ x : Int32, x = (if al = 0 then ct else 1000001) → J p l e (rmH 2) s m args below meth c 0 0 (RQ below args s D (wM cI B) (fun r u => r = some (.int (mSight t (nI i) a b ct al).1) ∧ u = (mSight t (nI i) a b ct al).2) A) 7 D A 99 [some (.ref (B 10)), some (.int (nI i)), some (.int a), some (.int b), some (.int ct), some (.int al), some (.int (40 * nI i + t.2 1 i))] [.int x, .int (40 * nI i + t.2 1 i), .ref (B 6)] (wM cI B (t.1, ua (ua (ua t.2 3 (upd (t.2 3) (40 * i + N) a)) 4 (upd (t.2 4) (40 * i + N) b)) 5 (upd (t.2 5) (40 * i + N) ct))) := by
            intro x ex
            refine jMsN (pc' := 100) C dX2_sight_99 rfl 6 (by decide) (40 * i + N) ek (by unfold lenM; simp; omega) ?_
            refine j_aload_n (pc' := 101) C dX2_sight_100 rfl rfl ?_
            refine jMa (pc' := 104) C dX2_sight_101 rfl 1 (by decide) hinM (by decide +kernel) ?_
            refine j_iload_n (pc' := 105) C dX2_sight_104 rfl rfl ?_
            refine j_dup2 (pc' := 106) C dX2_sight_105 rfl rfl rfl ?_
            refine jMlN (pc' := 107) C dX2_sight_106 rfl 1 (by decide) i rfl (by unfold lenM; simp; omega) ?_
            refine j_iconst (pc' := 108) C dX2_sight_107 rfl 1 (by decide) ?_
            refine j_iadd (pc' := 109) C dX2_sight_108 rfl ?_
            refine jMsN (pc' := 110) C dX2_sight_109 rfl 1 (by decide) i rfl (by unfold lenM; simp; omega) ?_
            refine j_aload_n (pc' := 111) C dX2_sight_110 rfl rfl ?_
            refine j_iconst (pc' := 112) C dX2_sight_111 rfl (-1) (by decide) ?_
            refine jMp (pc' := 115) C dX2_sight_112 rfl hinM (by decide +kernel) ?_
            refine j_aload_n (pc' := 116) C dX2_sight_115 rfl rfl ?_
            refine jMa (pc' := 119) C dX2_sight_116 rfl 1 (by decide) hinM (by decide +kernel) ?_
            refine j_iload_n (pc' := 120) C dX2_sight_119 rfl rfl ?_
            refine jMlN (pc' := 121) C dX2_sight_120 rfl 1 (by decide) i rfl (by unfold lenM; simp; omega) ?_
            refine j_iconst (pc' := 122) C dX2_sight_121 rfl 1 (by decide) ?_
            refine j_isub (pc' := 123) C dX2_sight_122 rfl ?_
            refine j_ireturn _ C dX2_sight_123 ?_
            rw [ex]
            refine ⟨?_, by rw [hF] <;> rfl⟩
            rw [hF]
            show some (Value.int (upd (t.2 1) i (t.2 1 i + 1) i - 1)) = _
            rw [pk_us]
          
          refine j_bipush (pc' := 45) C dX2_sight_43 rfl 40 (by decide) ?_
          refine j_iload_n (pc' := 46) C dX2_sight_45 rfl rfl ?_
          refine j_imul (pc' := 47) C dX2_sight_46 rfl ?_
          refine j_aload_n (pc' := 48) C dX2_sight_47 rfl rfl ?_
          refine jMa (pc' := 51) C dX2_sight_48 rfl 1 (by decide) hinM (by decide +kernel) ?_
          refine j_iload_n (pc' := 52) C dX2_sight_51 rfl rfl ?_
          refine jMlN (pc' := 53) C dX2_sight_52 rfl 1 (by decide) i rfl (by unfold lenM; simp; omega) ?_
          refine j_iadd (pc' := 54) C dX2_sight_53 rfl ?_
          refine j_istore (pc' := 56) C dX2_sight_54 rfl (by decide) rfl ?_
          refine j_aload_n (pc' := 57) C dX2_sight_56 rfl rfl ?_
          refine jMa (pc' := 60) C dX2_sight_57 rfl 3 (by decide) hinM (by decide +kernel) ?_
          refine j_iload (pc' := 62) C dX2_sight_60 rfl rfl ?_
          refine j_iload_n (pc' := 63) C dX2_sight_62 rfl rfl ?_
          refine jMsN (pc' := 64) C dX2_sight_63 rfl 3 (by decide) (40 * i + N) ek (by unfold lenM; simp; omega) ?_
          refine j_aload_n (pc' := 65) C dX2_sight_64 rfl rfl ?_
          refine jMa (pc' := 68) C dX2_sight_65 rfl 4 (by decide) hinM (by decide +kernel) ?_
          refine j_iload (pc' := 70) C dX2_sight_68 rfl rfl ?_
          refine j_iload_n (pc' := 71) C dX2_sight_70 rfl rfl ?_
          refine jMsN (pc' := 72) C dX2_sight_71 rfl 4 (by decide) (40 * i + N) ek (by unfold lenM; simp; omega) ?_
          refine j_aload_n (pc' := 73) C dX2_sight_72 rfl rfl ?_
          refine jMa (pc' := 76) C dX2_sight_73 rfl 5 (by decide) hinM (by decide +kernel) ?_
          refine j_iload (pc' := 78) C dX2_sight_76 rfl rfl ?_
          refine j_iload (pc' := 80) C dX2_sight_78 rfl rfl ?_
          refine jMsN (pc' := 81) C dX2_sight_80 rfl 5 (by decide) (40 * i + N) ek (by unfold lenM; simp; omega) ?_
          refine j_aload_n (pc' := 82) C dX2_sight_81 rfl rfl ?_
          refine jMa (pc' := 85) C dX2_sight_82 rfl 6 (by decide) hinM (by decide +kernel) ?_
          refine j_iload (pc' := 87) C dX2_sight_85 rfl rfl ?_
          refine j_iload (pc' := 89) C dX2_sight_87 rfl rfl ?_
          refine j_if_eq (tgt := 97) (pc' := 92) C dX2_sight_89 (by decide) rfl (fun h89 => ?_) (fun h89 => ?_)
          · skip
            refine j_iload (pc' := 99) C dX2_sight_97 rfl rfl ?_
            first | exact h99 _ (by rw [if_pos h89]) | exact h99 _ (by rw [if_neg h89])
          · skip
            refine j_ldc (pc' := 94) C dX2_sight_92 rfl 1000001 (by decide +kernel) ?_
            refine j_goto (pc' := 99) C dX2_sight_94 (by decide) ?_
            first | exact h99 _ (by rw [if_pos h89]) | exact h99 _ (by rw [if_neg h89])
        · skip
          have hF : mSight t (nI i) a b ct al = (-1, t) := by rw [mSight, nI_clamp (by omega), if_pos (Or.inr (Or.inr (Or.inr h38)))]
          refine j_iconst (pc' := 42) C dX2_sight_41 rfl (-1) (by decide) ?_
          refine j_ireturn _ C dX2_sight_42 ?_
          exact ⟨by rw [hF] <;> rfl, by rw [hF] <;> rfl⟩
      
    
  
set_option maxRecDepth 100000 in
set_option maxHeartbeats 4000000 in
theorem c_Mbegins (l : Launch) (D : va_G) (cI cO : ClassId) (B : Nat → Nat) (t : TS) (hok : okM t) (tb n v ct : Int32) : Kt l yX2_begins wsX2_begins 3 (wM cI B) D cI cO (fun _ => True) [.ref (B 10), .int tb, .int n, .int v, .int ct] t (fun r u => r = some (.int (mBegins t tb n v ct).1) ∧ u = (mBegins t tb n v ct).2) := by
  refine Kt_of (cc := cX2_begins) (n := 6) (ret := some .int) rfl (by decide +kernel) (Nat.le_of_ble_eq_true rfl) rfl [some (.ref (B 10)), some (.int tb), some (.int n), some (.int v), some (.int ct), none] rfl ?_
  intro p e s m args below meth c A C _ _
  have hinM : ∀ w ∈ wsX20, w ∈ wsX2_begins := by decide +kernel
  refine j_iload_n (pc' := 1) C dX2_begins_0 rfl rfl ?_
  refine j_iconst (pc' := 2) C dX2_begins_1 rfl 0 (by decide) ?_
  refine j_iconst (pc' := 3) C dX2_begins_2 rfl 3 (by decide) ?_
  refine jc_nil (pc' := 6) C (c_isIn l D cI cO _ _ _) 3 gX2_begins_X2_isIn rfl (by decide +kernel) (by decide) rfl rfl (Nat.le_of_ble_eq_true rfl) dX2_begins_3 rfl (fun v1 hp1 => ?_)
  subst hp1
  show J p l e _ s m args below meth c 0 0 _ _ D A _ _ [_] _
  refine j_if_ne (tgt := 11) (pc' := 9) C dX2_begins_6 (by decide) rfl (fun h6 => ?_) (fun h6 => ?_)
  · skip
    refine j_bipush (pc' := 13) C dX2_begins_11 rfl 64 (by decide) ?_
    refine j_iconst (pc' := 14) C dX2_begins_13 rfl 2 (by decide) ?_
    refine j_iload_n (pc' := 15) C dX2_begins_14 rfl rfl ?_
    refine j_imul (pc' := 16) C dX2_begins_15 rfl ?_
    refine j_ishr (pc' := 17) C dX2_begins_16 rfl ?_
    refine j_istore (pc' := 19) C dX2_begins_17 rfl (by decide) rfl ?_
    refine j_iload_n (pc' := 20) C dX2_begins_19 rfl rfl ?_
    refine j_iconst (pc' := 21) C dX2_begins_20 rfl 0 (by decide) ?_
    refine j_bipush (pc' := 23) C dX2_begins_21 rfl 64 (by decide) ?_
    refine j_iload (pc' := 25) C dX2_begins_23 rfl rfl ?_
    refine j_idiv (pc' := 26) C dX2_begins_25 rfl (wideF_ne h6) ?_
    refine j_iconst (pc' := 27) C dX2_begins_26 rfl 1 (by decide) ?_
    refine j_isub (pc' := 28) C dX2_begins_27 rfl ?_
    refine jc_nil (pc' := 31) C (c_isIn l D cI cO _ _ _) 3 gX2_begins_X2_isIn rfl (by decide +kernel) (by decide) rfl rfl (Nat.le_of_ble_eq_true rfl) dX2_begins_28 rfl (fun v1 hp1 => ?_)
    subst hp1
    show J p l e _ s m args below meth c 0 0 _ _ D A _ _ [_] _
    refine j_if_eq (tgt := 56) (pc' := 34) C dX2_begins_31 (by decide) rfl (fun h31 => ?_) (fun h31 => ?_)
    · skip
      have hF : mBegins t tb n v ct = (-1, t) := by rw [mBegins, if_neg h6]; exact if_pos h31
      refine j_iconst (pc' := 57) C dX2_begins_56 rfl (-1) (by decide) ?_
      refine j_ireturn _ C dX2_begins_57 ?_
      exact ⟨by rw [hF] <;> rfl, by rw [hF] <;> rfl⟩
    · skip
      refine j_aload_n (pc' := 35) C dX2_begins_34 rfl rfl ?_
      refine j_iload_n (pc' := 36) C dX2_begins_35 rfl rfl ?_
      refine j_iload_n (pc' := 37) C dX2_begins_36 rfl rfl ?_
      refine j_iload (pc' := 39) C dX2_begins_37 rfl rfl ?_
      refine j_imul (pc' := 40) C dX2_begins_39 rfl ?_
      refine j_iload_n (pc' := 41) C dX2_begins_40 rfl rfl ?_
      refine j_iload (pc' := 43) C dX2_begins_41 rfl rfl ?_
      refine j_imul (pc' := 44) C dX2_begins_43 rfl ?_
      refine j_iload (pc' := 46) C dX2_begins_44 rfl rfl ?_
      refine j_iadd (pc' := 47) C dX2_begins_46 rfl ?_
      refine j_iload (pc' := 49) C dX2_begins_47 rfl rfl ?_
      refine j_iconst (pc' := 50) C dX2_begins_49 rfl 0 (by decide) ?_
      have hF : mBegins t tb n v ct = mSight t tb (v * wideF n) (v * wideF n + wideF n) ct 0 := by rw [mBegins, if_neg h6]; exact if_neg h31
      refine jc_same (pc' := 53) C (c_Msight l D cI cO B t hok tb (v * wideF n) (v * wideF n + wideF n) ct 0) 5 gX2_begins_X2_sight rfl (by decide +kernel) (by decide) rfl rfl (by decide) 2 10 rfl rfl (wM_obj cI B _) (wM_addr cI B _) dX2_begins_50 rfl (fun v1 u1 hp1 => ?_)
      obtain ⟨rfl, rfl⟩ := hp1
      show J p l e _ s m args below meth c 0 0 _ _ D A _ _ [_] _
      refine j_goto (pc' := 57) C dX2_begins_53 (by decide) ?_
      refine j_ireturn _ C dX2_begins_57 ?_
      exact ⟨by rw [hF], by rw [hF]⟩
      
    
  · skip
    have hF : mBegins t tb n v ct = (-1, t) := by rw [mBegins, if_pos (h6)]
    refine j_iconst (pc' := 10) C dX2_begins_9 rfl (-1) (by decide) ?_
    refine j_ireturn _ C dX2_begins_10 ?_
    exact ⟨by rw [hF] <;> rfl, by rw [hF] <;> rfl⟩
  
set_option maxRecDepth 100000 in
set_option maxHeartbeats 4000000 in
theorem c_most (l : Launch) (D : va_G) (cI cO : ClassId) (B : Nat → Nat) (t : TS) (a b : Int32) (x y : Nat) (ea : a = nI x) (eb : b = nI y) (hx : x ≤ 64) (hy : y ≤ 64) : Kt l yX2_most wsX2_most 0 (wM cI B) D cI cO (fun _ => True) [.ref (B 10), .int a, .int b] t (fun r u => r = some (.int (t.2 9 (65 * x + y))) ∧ u = t) := by
  refine Kt_of (cc := cX2_most) (n := 3) (ret := some .int) rfl (by decide +kernel) (Nat.le_of_ble_eq_true rfl) rfl [some (.ref (B 10)), some (.int a), some (.int b)] rfl ?_
  intro p e s m args below meth c A C _ _
  have hinM : ∀ w ∈ wsX20, w ∈ wsX2_most := by decide +kernel
  subst ea
  subst eb
  refine j_aload_n (pc' := 1) C dX2_most_0 rfl rfl ?_
  refine jMa (pc' := 4) C dX2_most_1 rfl 9 (by decide) hinM (by decide +kernel) ?_
  refine j_bipush (pc' := 6) C dX2_most_4 rfl 65 (by decide) ?_
  refine j_iload_n (pc' := 7) C dX2_most_6 rfl rfl ?_
  refine j_imul (pc' := 8) C dX2_most_7 rfl ?_
  refine j_iload_n (pc' := 9) C dX2_most_8 rfl rfl ?_
  refine j_iadd (pc' := 10) C dX2_most_9 rfl ?_
  refine jMlN (pc' := 11) C dX2_most_10 rfl 9 (by decide) (65 * x + y) (e65 x y) (by unfold lenM; simp; omega) ?_
  refine j_ireturn _ C dX2_most_11 ?_
  exact ⟨rfl, rfl⟩
set_option maxRecDepth 100000 in
set_option maxHeartbeats 4000000 in
theorem c_trueIn (l : Launch) (D : va_G) (cI cO : ClassId) (B : Nat → Nat) (t : TS) (tb a b : Int32) (i x y : Nat) (et : tb = nI i) (ea : a = nI x) (eb : b = nI y) (hi : i < 3) (hx : x ≤ 64) (hy : y ≤ 64) : Kt l yX2_trueIn wsX2_trueIn 0 (wM cI B) D cI cO (fun _ => True) [.ref (B 10), .int tb, .int a, .int b] t (fun r u => r = some (.long (sumT (t.2 8) (64 * i + x) (y - x))) ∧ u = t) := by
  refine Kt_of (cc := cX2_trueIn) (n := 7) (ret := some .long) rfl (by decide +kernel) (Nat.le_of_ble_eq_true rfl) rfl [some (.ref (B 10)), some (.int tb), some (.int a), some (.int b), none, none, none] rfl ?_
  intro p e s m args below meth c A C _ _
  have hinM : ∀ w ∈ wsX20, w ∈ wsX2_trueIn := by decide +kernel
  subst et
  subst ea
  subst eb
  have loop : ∀ (k j : Nat), j + k = y - x → J p l e (rmH 0) s m args below meth c 0 0 (RQ below args s D (wM cI B) (fun r u => r = some (.long (sumT (t.2 8) (64 * i + x) (y - x))) ∧ u = t) A) 7 D A 6 [some (.ref (B 10)), some (.int (nI i)), some (.int (nI x)), some (.int (nI y)), some (.long (sumT (t.2 8) (64 * i + x) j)), none, some (.int (nI (x + j)))] [] (wM cI B t) := by
    intro k
    induction k with
    | zero =>
      intro j hj
      have hj2 : j = y - x := by omega
      subst hj2
      refine j_iload (pc' := 8) C dX2_trueIn_6 rfl rfl ?_
      refine j_iload_n (pc' := 9) C dX2_trueIn_8 rfl rfl ?_
      refine j_icmp_ge (tgt := 36) (pc' := 12) C dX2_trueIn_9 (by decide) rfl (fun h9 => ?_) (fun h9 => ?_)
      · skip
        refine j_lload (pc' := 38) C dX2_trueIn_36 rfl rfl ?_
        refine j_lreturn _ C dX2_trueIn_38 ?_
        exact ⟨rfl, rfl⟩
      · skip
        exact absurd (nI_le (by omega) (by omega)) h9 -- done
    | succ k ih =>
      intro j hj
      refine j_iload (pc' := 8) C dX2_trueIn_6 rfl rfl ?_
      refine j_iload_n (pc' := 9) C dX2_trueIn_8 rfl rfl ?_
      refine j_icmp_ge (tgt := 36) (pc' := 12) C dX2_trueIn_9 (by decide) rfl (fun h9 => ?_) (fun h9 => ?_)
      · skip
        exact absurd h9 (nI_ge (by omega) (by omega)) -- done
      · skip
        refine j_lload (pc' := 14) C dX2_trueIn_12 rfl rfl ?_
        refine j_aload_n (pc' := 15) C dX2_trueIn_14 rfl rfl ?_
        refine jMa (pc' := 18) C dX2_trueIn_15 rfl 8 (by decide) hinM (by decide +kernel) ?_
        refine j_bipush (pc' := 20) C dX2_trueIn_18 rfl 64 (by decide) ?_
        refine j_iload_n (pc' := 21) C dX2_trueIn_20 rfl rfl ?_
        refine j_imul (pc' := 22) C dX2_trueIn_21 rfl ?_
        refine j_iload (pc' := 24) C dX2_trueIn_22 rfl rfl ?_
        refine j_iadd (pc' := 25) C dX2_trueIn_24 rfl ?_
        refine jMlN (pc' := 26) C dX2_trueIn_25 rfl 8 (by decide) (64 * i + x + j) (by rw [e64]; rw [Nat.add_assoc]) (by unfold lenM; simp; omega) ?_
        refine j_i2l (pc' := 27) C dX2_trueIn_26 rfl ?_
        refine j_ladd (pc' := 28) C dX2_trueIn_27 rfl ?_
        refine j_lstore (pc' := 30) C dX2_trueIn_28 rfl (by decide) rfl ?_
        refine j_iinc (pc' := 33) C dX2_trueIn_30 rfl 1 (by decide) rfl (by decide) rfl ?_
        refine j_goto (pc' := 6) C dX2_trueIn_33 (by decide) ?_
        rw [nI_1]
        exact ih (j + 1) (by omega)
  refine j_lconst (pc' := 1) C dX2_trueIn_0 rfl 0 (by decide) ?_
  refine j_lstore (pc' := 3) C dX2_trueIn_1 rfl (by decide) rfl ?_
  refine j_iload_n (pc' := 4) C dX2_trueIn_3 rfl rfl ?_
  refine j_istore (pc' := 6) C dX2_trueIn_4 rfl (by decide) rfl ?_
  exact loop (y - x) 0 (by omega)
set_option maxRecDepth 100000 in
set_option maxHeartbeats 4000000 in
theorem c_guessOf (l : Launch) (D : va_G) (cI cO : ClassId) (B : Nat → Nat) (t : TS) (tb a : Int32) (i v : Nat) (et : tb = nI i) (ea : a = nI v) (hi : i < 3) (hv : v < 64) : Kt l yX2_guessOf wsX2_guessOf 0 (wM cI B) D cI cO (fun _ => True) [.ref (B 10), .int tb, .int a] t (fun r u => r = some (.long (guessOfF t i v)) ∧ u = t) := by
  refine Kt_of (cc := cX2_guessOf) (n := 3) (ret := some .long) rfl (by decide +kernel) (Nat.le_of_ble_eq_true rfl) rfl [some (.ref (B 10)), some (.int tb), some (.int a)] rfl ?_
  intro p e s m args below meth c A C _ _
  have hinM : ∀ w ∈ wsX20, w ∈ wsX2_guessOf := by decide +kernel
  subst et
  subst ea
  refine j_aload_n (pc' := 1) C dX2_guessOf_0 rfl rfl ?_
  refine jMa (pc' := 4) C dX2_guessOf_1 rfl 11 (by decide) hinM (by decide +kernel) ?_
  refine j_bipush (pc' := 6) C dX2_guessOf_4 rfl 65 (by decide) ?_
  refine j_iload_n (pc' := 7) C dX2_guessOf_6 rfl rfl ?_
  refine j_imul (pc' := 8) C dX2_guessOf_7 rfl ?_
  refine j_iload_n (pc' := 9) C dX2_guessOf_8 rfl rfl ?_
  refine j_iadd (pc' := 10) C dX2_guessOf_9 rfl ?_
  refine j_iconst (pc' := 11) C dX2_guessOf_10 rfl 1 (by decide) ?_
  refine j_iadd (pc' := 12) C dX2_guessOf_11 rfl ?_
  refine jMlN (pc' := 13) C dX2_guessOf_12 rfl 11 (by decide) (65 * i + v + 1) (by rw [e65, nI_1]) (by unfold lenM; simp; omega) ?_
  refine j_aload_n (pc' := 14) C dX2_guessOf_13 rfl rfl ?_
  refine jMa (pc' := 17) C dX2_guessOf_14 rfl 11 (by decide) hinM (by decide +kernel) ?_
  refine j_bipush (pc' := 19) C dX2_guessOf_17 rfl 65 (by decide) ?_
  refine j_iload_n (pc' := 20) C dX2_guessOf_19 rfl rfl ?_
  refine j_imul (pc' := 21) C dX2_guessOf_20 rfl ?_
  refine j_iload_n (pc' := 22) C dX2_guessOf_21 rfl rfl ?_
  refine j_iadd (pc' := 23) C dX2_guessOf_22 rfl ?_
  refine jMlN (pc' := 24) C dX2_guessOf_23 rfl 11 (by decide) (65 * i + v) (e65 i v) (by unfold lenM; simp; omega) ?_
  refine j_isub (pc' := 25) C dX2_guessOf_24 rfl ?_
  refine j_i2l (pc' := 26) C dX2_guessOf_25 rfl ?_
  refine j_lreturn _ C dX2_guessOf_26 ?_
  exact ⟨rfl, rfl⟩
set_option maxRecDepth 100000 in
set_option maxHeartbeats 4000000 in
theorem c_MrowsOf (l : Launch) (D : va_G) (cI cO : ClassId) (B : Nat → Nat) (t : TS) (tb a by_ : Int32) (i v : Nat) (et : tb = nI i) (ea : a = nI v) (hi : i < 3) (hv : v < 64) : Kt l yX2_rowsOf wsX2_rowsOf 1 (wM cI B) D cI cO (fun _ => True) [.ref (B 10), .int tb, .int a, .int by_] t (fun r u => r = some (.long (mRowsOf t i v by_)) ∧ u = t) := by
  refine Kt_of (cc := cX2_rowsOf) (n := 4) (ret := some .long) rfl (by decide +kernel) (Nat.le_of_ble_eq_true rfl) rfl [some (.ref (B 10)), some (.int tb), some (.int a), some (.int by_)] rfl ?_
  intro p e s m args below meth c A C _ _
  have hinM : ∀ w ∈ wsX20, w ∈ wsX2_rowsOf := by decide +kernel
  refine j_iload_n (pc' := 1) C dX2_rowsOf_0 rfl rfl ?_
  refine j_if_eq (tgt := 19) (pc' := 4) C dX2_rowsOf_1 (by decide) rfl (fun h1 => ?_) (fun h1 => ?_)
  · skip
    refine j_aload_n (pc' := 20) C dX2_rowsOf_19 rfl rfl ?_
    refine j_iload_n (pc' := 21) C dX2_rowsOf_20 rfl rfl ?_
    refine j_iload_n (pc' := 22) C dX2_rowsOf_21 rfl rfl ?_
    refine jc_same (pc' := 25) C (c_guessOf l D cI cO B t tb a i v et ea hi hv) 2 gX2_rowsOf_X2_guessOf rfl (by decide +kernel) (by decide) rfl rfl (by decide) 2 10 rfl rfl (wM_obj cI B _) (wM_addr cI B _) dX2_rowsOf_22 rfl (fun v1 u1 hp1 => ?_)
    obtain ⟨rfl, rfl⟩ := hp1
    show J p l e _ s m args below meth c 0 0 _ _ D A _ _ [_] _
    refine j_lreturn _ C dX2_rowsOf_25 ?_
    exact ⟨by rw [mRowsOf, if_pos h1], rfl⟩
    
  · skip
    refine j_aload_n (pc' := 5) C dX2_rowsOf_4 rfl rfl ?_
    refine jMa (pc' := 8) C dX2_rowsOf_5 rfl 8 (by decide) hinM (by decide +kernel) ?_
    refine j_bipush (pc' := 10) C dX2_rowsOf_8 rfl 64 (by decide) ?_
    refine j_iload_n (pc' := 11) C dX2_rowsOf_10 rfl rfl ?_
    refine j_imul (pc' := 12) C dX2_rowsOf_11 rfl ?_
    refine j_iload_n (pc' := 13) C dX2_rowsOf_12 rfl rfl ?_
    refine j_iadd (pc' := 14) C dX2_rowsOf_13 rfl ?_
    refine jMlN (pc' := 15) C dX2_rowsOf_14 rfl 8 (by decide) (64 * i + v) (by rw [et, ea]; exact e64 i v) (by unfold lenM; simp; omega) ?_
    refine j_i2l (pc' := 16) C dX2_rowsOf_15 rfl ?_
    refine j_goto (pc' := 25) C dX2_rowsOf_16 (by decide) ?_
    refine j_lreturn _ C dX2_rowsOf_25 ?_
    exact ⟨by rw [mRowsOf, if_neg h1], rfl⟩
set_option maxRecDepth 100000 in
set_option maxHeartbeats 4000000 in
theorem c_binds (l : Launch) (D : va_G) (cI cO : ClassId) (B : Nat → Nat) (t : TS) (a b by_ : Int32) (x y : Nat) (ea : a = nI x) (eb : b = nI y) (hx : x ≤ 64) (hy : y ≤ 64) : Kt l yX2_binds wsX2_binds 1 (wM cI B) D cI cO (fun _ => True) [.ref (B 10), .int a, .int b, .int by_] t (fun r u => r = none ∧ u = (t.1, ua t.2 9 (bindsF (t.2 9) x y by_))) := by
  refine Kt_of (cc := cX2_binds) (n := 7) (ret := none) rfl (by decide +kernel) (Nat.le_of_ble_eq_true rfl) rfl [some (.ref (B 10)), some (.int a), some (.int b), some (.int by_), none, none, none] rfl ?_
  intro p e s m args below meth c A C _ _
  have hinM : ∀ w ∈ wsX20, w ∈ wsX2_binds := by decide +kernel
  subst ea
  subst eb
  have outer : by_ < t.2 9 (65 * x + y) → ∀ (k i : Nat) (g : Nat → Int32) (x5 x6 : Option Value), i + k = 65 → bindsI x y by_ k i g = bindsI x y by_ 65 0 (t.2 9) → J p l e (rmH 1) s m args below meth c 0 0 (RQ below args s D (wM cI B) (fun r u => r = none ∧ u = (t.1, ua t.2 9 (bindsF (t.2 9) x y by_))) A) 7 D A 14 [some (.ref (B 10)), some (.int (nI x)), some (.int (nI y)), some (.int by_), some (.int (nI i)), x5, x6] [] (wM cI B (t.1, ua t.2 9 (g))) := by
    intro hlt k
    have hB : bindsF (t.2 9) x y by_ = bindsI x y by_ 65 0 (t.2 9) := by rw [bindsF, if_pos hlt]
    induction k with
    | zero =>
      intro i g x5 x6 hi hr
      have hi2 : i = 65 := by omega
      subst hi2
      refine j_iload (pc' := 16) C dX2_binds_14 rfl rfl ?_
      refine j_bipush (pc' := 18) C dX2_binds_16 rfl 65 (by decide) ?_
      refine j_icmp_ge (tgt := 93) (pc' := 21) C dX2_binds_18 (by decide) rfl (fun h18 => ?_) (fun h18 => ?_)
      · skip
        refine j_return _ C dX2_binds_93 ?_
        exact ⟨rfl, by rw [hB, ← hr]; rfl⟩
      · skip
        exact absurd (by decide) h18 -- done
    | succ k ih =>
      intro i g x5 x6 hi hr
      have inner : ∀ (q j : Nat) (g1 : Nat → Int32), j + q = 65 → bindsJ y i (g (65 * i + x) + by_) q j g1 = bindsJ y i (g (65 * i + x) + by_) 65 0 g → J p l e (rmH 1) s m args below meth c 0 0 (RQ below args s D (wM cI B) (fun r u => r = none ∧ u = (t.1, ua t.2 9 (bindsF (t.2 9) x y by_))) A) 7 D A 35 [some (.ref (B 10)), some (.int (nI x)), some (.int (nI y)), some (.int by_), some (.int (nI i)), some (.int (g (65 * i + x) + by_)), some (.int (nI j))] [] (wM cI B (t.1, ua t.2 9 (g1))) := by
        intro q
        induction q with
        | zero =>
          intro j g1 hj hq
          have hj2 : j = 65 := by omega
          subst hj2
          refine j_iload (pc' := 37) C dX2_binds_35 rfl rfl ?_
          refine j_bipush (pc' := 39) C dX2_binds_37 rfl 65 (by decide) ?_
          refine j_icmp_ge (tgt := 87) (pc' := 42) C dX2_binds_39 (by decide) rfl (fun h39 => ?_) (fun h39 => ?_)
          · skip
            refine j_iinc (pc' := 90) C dX2_binds_87 rfl 1 (by decide) rfl (by decide) rfl ?_
            refine j_goto (pc' := 14) C dX2_binds_90 (by decide) ?_
            rw [nI_1]
            exact ih (i + 1) g1 _ _ (by omega) (by rw [show g1 = bindsJ y i (g (65 * i + x) + by_) 65 0 g from hq]; exact hr)
          · skip
            exact absurd (by decide) h39 -- done
        | succ q jh =>
          intro j g1 hj hq
          refine j_iload (pc' := 37) C dX2_binds_35 rfl rfl ?_
          refine j_bipush (pc' := 39) C dX2_binds_37 rfl 65 (by decide) ?_
          refine j_icmp_ge (tgt := 87) (pc' := 42) C dX2_binds_39 (by decide) rfl (fun h39 => ?_) (fun h39 => ?_)
          · skip
            exact absurd h39 (nI_ge (b := 65) (by omega) (by decide)) -- done
          · skip
            refine j_aload_n (pc' := 43) C dX2_binds_42 rfl rfl ?_
            refine jMa (pc' := 46) C dX2_binds_43 rfl 9 (by decide) hinM (by decide +kernel) ?_
            refine j_bipush (pc' := 48) C dX2_binds_46 rfl 65 (by decide) ?_
            refine j_iload (pc' := 50) C dX2_binds_48 rfl rfl ?_
            refine j_imul (pc' := 51) C dX2_binds_50 rfl ?_
            refine j_iload (pc' := 53) C dX2_binds_51 rfl rfl ?_
            refine j_iadd (pc' := 54) C dX2_binds_53 rfl ?_
            refine j_aload_n (pc' := 55) C dX2_binds_54 rfl rfl ?_
            refine jMa (pc' := 58) C dX2_binds_55 rfl 9 (by decide) hinM (by decide +kernel) ?_
            refine j_bipush (pc' := 60) C dX2_binds_58 rfl 65 (by decide) ?_
            refine j_iload (pc' := 62) C dX2_binds_60 rfl rfl ?_
            refine j_imul (pc' := 63) C dX2_binds_62 rfl ?_
            refine j_iload (pc' := 65) C dX2_binds_63 rfl rfl ?_
            refine j_iadd (pc' := 66) C dX2_binds_65 rfl ?_
            refine jMlN (pc' := 67) C dX2_binds_66 rfl 9 (by decide) (65 * i + j) (e65 i j) (by unfold lenM; simp; omega) ?_
            refine j_iload (pc' := 69) C dX2_binds_67 rfl rfl ?_
            refine j_aload_n (pc' := 70) C dX2_binds_69 rfl rfl ?_
            refine j_iload_n (pc' := 71) C dX2_binds_70 rfl rfl ?_
            refine j_iload (pc' := 73) C dX2_binds_71 rfl rfl ?_
            refine jc_same (pc' := 76) C (c_most l D cI cO B ((t.1, ua t.2 9 g1)) (nI y) (nI j) (y) (j) rfl rfl hy (by omega)) 2 gX2_binds_X2_most rfl (by decide +kernel) (by decide) rfl rfl (Nat.le_of_ble_eq_true rfl) 2 10 rfl rfl (wM_obj cI B _) (wM_addr cI B _) dX2_binds_73 rfl (fun v1 u1 hp1 => ?_)
            obtain ⟨rfl, hu1⟩ := hp1
            rw [hu1]
            clear hu1 u1
            show J p l e _ s m args below meth c 0 0 _ _ D A _ _ [_, _, _, _, _] _
            refine j_iadd (pc' := 77) C dX2_binds_76 rfl ?_
            refine j_min (pc' := 80) C dX2_binds_77 rfl (by decide +kernel) (by decide +kernel) (by decide +kernel) (by decide +kernel) (by decide) (Nat.le_of_ble_eq_true rfl) ?_
            refine jMsN (pc' := 81) C dX2_binds_80 rfl 9 (by decide) (65 * i + j) (e65 i j) (by unfold lenM; simp; omega) ?_
            refine j_iinc (pc' := 84) C dX2_binds_81 rfl 1 (by decide) rfl (by decide) rfl ?_
            refine j_goto (pc' := 35) C dX2_binds_84 (by decide) ?_
            rw [nI_1]
            refine j_ws (ws' := wM cI B (t.1, ua t.2 9 (upd g1 (65 * i + j) (if g (65 * i + x) + by_ + g1 (65 * y + j) < g1 (65 * i + j) then g (65 * i + x) + by_ + g1 (65 * y + j) else g1 (65 * i + j))))) (by show wM cI B (t.1, ua (ua t.2 9 g1) 9 _) = _; rw [ua_ua]; rfl) ?_
            exact jh (j + 1) _ (by omega) (by rw [← hq]; rfl)
            
      refine j_iload (pc' := 16) C dX2_binds_14 rfl rfl ?_
      refine j_bipush (pc' := 18) C dX2_binds_16 rfl 65 (by decide) ?_
      refine j_icmp_ge (tgt := 93) (pc' := 21) C dX2_binds_18 (by decide) rfl (fun h18 => ?_) (fun h18 => ?_)
      · skip
        exact absurd h18 (nI_ge (b := 65) (by omega) (by decide)) -- done
      · skip
        refine j_aload_n (pc' := 22) C dX2_binds_21 rfl rfl ?_
        refine j_iload (pc' := 24) C dX2_binds_22 rfl rfl ?_
        refine j_iload_n (pc' := 25) C dX2_binds_24 rfl rfl ?_
        refine jc_same (pc' := 28) C (c_most l D cI cO B ((t.1, ua t.2 9 g)) (nI i) (nI x) (i) (x) rfl rfl (by omega) hx) 2 gX2_binds_X2_most rfl (by decide +kernel) (by decide) rfl rfl (Nat.le_of_ble_eq_true rfl) 2 10 rfl rfl (wM_obj cI B _) (wM_addr cI B _) dX2_binds_25 rfl (fun v1 u1 hp1 => ?_)
        obtain ⟨rfl, hu1⟩ := hp1
        rw [hu1]
        clear hu1 u1
        show J p l e _ s m args below meth c 0 0 _ _ D A _ _ [_] _
        refine j_iload_n (pc' := 29) C dX2_binds_28 rfl rfl ?_
        refine j_iadd (pc' := 30) C dX2_binds_29 rfl ?_
        refine j_istore (pc' := 32) C dX2_binds_30 rfl (by decide) rfl ?_
        refine j_iconst (pc' := 33) C dX2_binds_32 rfl 0 (by decide) ?_
        refine j_istore (pc' := 35) C dX2_binds_33 rfl (by decide) rfl ?_
        exact inner 65 0 g (by omega) rfl
        
  refine j_iload_n (pc' := 1) C dX2_binds_0 rfl rfl ?_
  refine j_aload_n (pc' := 2) C dX2_binds_1 rfl rfl ?_
  refine j_iload_n (pc' := 3) C dX2_binds_2 rfl rfl ?_
  refine j_iload_n (pc' := 4) C dX2_binds_3 rfl rfl ?_
  refine jc_same (pc' := 7) C (c_most l D cI cO B (t) (nI x) (nI y) (x) (y) rfl rfl hx hy) 2 gX2_binds_X2_most rfl (by decide +kernel) (by decide) rfl rfl (Nat.le_of_ble_eq_true rfl) 2 10 rfl rfl (wM_obj cI B _) (wM_addr cI B _) dX2_binds_4 rfl (fun v1 u1 hp1 => ?_)
  obtain ⟨rfl, hu1⟩ := hp1
  rw [hu1]
  clear hu1 u1
  show J p l e _ s m args below meth c 0 0 _ _ D A _ _ [_, _] _
  refine j_icmp_lt (tgt := 11) (pc' := 10) C dX2_binds_7 (by decide) rfl (fun h7 => ?_) (fun h7 => ?_)
  · skip
    refine j_iconst (pc' := 12) C dX2_binds_11 rfl 0 (by decide) ?_
    refine j_istore (pc' := 14) C dX2_binds_12 rfl (by decide) rfl ?_
    refine j_ws (ws' := wM cI B (t.1, ua t.2 9 (t.2 9))) (by rw [ua_self]) ?_
    exact outer h7 65 0 _ _ _ (by omega) rfl
  · skip
    refine j_return _ C dX2_binds_10 ?_
    exact ⟨rfl, by rw [bindsF, if_neg h7, ua_self]⟩
  
