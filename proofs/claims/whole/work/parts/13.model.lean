/-! the Model: tests of arguments, writes -/
def isInF (v lo hi : Int32) : Int32 := if v < lo then 0 else if hi < v then 0 else 1
def isSpanF (a b : Int32) : Int32 := if a < 0 then 0 else if b < a then 0 else if 64 < b then 0 else 1
theorem isInF_01 (v lo hi : Int32) : isInF v lo hi = 0 ∨ isInF v lo hi = 1 := by
  unfold isInF; (repeat' split) <;> first | exact Or.inl rfl | exact Or.inr rfl
theorem isInF_1 {v lo hi : Int32} (h : ¬ isInF v lo hi = 0) : lo ≤ v ∧ v ≤ hi := by
  unfold isInF at h
  split at h
  · exact absurd rfl h
  · split at h
    · exact absurd rfl h
    · exact ⟨i32_nlt ‹_›, i32_nlt ‹_›⟩
theorem isInF_nI {v : Int32} (k : Nat) (hk : k < 2 ^ 30) (h : ¬ isInF v 0 (nI k) = 0) : ∃ i : Nat, i ≤ k ∧ v = nI i := by
  obtain ⟨h1, h2⟩ := isInF_1 h
  exact nI_of2 (nI_toInt (by omega)) (i32_le_nlt h1) h2
theorem isTb {v : Int32} (h : ¬ isInF v 0 2 = 0) : ∃ i : Nat, i < 3 ∧ v = nI i := by
  obtain ⟨i, h1, h2⟩ := isInF_nI 2 (by decide) h
  exact ⟨i, by omega, h2⟩
theorem isSpanF_1 {a b : Int32} (h : ¬ isSpanF a b = 0) : ∃ i j : Nat, i ≤ j ∧ j ≤ 64 ∧ a = nI i ∧ b = nI j := by
  unfold isSpanF at h
  split at h
  · exact absurd rfl h
  · rename_i h1
    split at h
    · exact absurd rfl h
    · rename_i h2
      split at h
      · exact absurd rfl h
      · rename_i h3
        have h2' := i32_nlt h2
        have h3' := i32_nlt h3
        have h0 : ¬ b < 0 := by
          intro q
          rw [Int32.lt_iff_toInt_lt] at q h1
          rw [Int32.le_iff_toInt_le] at h2'
          omega
        obtain ⟨j, hj, ej⟩ := nI_of2 (M := 64) (n := 64) (by decide) h0 h3'
        subst ej
        obtain ⟨i, hi, ei⟩ := nI_of2 (M := nI j) (n := j) (nI_toInt (by omega)) h1 h2'
        exact ⟨i, j, hi, hj, ei, rfl⟩
set_option maxRecDepth 100000 in
set_option maxHeartbeats 4000000 in
theorem c_isIn (l : Launch) (D : va_G) (cI cO : ClassId) (v lo hi : Int32) : Kt l yX2_isIn wsX2_isIn 0 wN D cI cO (fun _ => True) [.int v, .int lo, .int hi] () (fun r _ => r = some (.int (isInF v lo hi))) := by
  refine Kt_of (cc := cX2_isIn) (n := 3) (ret := some .boolean) rfl (by decide +kernel) (Nat.le_of_ble_eq_true rfl) rfl [some (.int v), some (.int lo), some (.int hi)] rfl ?_
  intro p e s m args below meth c A C _ _
  refine j_iload_n (pc' := 1) C dX2_isIn_0 rfl rfl ?_
  refine j_iload_n (pc' := 2) C dX2_isIn_1 rfl rfl ?_
  refine j_icmp_lt (tgt := 14) (pc' := 5) C dX2_isIn_2 (by decide) rfl (fun h2 => ?_) (fun h2 => ?_)
  · skip
    have hF : isInF v lo hi = 0 := by rw [isInF, if_pos h2]
    refine j_iconst (pc' := 15) C dX2_isIn_14 rfl 0 (by decide) ?_
    refine j_zreturn _ C dX2_isIn_15 ?_ ?_
    · first | exact Or.inl rfl | exact Or.inr rfl
    · show _ = _; rw [hF]
  · skip
    refine j_iload_n (pc' := 6) C dX2_isIn_5 rfl rfl ?_
    refine j_iload_n (pc' := 7) C dX2_isIn_6 rfl rfl ?_
    refine j_icmp_gt (tgt := 14) (pc' := 10) C dX2_isIn_7 (by decide) rfl (fun h7 => ?_) (fun h7 => ?_)
    · skip
      have hF : isInF v lo hi = 0 := by rw [isInF, if_neg h2, if_pos h7]
      refine j_iconst (pc' := 15) C dX2_isIn_14 rfl 0 (by decide) ?_
      refine j_zreturn _ C dX2_isIn_15 ?_ ?_
      · first | exact Or.inl rfl | exact Or.inr rfl
      · show _ = _; rw [hF]
    · skip
      have hF : isInF v lo hi = 1 := by rw [isInF, if_neg h2, if_neg h7]
      refine j_iconst (pc' := 11) C dX2_isIn_10 rfl 1 (by decide) ?_
      refine j_goto (pc' := 15) C dX2_isIn_11 (by decide) ?_
      refine j_zreturn _ C dX2_isIn_15 ?_ ?_
      · first | exact Or.inl rfl | exact Or.inr rfl
      · show _ = _; rw [hF]
set_option maxRecDepth 100000 in
set_option maxHeartbeats 4000000 in
theorem c_isTable (l : Launch) (D : va_G) (cI cO : ClassId) (v : Int32) : Kt l yX2_isTable wsX2_isTable 1 wN D cI cO (fun _ => True) [.int v] () (fun r _ => r = some (.int (isInF v 0 2))) := by
  refine Kt_of (cc := cX2_isTable) (n := 1) (ret := some .boolean) rfl (by decide +kernel) (Nat.le_of_ble_eq_true rfl) rfl [some (.int v)] rfl ?_
  intro p e s m args below meth c A C _ _
  refine j_iload_n (pc' := 1) C dX2_isTable_0 rfl rfl ?_
  refine j_iconst (pc' := 2) C dX2_isTable_1 rfl 0 (by decide) ?_
  refine j_iconst (pc' := 3) C dX2_isTable_2 rfl 2 (by decide) ?_
  refine jc_nil (pc' := 6) C (c_isIn l D cI cO _ _ _) 3 gX2_isTable_X2_isIn rfl (by decide +kernel) (by decide) rfl rfl (Nat.le_of_ble_eq_true rfl) dX2_isTable_3 rfl (fun v1 hp1 => ?_)
  subst hp1
  show J p l e _ s m args below meth c 0 0 _ _ D A _ _ [_] _
  refine j_zreturn _ C dX2_isTable_6 ?_ ?_
  · exact isInF_01 _ _ _
  · rfl
  
set_option maxRecDepth 100000 in
set_option maxHeartbeats 4000000 in
theorem c_isSpanM (l : Launch) (D : va_G) (cI cO : ClassId) (a b : Int32) : Kt l yX2_isSpan wsX2_isSpan 0 wN D cI cO (fun _ => True) [.int a, .int b] () (fun r _ => r = some (.int (isSpanF a b))) := by
  refine Kt_of (cc := cX2_isSpan) (n := 2) (ret := some .boolean) rfl (by decide +kernel) (Nat.le_of_ble_eq_true rfl) rfl [some (.int a), some (.int b)] rfl ?_
  intro p e s m args below meth c A C _ _
  refine j_iload_n (pc' := 1) C dX2_isSpan_0 rfl rfl ?_
  refine j_if_lt (tgt := 19) (pc' := 4) C dX2_isSpan_1 (by decide) rfl (fun h1 => ?_) (fun h1 => ?_)
  · skip
    have hF : isSpanF a b = 0 := by rw [isSpanF, if_pos h1]
    refine j_iconst (pc' := 20) C dX2_isSpan_19 rfl 0 (by decide) ?_
    refine j_zreturn _ C dX2_isSpan_20 ?_ ?_
    · first | exact Or.inl rfl | exact Or.inr rfl
    · show _ = _; rw [hF]
  · skip
    refine j_iload_n (pc' := 5) C dX2_isSpan_4 rfl rfl ?_
    refine j_iload_n (pc' := 6) C dX2_isSpan_5 rfl rfl ?_
    refine j_icmp_gt (tgt := 19) (pc' := 9) C dX2_isSpan_6 (by decide) rfl (fun h6 => ?_) (fun h6 => ?_)
    · skip
      have hF : isSpanF a b = 0 := by rw [isSpanF, if_neg h1, if_pos h6]
      refine j_iconst (pc' := 20) C dX2_isSpan_19 rfl 0 (by decide) ?_
      refine j_zreturn _ C dX2_isSpan_20 ?_ ?_
      · first | exact Or.inl rfl | exact Or.inr rfl
      · show _ = _; rw [hF]
    · skip
      refine j_iload_n (pc' := 10) C dX2_isSpan_9 rfl rfl ?_
      refine j_bipush (pc' := 12) C dX2_isSpan_10 rfl 64 (by decide) ?_
      refine j_icmp_gt (tgt := 19) (pc' := 15) C dX2_isSpan_12 (by decide) rfl (fun h12 => ?_) (fun h12 => ?_)
      · skip
        have hF : isSpanF a b = 0 := by rw [isSpanF, if_neg h1, if_neg h6, if_pos h12]
        refine j_iconst (pc' := 20) C dX2_isSpan_19 rfl 0 (by decide) ?_
        refine j_zreturn _ C dX2_isSpan_20 ?_ ?_
        · first | exact Or.inl rfl | exact Or.inr rfl
        · show _ = _; rw [hF]
      · skip
        have hF : isSpanF a b = 1 := by rw [isSpanF, if_neg h1, if_neg h6, if_neg h12]
        refine j_iconst (pc' := 16) C dX2_isSpan_15 rfl 1 (by decide) ?_
        refine j_goto (pc' := 20) C dX2_isSpan_16 (by decide) ?_
        refine j_zreturn _ C dX2_isSpan_20 ?_ ?_
        · first | exact Or.inl rfl | exact Or.inr rfl
        · show _ = _; rw [hF]
def mRows (t : TS) (tb many : Int32) : Int32 × TS := if isInF tb 0 2 = 0 ∨ isInF many 0 1000000 = 0 then (0, t) else (1, (upd t.1 10 (-1), ua (ua t.2 0 (upd (t.2 0) tb.toNatClampNeg many)) 1 (upd (t.2 1) tb.toNatClampNeg 0)))
def mRoom (t : TS) (tb many : Int32) : Int32 × TS := if isInF tb 0 2 = 0 ∨ isInF many 1 40 = 0 then (0, t) else (1, (upd t.1 10 (-1), ua t.2 2 (upd (t.2 2) tb.toNatClampNeg many)))
def mTruth (t : TS) (tb v many : Int32) : Int32 × TS := if isInF tb 0 2 = 0 ∨ isInF v 0 63 = 0 ∨ isInF many 0 100000 = 0 then (0, t) else (1, (t.1, ua t.2 8 (upd (t.2 8) (64 * tb.toNatClampNeg + v.toNatClampNeg) many)))
set_option maxRecDepth 100000 in
set_option maxHeartbeats 4000000 in
theorem c_Mrows (l : Launch) (D : va_G) (cI cO : ClassId) (B : Nat → Nat) (t : TS) (tb many : Int32) : Kt l yX2_rows wsX2_rows 2 (wM cI B) D cI cO (fun _ => True) [.ref (B 10), .int tb, .int many] t (fun r u => r = some (.int (mRows t tb many).1) ∧ u = (mRows t tb many).2) := by
  refine Kt_of (cc := cX2_rows) (n := 3) (ret := some .boolean) rfl (by decide +kernel) (Nat.le_of_ble_eq_true rfl) rfl [some (.ref (B 10)), some (.int tb), some (.int many)] rfl ?_
  intro p e s m args below meth c A C _ _
  have hinM : ∀ w ∈ wsX20, w ∈ wsX2_rows := by decide +kernel
  refine j_iload_n (pc' := 1) C dX2_rows_0 rfl rfl ?_
  refine jc_nil (pc' := 4) C (c_isTable l D cI cO _) 1 gX2_rows_X2_isTable rfl (by decide +kernel) (by decide) rfl rfl (Nat.le_of_ble_eq_true rfl) dX2_rows_1 rfl (fun v1 hp1 => ?_)
  subst hp1
  show J p l e _ s m args below meth c 0 0 _ _ D A _ _ [_] _
  refine j_if_eq (tgt := 17) (pc' := 7) C dX2_rows_4 (by decide) rfl (fun h4 => ?_) (fun h4 => ?_)
  · skip
    have hF : mRows t tb many = (0, t) := by rw [mRows, if_pos (Or.inl h4)]
    refine j_iconst (pc' := 18) C dX2_rows_17 rfl 0 (by decide) ?_
    refine j_zreturn _ C dX2_rows_18 ?_ ?_
    · exact Or.inl rfl
    · exact ⟨by rw [hF] <;> rfl, by rw [hF] <;> rfl⟩
  · skip
    refine j_iload_n (pc' := 8) C dX2_rows_7 rfl rfl ?_
    refine j_iconst (pc' := 9) C dX2_rows_8 rfl 0 (by decide) ?_
    refine j_ldc (pc' := 11) C dX2_rows_9 rfl 1000000 (by decide +kernel) ?_
    refine jc_nil (pc' := 14) C (c_isIn l D cI cO _ _ _) 3 gX2_rows_X2_isIn rfl (by decide +kernel) (by decide) rfl rfl (Nat.le_of_ble_eq_true rfl) dX2_rows_11 rfl (fun v1 hp1 => ?_)
    subst hp1
    show J p l e _ s m args below meth c 0 0 _ _ D A _ _ [_] _
    refine j_if_ne (tgt := 19) (pc' := 17) C dX2_rows_14 (by decide) rfl (fun h14 => ?_) (fun h14 => ?_)
    · skip
      have hF : mRows t tb many = (1, (upd t.1 10 (-1), ua (ua t.2 0 (upd (t.2 0) tb.toNatClampNeg many)) 1 (upd (t.2 1) tb.toNatClampNeg 0))) := by rw [mRows, if_neg (fun q => q.elim h4 h14)]
      obtain ⟨i, hi, rfl⟩ := isTb h4
      rw [nI_clamp (by omega)] at hF
      refine j_aload_n (pc' := 20) C dX2_rows_19 rfl rfl ?_
      refine j_iconst (pc' := 21) C dX2_rows_20 rfl (-1) (by decide) ?_
      refine jMp (pc' := 24) C dX2_rows_21 rfl hinM (by decide +kernel) ?_
      refine j_aload_n (pc' := 25) C dX2_rows_24 rfl rfl ?_
      refine jMa (pc' := 28) C dX2_rows_25 rfl 0 (by decide) hinM (by decide +kernel) ?_
      refine j_iload_n (pc' := 29) C dX2_rows_28 rfl rfl ?_
      refine j_iload_n (pc' := 30) C dX2_rows_29 rfl rfl ?_
      refine jMsN (pc' := 31) C dX2_rows_30 rfl 0 (by decide) i rfl (by unfold lenM; simp; omega) ?_
      refine j_aload_n (pc' := 32) C dX2_rows_31 rfl rfl ?_
      refine jMa (pc' := 35) C dX2_rows_32 rfl 1 (by decide) hinM (by decide +kernel) ?_
      refine j_iload_n (pc' := 36) C dX2_rows_35 rfl rfl ?_
      refine j_iconst (pc' := 37) C dX2_rows_36 rfl 0 (by decide) ?_
      refine jMsN (pc' := 38) C dX2_rows_37 rfl 1 (by decide) i rfl (by unfold lenM; simp; omega) ?_
      refine j_iconst (pc' := 39) C dX2_rows_38 rfl 1 (by decide) ?_
      refine j_zreturn _ C dX2_rows_39 ?_ ?_
      · exact Or.inr rfl
      · exact ⟨by rw [hF] <;> rfl, by rw [hF] <;> rfl⟩
    · skip
      have hF : mRows t tb many = (0, t) := by rw [mRows, if_pos (Or.inr h14)]
      refine j_iconst (pc' := 18) C dX2_rows_17 rfl 0 (by decide) ?_
      refine j_zreturn _ C dX2_rows_18 ?_ ?_
      · exact Or.inl rfl
      · exact ⟨by rw [hF] <;> rfl, by rw [hF] <;> rfl⟩
    
  
set_option maxRecDepth 100000 in
set_option maxHeartbeats 4000000 in
theorem c_Mroom (l : Launch) (D : va_G) (cI cO : ClassId) (B : Nat → Nat) (t : TS) (tb many : Int32) : Kt l yX2_room wsX2_room 2 (wM cI B) D cI cO (fun _ => True) [.ref (B 10), .int tb, .int many] t (fun r u => r = some (.int (mRoom t tb many).1) ∧ u = (mRoom t tb many).2) := by
  refine Kt_of (cc := cX2_room) (n := 3) (ret := some .boolean) rfl (by decide +kernel) (Nat.le_of_ble_eq_true rfl) rfl [some (.ref (B 10)), some (.int tb), some (.int many)] rfl ?_
  intro p e s m args below meth c A C _ _
  have hinM : ∀ w ∈ wsX20, w ∈ wsX2_room := by decide +kernel
  refine j_iload_n (pc' := 1) C dX2_room_0 rfl rfl ?_
  refine jc_nil (pc' := 4) C (c_isTable l D cI cO _) 1 gX2_room_X2_isTable rfl (by decide +kernel) (by decide) rfl rfl (Nat.le_of_ble_eq_true rfl) dX2_room_1 rfl (fun v1 hp1 => ?_)
  subst hp1
  show J p l e _ s m args below meth c 0 0 _ _ D A _ _ [_] _
  refine j_if_eq (tgt := 17) (pc' := 7) C dX2_room_4 (by decide) rfl (fun h4 => ?_) (fun h4 => ?_)
  · skip
    have hF : mRoom t tb many = (0, t) := by rw [mRoom, if_pos (Or.inl h4)]
    refine j_iconst (pc' := 18) C dX2_room_17 rfl 0 (by decide) ?_
    refine j_zreturn _ C dX2_room_18 ?_ ?_
    · exact Or.inl rfl
    · exact ⟨by rw [hF] <;> rfl, by rw [hF] <;> rfl⟩
  · skip
    refine j_iload_n (pc' := 8) C dX2_room_7 rfl rfl ?_
    refine j_iconst (pc' := 9) C dX2_room_8 rfl 1 (by decide) ?_
    refine j_bipush (pc' := 11) C dX2_room_9 rfl 40 (by decide) ?_
    refine jc_nil (pc' := 14) C (c_isIn l D cI cO _ _ _) 3 gX2_room_X2_isIn rfl (by decide +kernel) (by decide) rfl rfl (Nat.le_of_ble_eq_true rfl) dX2_room_11 rfl (fun v1 hp1 => ?_)
    subst hp1
    show J p l e _ s m args below meth c 0 0 _ _ D A _ _ [_] _
    refine j_if_ne (tgt := 19) (pc' := 17) C dX2_room_14 (by decide) rfl (fun h14 => ?_) (fun h14 => ?_)
    · skip
      have hF : mRoom t tb many = (1, (upd t.1 10 (-1), ua t.2 2 (upd (t.2 2) tb.toNatClampNeg many))) := by rw [mRoom, if_neg (fun q => q.elim h4 h14)]
      obtain ⟨i, hi, rfl⟩ := isTb h4
      rw [nI_clamp (by omega)] at hF
      refine j_aload_n (pc' := 20) C dX2_room_19 rfl rfl ?_
      refine j_iconst (pc' := 21) C dX2_room_20 rfl (-1) (by decide) ?_
      refine jMp (pc' := 24) C dX2_room_21 rfl hinM (by decide +kernel) ?_
      refine j_aload_n (pc' := 25) C dX2_room_24 rfl rfl ?_
      refine jMa (pc' := 28) C dX2_room_25 rfl 2 (by decide) hinM (by decide +kernel) ?_
      refine j_iload_n (pc' := 29) C dX2_room_28 rfl rfl ?_
      refine j_iload_n (pc' := 30) C dX2_room_29 rfl rfl ?_
      refine jMsN (pc' := 31) C dX2_room_30 rfl 2 (by decide) i rfl (by unfold lenM; simp; omega) ?_
      refine j_iconst (pc' := 32) C dX2_room_31 rfl 1 (by decide) ?_
      refine j_zreturn _ C dX2_room_32 ?_ ?_
      · exact Or.inr rfl
      · exact ⟨by rw [hF] <;> rfl, by rw [hF] <;> rfl⟩
    · skip
      have hF : mRoom t tb many = (0, t) := by rw [mRoom, if_pos (Or.inr h14)]
      refine j_iconst (pc' := 18) C dX2_room_17 rfl 0 (by decide) ?_
      refine j_zreturn _ C dX2_room_18 ?_ ?_
      · exact Or.inl rfl
      · exact ⟨by rw [hF] <;> rfl, by rw [hF] <;> rfl⟩
    
  
set_option maxRecDepth 100000 in
set_option maxHeartbeats 4000000 in
theorem c_Mtruth (l : Launch) (D : va_G) (cI cO : ClassId) (B : Nat → Nat) (t : TS) (tb v many : Int32) : Kt l yX2_truth wsX2_truth 2 (wM cI B) D cI cO (fun _ => True) [.ref (B 10), .int tb, .int v, .int many] t (fun r u => r = some (.int (mTruth t tb v many).1) ∧ u = (mTruth t tb v many).2) := by
  refine Kt_of (cc := cX2_truth) (n := 4) (ret := some .boolean) rfl (by decide +kernel) (Nat.le_of_ble_eq_true rfl) rfl [some (.ref (B 10)), some (.int tb), some (.int v), some (.int many)] rfl ?_
  intro p e s m args below meth c A C _ _
  have hinM : ∀ w ∈ wsX20, w ∈ wsX2_truth := by decide +kernel
  refine j_iload_n (pc' := 1) C dX2_truth_0 rfl rfl ?_
  refine jc_nil (pc' := 4) C (c_isTable l D cI cO _) 1 gX2_truth_X2_isTable rfl (by decide +kernel) (by decide) rfl rfl (Nat.le_of_ble_eq_true rfl) dX2_truth_1 rfl (fun v1 hp1 => ?_)
  subst hp1
  show J p l e _ s m args below meth c 0 0 _ _ D A _ _ [_] _
  refine j_if_eq (tgt := 27) (pc' := 7) C dX2_truth_4 (by decide) rfl (fun h4 => ?_) (fun h4 => ?_)
  · skip
    have hF : mTruth t tb v many = (0, t) := by rw [mTruth, if_pos (Or.inl h4)]
    refine j_iconst (pc' := 28) C dX2_truth_27 rfl 0 (by decide) ?_
    refine j_zreturn _ C dX2_truth_28 ?_ ?_
    · exact Or.inl rfl
    · exact ⟨by rw [hF] <;> rfl, by rw [hF] <;> rfl⟩
  · skip
    refine j_iload_n (pc' := 8) C dX2_truth_7 rfl rfl ?_
    refine j_iconst (pc' := 9) C dX2_truth_8 rfl 0 (by decide) ?_
    refine j_bipush (pc' := 11) C dX2_truth_9 rfl 63 (by decide) ?_
    refine jc_nil (pc' := 14) C (c_isIn l D cI cO _ _ _) 3 gX2_truth_X2_isIn rfl (by decide +kernel) (by decide) rfl rfl (Nat.le_of_ble_eq_true rfl) dX2_truth_11 rfl (fun v1 hp1 => ?_)
    subst hp1
    show J p l e _ s m args below meth c 0 0 _ _ D A _ _ [_] _
    refine j_if_eq (tgt := 27) (pc' := 17) C dX2_truth_14 (by decide) rfl (fun h14 => ?_) (fun h14 => ?_)
    · skip
      have hF : mTruth t tb v many = (0, t) := by rw [mTruth, if_pos (Or.inr (Or.inl h14))]
      refine j_iconst (pc' := 28) C dX2_truth_27 rfl 0 (by decide) ?_
      refine j_zreturn _ C dX2_truth_28 ?_ ?_
      · exact Or.inl rfl
      · exact ⟨by rw [hF] <;> rfl, by rw [hF] <;> rfl⟩
    · skip
      refine j_iload_n (pc' := 18) C dX2_truth_17 rfl rfl ?_
      refine j_iconst (pc' := 19) C dX2_truth_18 rfl 0 (by decide) ?_
      refine j_ldc (pc' := 21) C dX2_truth_19 rfl 100000 (by decide +kernel) ?_
      refine jc_nil (pc' := 24) C (c_isIn l D cI cO _ _ _) 3 gX2_truth_X2_isIn rfl (by decide +kernel) (by decide) rfl rfl (Nat.le_of_ble_eq_true rfl) dX2_truth_21 rfl (fun v1 hp1 => ?_)
      subst hp1
      show J p l e _ s m args below meth c 0 0 _ _ D A _ _ [_] _
      refine j_if_ne (tgt := 29) (pc' := 27) C dX2_truth_24 (by decide) rfl (fun h24 => ?_) (fun h24 => ?_)
      · skip
        have hF : mTruth t tb v many = (1, (t.1, ua t.2 8 (upd (t.2 8) (64 * tb.toNatClampNeg + v.toNatClampNeg) many))) := by rw [mTruth, if_neg (fun q => q.elim h4 (fun q => q.elim h14 h24))]
        obtain ⟨i, hi, rfl⟩ := isTb h4
        obtain ⟨vi, hvi, rfl⟩ := isInF_nI 63 (by decide) h14
        rw [nI_clamp (show i < 2 ^ 31 by omega), nI_clamp (show vi < 2 ^ 31 by omega)] at hF
        have ei : (64 : Int32) * nI i + nI vi = nI (64 * i + vi) := by rw [show (64 : Int32) * nI i = nI (64 * i) from pk_mul 64 i, nI_add]
        refine j_aload_n (pc' := 30) C dX2_truth_29 rfl rfl ?_
        refine jMa (pc' := 33) C dX2_truth_30 rfl 8 (by decide) hinM (by decide +kernel) ?_
        refine j_bipush (pc' := 35) C dX2_truth_33 rfl 64 (by decide) ?_
        refine j_iload_n (pc' := 36) C dX2_truth_35 rfl rfl ?_
        refine j_imul (pc' := 37) C dX2_truth_36 rfl ?_
        refine j_iload_n (pc' := 38) C dX2_truth_37 rfl rfl ?_
        refine j_iadd (pc' := 39) C dX2_truth_38 rfl ?_
        refine j_iload_n (pc' := 40) C dX2_truth_39 rfl rfl ?_
        refine jMsN (pc' := 41) C dX2_truth_40 rfl 8 (by decide) (64 * i + vi) ei (by unfold lenM; simp; omega) ?_
        refine j_iconst (pc' := 42) C dX2_truth_41 rfl 1 (by decide) ?_
        refine j_zreturn _ C dX2_truth_42 ?_ ?_
        · exact Or.inr rfl
        · exact ⟨by rw [hF] <;> rfl, by rw [hF] <;> rfl⟩
      · skip
        have hF : mTruth t tb v many = (0, t) := by rw [mTruth, if_pos (Or.inr (Or.inr h24))]
        refine j_iconst (pc' := 28) C dX2_truth_27 rfl 0 (by decide) ?_
        refine j_zreturn _ C dX2_truth_28 ?_ ?_
        · exact Or.inl rfl
        · exact ⟨by rw [hF] <;> rfl, by rw [hF] <;> rfl⟩
      
    
  
def okM (t : TS) : Prop := ∀ i, i < 3 → vp_in (t.2 1 i) 41 ∧ ∀ s, s < (t.2 1 i).toNatClampNeg → vp_in (t.2 3 (40 * i + s)) 65 ∧ vp_in (t.2 4 (40 * i + s)) 65
def mapR (v : Int32 → Int32) (f : Nat → Int32) (lo n : Nat) : Nat → Int32 := fun j => if lo ≤ j ∧ j < lo + n then v (f j) else f j
theorem mapR_0 (v : Int32 → Int32) (f : Nat → Int32) (lo : Nat) : mapR v f lo 0 = f := by
  funext j; unfold mapR; rw [if_neg (by omega)]
theorem mapR_at (v : Int32 → Int32) (f : Nat → Int32) (lo i : Nat) : mapR v f lo i (lo + i) = f (lo + i) := by
  unfold mapR; rw [if_neg (by omega)]
theorem mapR_s (v : Int32 → Int32) (f : Nat → Int32) (lo i : Nat) : upd (mapR v f lo i) (lo + i) (v (f (lo + i))) = mapR v f lo (i + 1) := by
  funext j
  unfold upd mapR
  by_cases h : j = lo + i
  · subst h; rw [if_pos rfl, if_pos (by omega)]
  · by_cases h2 : lo ≤ j ∧ j < lo + i
    · rw [if_neg h, if_pos h2, if_pos (by omega)]
    · rw [if_neg h, if_neg h2, if_neg (by omega)]
theorem mapR_k (v : Int32 → Int32) (f : Nat → Int32) (lo i : Nat) (h : v (f (lo + i)) = f (lo + i)) : mapR v f lo i = mapR v f lo (i + 1) := by
  rw [← mapR_s, h]
  funext j
  unfold upd
  by_cases hj : j = lo + i
  · subst hj; rw [if_pos rfl, mapR_at]
  · rw [if_neg hj]
def mgrowV (x many : Int32) : Int32 := if x = 1000001 then x else (if x + many < 1000000 then x + many else 1000000)
def mshrV (x many : Int32) : Int32 := if 0 < x - many then x - many else 0
def mPut (t : TS) (tb many : Int32) : Int32 × TS := if isInF tb 0 2 = 0 ∨ isInF many 1 (1000000 - t.2 0 tb.toNatClampNeg) = 0 then (-1, t) else (t.2 0 tb.toNatClampNeg + many, (upd t.1 10 (-1), ua (ua t.2 0 (upd (t.2 0) tb.toNatClampNeg (t.2 0 tb.toNatClampNeg + many))) 6 (mapR (fun x => mgrowV x many) (t.2 6) (40 * tb.toNatClampNeg) (t.2 1 tb.toNatClampNeg).toNatClampNeg)))
def mStrike (t : TS) (tb many : Int32) : Int32 × TS := if isInF tb 0 2 = 0 ∨ isInF many 1 (t.2 0 tb.toNatClampNeg) = 0 then (-1, t) else (t.2 0 tb.toNatClampNeg - many, (upd t.1 10 (-1), ua (ua t.2 0 (upd (t.2 0) tb.toNatClampNeg (t.2 0 tb.toNatClampNeg - many))) 5 (mapR (fun x => mshrV x many) (t.2 5) (40 * tb.toNatClampNeg) (t.2 1 tb.toNatClampNeg).toNatClampNeg)))
set_option maxRecDepth 100000 in
set_option maxHeartbeats 4000000 in
theorem c_Mput (l : Launch) (D : va_G) (cI cO : ClassId) (B : Nat → Nat) (t : TS) (hok : okM t) (tb many : Int32) : Kt l yX2_put wsX2_put 2 (wM cI B) D cI cO (fun _ => True) [.ref (B 10), .int tb, .int many] t (fun r u => r = some (.int (mPut t tb many).1) ∧ u = (mPut t tb many).2) := by
  refine Kt_of (cc := cX2_put) (n := 4) (ret := some .int) rfl (by decide +kernel) (Nat.le_of_ble_eq_true rfl) rfl [some (.ref (B 10)), some (.int tb), some (.int many), none] rfl ?_
  intro p e s m args below meth c A C _ _
  have hinM : ∀ w ∈ wsX20, w ∈ wsX2_put := by decide +kernel
  refine j_iload_n (pc' := 1) C dX2_put_0 rfl rfl ?_
  refine jc_nil (pc' := 4) C (c_isTable l D cI cO _) 1 gX2_put_X2_isTable rfl (by decide +kernel) (by decide) rfl rfl (Nat.le_of_ble_eq_true rfl) dX2_put_1 rfl (fun v1 hp1 => ?_)
  subst hp1
  show J p l e _ s m args below meth c 0 0 _ _ D A _ _ [_] _
  refine j_if_eq (tgt := 24) (pc' := 7) C dX2_put_4 (by decide) rfl (fun h4 => ?_) (fun h4 => ?_)
  · skip
    have hF : mPut t tb many = (-1, t) := by rw [mPut, if_pos (Or.inl h4)]
    refine j_iconst (pc' := 25) C dX2_put_24 rfl (-1) (by decide) ?_
    refine j_ireturn _ C dX2_put_25 ?_
    exact ⟨by rw [hF] <;> rfl, by rw [hF] <;> rfl⟩
  · skip
    obtain ⟨i, hi, rfl⟩ := isTb h4
    refine j_iload_n (pc' := 8) C dX2_put_7 rfl rfl ?_
    refine j_iconst (pc' := 9) C dX2_put_8 rfl 1 (by decide) ?_
    refine j_ldc (pc' := 11) C dX2_put_9 rfl 1000000 (by decide +kernel) ?_
    refine j_aload_n (pc' := 12) C dX2_put_11 rfl rfl ?_
    refine jMa (pc' := 15) C dX2_put_12 rfl 0 (by decide) hinM (by decide +kernel) ?_
    refine j_iload_n (pc' := 16) C dX2_put_15 rfl rfl ?_
    refine jMlN (pc' := 17) C dX2_put_16 rfl 0 (by decide) i rfl (by unfold lenM; simp; omega) ?_
    refine j_isub (pc' := 18) C dX2_put_17 rfl ?_
    refine jc_nil (pc' := 21) C (c_isIn l D cI cO _ _ _) 3 gX2_put_X2_isIn rfl (by decide +kernel) (by decide) rfl rfl (Nat.le_of_ble_eq_true rfl) dX2_put_18 rfl (fun v1 hp1 => ?_)
    subst hp1
    show J p l e _ s m args below meth c 0 0 _ _ D A _ _ [_] _
    refine j_if_ne (tgt := 26) (pc' := 24) C dX2_put_21 (by decide) rfl (fun h21 => ?_) (fun h21 => ?_)
    · skip
      refine j_aload_n (pc' := 27) C dX2_put_26 rfl rfl ?_
      refine j_iconst (pc' := 28) C dX2_put_27 rfl (-1) (by decide) ?_
      refine jMp (pc' := 31) C dX2_put_28 rfl hinM (by decide +kernel) ?_
      refine j_aload_n (pc' := 32) C dX2_put_31 rfl rfl ?_
      refine jMa (pc' := 35) C dX2_put_32 rfl 0 (by decide) hinM (by decide +kernel) ?_
      refine j_iload_n (pc' := 36) C dX2_put_35 rfl rfl ?_
      refine j_dup2 (pc' := 37) C dX2_put_36 rfl rfl rfl ?_
      refine jMlN (pc' := 38) C dX2_put_37 rfl 0 (by decide) i rfl (by unfold lenM; simp; omega) ?_
      refine j_iload_n (pc' := 39) C dX2_put_38 rfl rfl ?_
      refine j_iadd (pc' := 40) C dX2_put_39 rfl ?_
      refine jMsN (pc' := 41) C dX2_put_40 rfl 0 (by decide) i rfl (by unfold lenM; simp; omega) ?_
      refine j_bipush (pc' := 43) C dX2_put_41 rfl 40 (by decide) ?_
      refine j_iload_n (pc' := 44) C dX2_put_43 rfl rfl ?_
      refine j_imul (pc' := 45) C dX2_put_44 rfl ?_
      refine j_istore_n (pc' := 46) C dX2_put_45 rfl (by decide) rfl ?_
      have hc2 : ¬ isInF many 1 (1000000 - t.2 0 (nI i).toNatClampNeg) = 0 := by rw [nI_clamp (by omega)]; exact h21
      obtain ⟨en, hn41⟩ := vp_in_c (hok i hi).1 (by decide)
      have hF : mPut t (nI i) many = (t.2 0 i + many, (upd t.1 10 (-1), ua (ua t.2 0 (upd (t.2 0) i (t.2 0 i + many))) 6 (mapR (fun x => mgrowV x many) (t.2 6) (40 * i) (t.2 1 i).toNatClampNeg))) := by
        rw [mPut, if_neg (fun q => q.elim h4 hc2), nI_clamp (by omega)]
      generalize hN : (t.2 1 i).toNatClampNeg = N at en hn41 hF
      have ebd : (40 : Int32) * nI i + t.2 1 i = nI (40 * i + N) := by rw [en, show (40 : Int32) * nI i = nI (40 * i) from pk_mul 40 i, nI_add]
      have loop : ∀ (k j : Nat), j + k = N → J p l e (rmH 2) s m args below meth c 0 0 (RQ below args s D (wM cI B) (fun r u => r = some (.int (mPut t (nI i) many).1) ∧ u = (mPut t (nI i) many).2) A) 4 D A 46 [some (.ref (B 10)), some (.int (nI i)), some (.int many), some (.int (nI (40 * i + j)))] [] (wMW cI B (upd t.1 10 (-1), ua t.2 0 (upd (t.2 0) i (t.2 0 i + many))) 6 (mapR (fun x => mgrowV x many) (t.2 6) (40 * i) j)) := by
        intro k
        induction k with
        | zero =>
          intro j hj
          have hj2 : j = N := by omega
          subst hj2
          refine j_iload_n (pc' := 47) C dX2_put_46 rfl rfl ?_
          refine j_bipush (pc' := 49) C dX2_put_47 rfl 40 (by decide) ?_
          refine j_iload_n (pc' := 50) C dX2_put_49 rfl rfl ?_
          refine j_imul (pc' := 51) C dX2_put_50 rfl ?_
          refine j_aload_n (pc' := 52) C dX2_put_51 rfl rfl ?_
          refine jNa (pc' := 55) C dX2_put_52 rfl 1 (by decide) hinM (by decide +kernel) ?_
          refine j_iload_n (pc' := 56) C dX2_put_55 rfl rfl ?_
          refine jNlN (pc' := 57) C dX2_put_56 rfl 1 (by decide) (by decide) i rfl (by unfold lenM; simp; omega) ?_
          refine j_iadd (pc' := 58) C dX2_put_57 rfl ?_
          refine j_icmp_ge (tgt := 97) (pc' := 61) C dX2_put_58 (by decide) rfl (fun h58 => ?_) (fun h58 => ?_)
          · skip
            refine j_aload_n (pc' := 98) C dX2_put_97 rfl rfl ?_
            refine jNa (pc' := 101) C dX2_put_98 rfl 0 (by decide) hinM (by decide +kernel) ?_
            refine j_iload_n (pc' := 102) C dX2_put_101 rfl rfl ?_
            refine jNlN (pc' := 103) C dX2_put_102 rfl 0 (by decide) (by decide) i rfl (by unfold lenM; simp; omega) ?_
            refine j_ireturn _ C dX2_put_103 ?_
            refine ⟨?_, by rw [hF] <;> rfl⟩
            rw [hF]
            show some (Value.int (upd (t.2 0) i _ i)) = _
            rw [pk_us]
          · skip
            exact absurd (by show (40 : Int32) * nI i + t.2 1 i ≤ _; rw [ebd]; exact nI_le (Nat.le_refl _) (by omega)) h58 -- done
        | succ k ih =>
          intro j hj
          refine j_iload_n (pc' := 47) C dX2_put_46 rfl rfl ?_
          refine j_bipush (pc' := 49) C dX2_put_47 rfl 40 (by decide) ?_
          refine j_iload_n (pc' := 50) C dX2_put_49 rfl rfl ?_
          refine j_imul (pc' := 51) C dX2_put_50 rfl ?_
          refine j_aload_n (pc' := 52) C dX2_put_51 rfl rfl ?_
          refine jNa (pc' := 55) C dX2_put_52 rfl 1 (by decide) hinM (by decide +kernel) ?_
          refine j_iload_n (pc' := 56) C dX2_put_55 rfl rfl ?_
          refine jNlN (pc' := 57) C dX2_put_56 rfl 1 (by decide) (by decide) i rfl (by unfold lenM; simp; omega) ?_
          refine j_iadd (pc' := 58) C dX2_put_57 rfl ?_
          refine j_icmp_ge (tgt := 97) (pc' := 61) C dX2_put_58 (by decide) rfl (fun h58 => ?_) (fun h58 => ?_)
          · skip
            exact absurd h58 (by show ¬ (40 : Int32) * nI i + t.2 1 i ≤ _; rw [ebd]; exact nI_ge (by omega) (by omega)) -- done
          · skip
            refine j_aload_n (pc' := 62) C dX2_put_61 rfl rfl ?_
            refine jNa (pc' := 65) C dX2_put_62 rfl 6 (by decide) hinM (by decide +kernel) ?_
            refine j_iload_n (pc' := 66) C dX2_put_65 rfl rfl ?_
            refine jNgN (pc' := 67) C dX2_put_66 rfl (by decide) (40 * i + j) rfl (by unfold lenM; simp; omega) ?_
            refine j_ldc (pc' := 69) C dX2_put_67 rfl 1000001 (by decide +kernel) ?_
            refine j_icmp_eq (tgt := 91) (pc' := 72) C dX2_put_69 (by decide) rfl (fun h69 => ?_) (fun h69 => ?_)
            · skip
              refine j_iinc (pc' := 94) C dX2_put_91 rfl 1 (by decide) rfl (by decide) rfl ?_
              refine j_goto (pc' := 46) C dX2_put_94 (by decide) ?_
              first
                | (rw [mapR_at] at h69; rw [mapR_k (fun x => mgrowV x many) (t.2 6) (40 * i) j (by show mgrowV _ _ = _; rw [mgrowV, if_pos h69]), nI_1]; exact ih (j + 1) (by omega))
                | (rw [mapR_at] at h69 ⊢; rw [show (if t.2 6 (40 * i + j) + many < 1000000 then t.2 6 (40 * i + j) + many else 1000000) = (fun x => mgrowV x many) (t.2 6 (40 * i + j)) from (by show _ = mgrowV _ _; rw [mgrowV, if_neg h69]), mapR_s, nI_1]; exact ih (j + 1) (by omega))
            · skip
              refine j_aload_n (pc' := 73) C dX2_put_72 rfl rfl ?_
              refine jNa (pc' := 76) C dX2_put_73 rfl 6 (by decide) hinM (by decide +kernel) ?_
              refine j_iload_n (pc' := 77) C dX2_put_76 rfl rfl ?_
              refine j_ldc (pc' := 79) C dX2_put_77 rfl 1000000 (by decide +kernel) ?_
              refine j_aload_n (pc' := 80) C dX2_put_79 rfl rfl ?_
              refine jNa (pc' := 83) C dX2_put_80 rfl 6 (by decide) hinM (by decide +kernel) ?_
              refine j_iload_n (pc' := 84) C dX2_put_83 rfl rfl ?_
              refine jNgN (pc' := 85) C dX2_put_84 rfl (by decide) (40 * i + j) rfl (by unfold lenM; simp; omega) ?_
              refine j_iload_n (pc' := 86) C dX2_put_85 rfl rfl ?_
              refine j_iadd (pc' := 87) C dX2_put_86 rfl ?_
              refine j_min (pc' := 90) C dX2_put_87 rfl (by decide +kernel) (by decide +kernel) (by decide +kernel) (by decide +kernel) (by decide) (Nat.le_of_ble_eq_true rfl) ?_
              refine jNsN (pc' := 91) C dX2_put_90 rfl (by decide) (40 * i + j) rfl (by unfold lenM; simp; omega) ?_
              refine j_iinc (pc' := 94) C dX2_put_91 rfl 1 (by decide) rfl (by decide) rfl ?_
              refine j_goto (pc' := 46) C dX2_put_94 (by decide) ?_
              first
                | (rw [mapR_at] at h69; rw [mapR_k (fun x => mgrowV x many) (t.2 6) (40 * i) j (by show mgrowV _ _ = _; rw [mgrowV, if_pos h69]), nI_1]; exact ih (j + 1) (by omega))
                | (rw [mapR_at] at h69 ⊢; rw [show (if t.2 6 (40 * i + j) + many < 1000000 then t.2 6 (40 * i + j) + many else 1000000) = (fun x => mgrowV x many) (t.2 6 (40 * i + j)) from (by show _ = mgrowV _ _; rw [mgrowV, if_neg h69]), mapR_s, nI_1]; exact ih (j + 1) (by omega))
      have hb0 := loop N 0 (by omega)
      unfold wMW at hb0
      rw [mapR_0] at hb0
      rw [show ua (upd t.1 10 (-1), ua t.2 0 (upd (t.2 0) i (t.2 0 i + many))).2 6 (t.2 6) = (upd t.1 10 (-1), ua t.2 0 (upd (t.2 0) i (t.2 0 i + many))).2 from ua_self (upd t.1 10 (-1), ua t.2 0 (upd (t.2 0) i (t.2 0 i + many))).2 6, Nat.add_zero, show nI (40 * i) = (40 : Int32) * nI i from (pk_mul 40 i).symm] at hb0
      exact hb0
    · skip
      have hF : mPut t (nI i) many = (-1, t) := by rw [mPut, if_pos (Or.inr (by rw [nI_clamp (by omega)]; exact h21))]
      refine j_iconst (pc' := 25) C dX2_put_24 rfl (-1) (by decide) ?_
      refine j_ireturn _ C dX2_put_25 ?_
      exact ⟨by rw [hF] <;> rfl, by rw [hF] <;> rfl⟩
    
  
set_option maxRecDepth 100000 in
set_option maxHeartbeats 4000000 in
theorem c_Mstrike (l : Launch) (D : va_G) (cI cO : ClassId) (B : Nat → Nat) (t : TS) (hok : okM t) (tb many : Int32) : Kt l yX2_strike wsX2_strike 2 (wM cI B) D cI cO (fun _ => True) [.ref (B 10), .int tb, .int many] t (fun r u => r = some (.int (mStrike t tb many).1) ∧ u = (mStrike t tb many).2) := by
  refine Kt_of (cc := cX2_strike) (n := 4) (ret := some .int) rfl (by decide +kernel) (Nat.le_of_ble_eq_true rfl) rfl [some (.ref (B 10)), some (.int tb), some (.int many), none] rfl ?_
  intro p e s m args below meth c A C _ _
  have hinM : ∀ w ∈ wsX20, w ∈ wsX2_strike := by decide +kernel
  refine j_iload_n (pc' := 1) C dX2_strike_0 rfl rfl ?_
  refine jc_nil (pc' := 4) C (c_isTable l D cI cO _) 1 gX2_strike_X2_isTable rfl (by decide +kernel) (by decide) rfl rfl (Nat.le_of_ble_eq_true rfl) dX2_strike_1 rfl (fun v1 hp1 => ?_)
  subst hp1
  show J p l e _ s m args below meth c 0 0 _ _ D A _ _ [_] _
  refine j_if_eq (tgt := 21) (pc' := 7) C dX2_strike_4 (by decide) rfl (fun h4 => ?_) (fun h4 => ?_)
  · skip
    have hF : mStrike t tb many = (-1, t) := by rw [mStrike, if_pos (Or.inl h4)]
    refine j_iconst (pc' := 22) C dX2_strike_21 rfl (-1) (by decide) ?_
    refine j_ireturn _ C dX2_strike_22 ?_
    exact ⟨by rw [hF] <;> rfl, by rw [hF] <;> rfl⟩
  · skip
    obtain ⟨i, hi, rfl⟩ := isTb h4
    refine j_iload_n (pc' := 8) C dX2_strike_7 rfl rfl ?_
    refine j_iconst (pc' := 9) C dX2_strike_8 rfl 1 (by decide) ?_
    refine j_aload_n (pc' := 10) C dX2_strike_9 rfl rfl ?_
    refine jMa (pc' := 13) C dX2_strike_10 rfl 0 (by decide) hinM (by decide +kernel) ?_
    refine j_iload_n (pc' := 14) C dX2_strike_13 rfl rfl ?_
    refine jMlN (pc' := 15) C dX2_strike_14 rfl 0 (by decide) i rfl (by unfold lenM; simp; omega) ?_
    refine jc_nil (pc' := 18) C (c_isIn l D cI cO _ _ _) 3 gX2_strike_X2_isIn rfl (by decide +kernel) (by decide) rfl rfl (Nat.le_of_ble_eq_true rfl) dX2_strike_15 rfl (fun v1 hp1 => ?_)
    subst hp1
    show J p l e _ s m args below meth c 0 0 _ _ D A _ _ [_] _
    refine j_if_ne (tgt := 23) (pc' := 21) C dX2_strike_18 (by decide) rfl (fun h18 => ?_) (fun h18 => ?_)
    · skip
      refine j_aload_n (pc' := 24) C dX2_strike_23 rfl rfl ?_
      refine j_iconst (pc' := 25) C dX2_strike_24 rfl (-1) (by decide) ?_
      refine jMp (pc' := 28) C dX2_strike_25 rfl hinM (by decide +kernel) ?_
      refine j_aload_n (pc' := 29) C dX2_strike_28 rfl rfl ?_
      refine jMa (pc' := 32) C dX2_strike_29 rfl 0 (by decide) hinM (by decide +kernel) ?_
      refine j_iload_n (pc' := 33) C dX2_strike_32 rfl rfl ?_
      refine j_dup2 (pc' := 34) C dX2_strike_33 rfl rfl rfl ?_
      refine jMlN (pc' := 35) C dX2_strike_34 rfl 0 (by decide) i rfl (by unfold lenM; simp; omega) ?_
      refine j_iload_n (pc' := 36) C dX2_strike_35 rfl rfl ?_
      refine j_isub (pc' := 37) C dX2_strike_36 rfl ?_
      refine jMsN (pc' := 38) C dX2_strike_37 rfl 0 (by decide) i rfl (by unfold lenM; simp; omega) ?_
      refine j_bipush (pc' := 40) C dX2_strike_38 rfl 40 (by decide) ?_
      refine j_iload_n (pc' := 41) C dX2_strike_40 rfl rfl ?_
      refine j_imul (pc' := 42) C dX2_strike_41 rfl ?_
      refine j_istore_n (pc' := 43) C dX2_strike_42 rfl (by decide) rfl ?_
      have hc2 : ¬ isInF many 1 (t.2 0 (nI i).toNatClampNeg) = 0 := by rw [nI_clamp (by omega)]; exact h18
      obtain ⟨en, hn41⟩ := vp_in_c (hok i hi).1 (by decide)
      have hF : mStrike t (nI i) many = (t.2 0 i - many, (upd t.1 10 (-1), ua (ua t.2 0 (upd (t.2 0) i (t.2 0 i - many))) 5 (mapR (fun x => mshrV x many) (t.2 5) (40 * i) (t.2 1 i).toNatClampNeg))) := by
        rw [mStrike, if_neg (fun q => q.elim h4 hc2), nI_clamp (by omega)]
      generalize hN : (t.2 1 i).toNatClampNeg = N at en hn41 hF
      have ebd : (40 : Int32) * nI i + t.2 1 i = nI (40 * i + N) := by rw [en, show (40 : Int32) * nI i = nI (40 * i) from pk_mul 40 i, nI_add]
      have loop : ∀ (k j : Nat), j + k = N → J p l e (rmH 2) s m args below meth c 0 0 (RQ below args s D (wM cI B) (fun r u => r = some (.int (mStrike t (nI i) many).1) ∧ u = (mStrike t (nI i) many).2) A) 4 D A 43 [some (.ref (B 10)), some (.int (nI i)), some (.int many), some (.int (nI (40 * i + j)))] [] (wMW cI B (upd t.1 10 (-1), ua t.2 0 (upd (t.2 0) i (t.2 0 i - many))) 5 (mapR (fun x => mshrV x many) (t.2 5) (40 * i) j)) := by
        intro k
        induction k with
        | zero =>
          intro j hj
          have hj2 : j = N := by omega
          subst hj2
          refine j_iload_n (pc' := 44) C dX2_strike_43 rfl rfl ?_
          refine j_bipush (pc' := 46) C dX2_strike_44 rfl 40 (by decide) ?_
          refine j_iload_n (pc' := 47) C dX2_strike_46 rfl rfl ?_
          refine j_imul (pc' := 48) C dX2_strike_47 rfl ?_
          refine j_aload_n (pc' := 49) C dX2_strike_48 rfl rfl ?_
          refine jNa (pc' := 52) C dX2_strike_49 rfl 1 (by decide) hinM (by decide +kernel) ?_
          refine j_iload_n (pc' := 53) C dX2_strike_52 rfl rfl ?_
          refine jNlN (pc' := 54) C dX2_strike_53 rfl 1 (by decide) (by decide) i rfl (by unfold lenM; simp; omega) ?_
          refine j_iadd (pc' := 55) C dX2_strike_54 rfl ?_
          refine j_icmp_ge (tgt := 82) (pc' := 58) C dX2_strike_55 (by decide) rfl (fun h55 => ?_) (fun h55 => ?_)
          · skip
            refine j_aload_n (pc' := 83) C dX2_strike_82 rfl rfl ?_
            refine jNa (pc' := 86) C dX2_strike_83 rfl 0 (by decide) hinM (by decide +kernel) ?_
            refine j_iload_n (pc' := 87) C dX2_strike_86 rfl rfl ?_
            refine jNlN (pc' := 88) C dX2_strike_87 rfl 0 (by decide) (by decide) i rfl (by unfold lenM; simp; omega) ?_
            refine j_ireturn _ C dX2_strike_88 ?_
            refine ⟨?_, by rw [hF] <;> rfl⟩
            rw [hF]
            show some (Value.int (upd (t.2 0) i _ i)) = _
            rw [pk_us]
          · skip
            exact absurd (by show (40 : Int32) * nI i + t.2 1 i ≤ _; rw [ebd]; exact nI_le (Nat.le_refl _) (by omega)) h55 -- done
        | succ k ih =>
          intro j hj
          refine j_iload_n (pc' := 44) C dX2_strike_43 rfl rfl ?_
          refine j_bipush (pc' := 46) C dX2_strike_44 rfl 40 (by decide) ?_
          refine j_iload_n (pc' := 47) C dX2_strike_46 rfl rfl ?_
          refine j_imul (pc' := 48) C dX2_strike_47 rfl ?_
          refine j_aload_n (pc' := 49) C dX2_strike_48 rfl rfl ?_
          refine jNa (pc' := 52) C dX2_strike_49 rfl 1 (by decide) hinM (by decide +kernel) ?_
          refine j_iload_n (pc' := 53) C dX2_strike_52 rfl rfl ?_
          refine jNlN (pc' := 54) C dX2_strike_53 rfl 1 (by decide) (by decide) i rfl (by unfold lenM; simp; omega) ?_
          refine j_iadd (pc' := 55) C dX2_strike_54 rfl ?_
          refine j_icmp_ge (tgt := 82) (pc' := 58) C dX2_strike_55 (by decide) rfl (fun h55 => ?_) (fun h55 => ?_)
          · skip
            exact absurd h55 (by show ¬ (40 : Int32) * nI i + t.2 1 i ≤ _; rw [ebd]; exact nI_ge (by omega) (by omega)) -- done
          · skip
            refine j_aload_n (pc' := 59) C dX2_strike_58 rfl rfl ?_
            refine jNa (pc' := 62) C dX2_strike_59 rfl 5 (by decide) hinM (by decide +kernel) ?_
            refine j_iload_n (pc' := 63) C dX2_strike_62 rfl rfl ?_
            refine j_iconst (pc' := 64) C dX2_strike_63 rfl 0 (by decide) ?_
            refine j_aload_n (pc' := 65) C dX2_strike_64 rfl rfl ?_
            refine jNa (pc' := 68) C dX2_strike_65 rfl 5 (by decide) hinM (by decide +kernel) ?_
            refine j_iload_n (pc' := 69) C dX2_strike_68 rfl rfl ?_
            refine jNgN (pc' := 70) C dX2_strike_69 rfl (by decide) (40 * i + j) rfl (by unfold lenM; simp; omega) ?_
            refine j_iload_n (pc' := 71) C dX2_strike_70 rfl rfl ?_
            refine j_isub (pc' := 72) C dX2_strike_71 rfl ?_
            refine j_max (pc' := 75) C dX2_strike_72 rfl (by decide +kernel) (by decide +kernel) (by decide +kernel) (by decide +kernel) (by decide) (Nat.le_of_ble_eq_true rfl) ?_
            refine jNsN (pc' := 76) C dX2_strike_75 rfl (by decide) (40 * i + j) rfl (by unfold lenM; simp; omega) ?_
            refine j_iinc (pc' := 79) C dX2_strike_76 rfl 1 (by decide) rfl (by decide) rfl ?_
            refine j_goto (pc' := 43) C dX2_strike_79 (by decide) ?_
            rw [mapR_at, show (if 0 < t.2 5 (40 * i + j) - many then t.2 5 (40 * i + j) - many else 0) = (fun x => mshrV x many) (t.2 5 (40 * i + j)) from rfl, mapR_s, nI_1]
            exact ih (j + 1) (by omega)
      have hb0 := loop N 0 (by omega)
      unfold wMW at hb0
      rw [mapR_0] at hb0
      rw [show ua (upd t.1 10 (-1), ua t.2 0 (upd (t.2 0) i (t.2 0 i - many))).2 5 (t.2 5) = (upd t.1 10 (-1), ua t.2 0 (upd (t.2 0) i (t.2 0 i - many))).2 from ua_self (upd t.1 10 (-1), ua t.2 0 (upd (t.2 0) i (t.2 0 i - many))).2 5, Nat.add_zero, show nI (40 * i) = (40 : Int32) * nI i from (pk_mul 40 i).symm] at hb0
      exact hb0
    · skip
      have hF : mStrike t (nI i) many = (-1, t) := by rw [mStrike, if_pos (Or.inr (by rw [nI_clamp (by omega)]; exact h18))]
      refine j_iconst (pc' := 22) C dX2_strike_21 rfl (-1) (by decide) ?_
      refine j_ireturn _ C dX2_strike_22 ?_
      exact ⟨by rw [hF] <;> rfl, by rw [hF] <;> rfl⟩
    
  
