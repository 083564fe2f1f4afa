/-! the class's own methods -/
def tbV (B : Nat → Nat → Nat) (tb : Int32) : Value := if isInF tb 0 2 = 0 then .null else .ref (B tb.toNatClampNeg 0)
def textsF (n : Int32) : Int32 := 1 <<< ((2 * n) &&& 31)
def okX (T : Nat → TS) : Prop := ∀ i, i < 3 → okT (T i)
def xRows (T : Nat → TS) (tb many : Int32) : Int32 × (Nat → TS) := if isInF tb 0 2 = 0 ∨ many < 0 ∨ ¬ many ≤ 1000000 then (0, T) else (1, uT T tb.toNatClampNeg (startF (T tb.toNatClampNeg) many))
def xPut (T : Nat → TS) (tb many : Int32) : Int32 × (Nat → TS) := if isInF tb 0 2 = 0 ∨ many < 1 ∨ ¬ many ≤ 1000000 - (T tb.toNatClampNeg).1 0 then (-1, T) else ((growF (T tb.toNatClampNeg) many).1 0, uT T tb.toNatClampNeg (growF (T tb.toNatClampNeg) many))
def xStrike (T : Nat → TS) (tb many : Int32) : Int32 × (Nat → TS) := if isInF tb 0 2 = 0 ∨ many < 1 ∨ ¬ many ≤ (T tb.toNatClampNeg).1 0 then (-1, T) else ((shrF (T tb.toNatClampNeg) many).1 0, uT T tb.toNatClampNeg (shrF (T tb.toNatClampNeg) many))
def xRoom (T : Nat → TS) (tb many : Int32) : Int32 × (Nat → TS) := if isInF tb 0 2 = 0 ∨ many < 1 ∨ ¬ many ≤ 40 then (0, T) else (1, uT T tb.toNatClampNeg (roomF (T tb.toNatClampNeg) many))
def xTruth (T : Nat → TS) (tb v many : Int32) : Int32 × (Nat → TS) := if isInF tb 0 2 = 0 ∨ v < 0 ∨ 64 ≤ v ∨ many < 0 ∨ ¬ many ≤ 100000 then (0, T) else (1, uT T tb.toNatClampNeg ((T tb.toNatClampNeg).1, ua (T tb.toNatClampNeg).2 8 (upd ((T tb.toNatClampNeg).2 8) v.toNatClampNeg many)))
def xSight (T : Nat → TS) (tb a b ct al : Int32) : Int32 × (Nat → TS) := if isInF tb 0 2 = 0 ∨ isSpanF a b = 0 ∨ ct < 0 ∨ ¬ ct ≤ (T tb.toNatClampNeg).1 0 then (-1, T) else if (T tb.toNatClampNeg).1 1 < 40 then ((T tb.toNatClampNeg).1 1, uT T tb.toNatClampNeg (addF (T tb.toNatClampNeg) a b ct (if al = 0 then ct else 1000001))) else (-1, T)
def xBegins (T : Nat → TS) (tb n v ct : Int32) : Int32 × (Nat → TS) := if n < 0 ∨ 3 < n ∨ v < 0 ∨ ¬ v < textsF n then (-1, T) else xSight T tb (v * textsF (3 - n)) (v * textsF (3 - n) + textsF (3 - n)) ct 0
def xSightVal (T : Nat → TS) (i j : Nat) (w : Int32) : Int32 × (Nat → TS) := if w = 0 then ((T i).2 3 j, T) else if w = 1 then ((T i).2 4 j, T) else if w = 2 then ((T i).2 5 j, T) else if w = 3 then ((T i).2 6 j, T) else if w = 4 then ((settleF (T i)).2 7 j, uT T i (settleF (T i))) else (-1, T)
def xSightOf (T : Nat → TS) (tb sg w : Int32) : Int32 × (Nat → TS) := if isInF tb 0 2 = 0 ∨ sg < 0 ∨ ¬ sg < (T tb.toNatClampNeg).1 1 then (-1, T) else xSightVal T tb.toNatClampNeg sg.toNatClampNeg w
def xLeast (T : Nat → TS) (tb a b : Int32) : Int32 × (Nat → TS) := if isInF tb 0 2 = 0 ∨ isSpanF a b = 0 then (-1, T) else ((leastF (T tb.toNatClampNeg) a.toNatClampNeg b.toNatClampNeg).1, uT T tb.toNatClampNeg (leastF (T tb.toNatClampNeg) a.toNatClampNeg b.toNatClampNeg).2)
def xGreatest (T : Nat → TS) (tb a b : Int32) : Int32 × (Nat → TS) := if isInF tb 0 2 = 0 ∨ isSpanF a b = 0 then (-1, T) else (- (leastF (T tb.toNatClampNeg) b.toNatClampNeg a.toNatClampNeg).1, uT T tb.toNatClampNeg (leastF (T tb.toNatClampNeg) b.toNatClampNeg a.toNatClampNeg).2)
def xGuess (T : Nat → TS) (tb a b : Int32) : Int32 × (Nat → TS) := if isInF tb 0 2 = 0 ∨ isSpanF a b = 0 then (-1, T) else ((spreadF (T tb.toNatClampNeg)).2 9 b.toNatClampNeg - (spreadF (T tb.toNatClampNeg)).2 9 a.toNatClampNeg, uT T tb.toNatClampNeg (spreadF (T tb.toNatClampNeg)))
def xAgrees (T : Nat → TS) (tb : Int32) : Int32 × (Nat → TS) := if isInF tb 0 2 = 0 then (-1, T) else (if (agreeF (T tb.toNatClampNeg)).1 = 0 then 0 else 1, uT T tb.toNatClampNeg (agreeF (T tb.toNatClampNeg)).2)
def xMany (T : Nat → TS) (i : Nat) (st : Int32) : Int32 × (Nat → TS) := (cntF ((settleF (T i)).2 7) st ((T i).1 1).toNatClampNeg, uT T i (settleF (T i)))
def xTable (T : Nat → TS) (tb w : Int32) : Int32 × (Nat → TS) := if isInF tb 0 2 = 0 then (-1, T) else if w = 0 then ((T tb.toNatClampNeg).1 0, T) else if w = 1 then ((T tb.toNatClampNeg).1 1, T) else if w = 2 then xMany T tb.toNatClampNeg 0 else if w = 3 then xMany T tb.toNatClampNeg 1 else if w = 4 then xMany T tb.toNatClampNeg 2 else if w = 5 then ((T tb.toNatClampNeg).1 2, T) else (-1, T)
theorem not3 {tb : Int32} (h : 3 ≤ tb) : 2 < tb := by
  rw [Int32.le_iff_toInt_le] at h
  rw [Int32.lt_iff_toInt_lt]
  have e1 : (3 : Int32).toInt = 3 := rfl
  have e2 : (2 : Int32).toInt = 2 := rfl
  omega
theorem lt3 {tb : Int32} (h : ¬ 3 ≤ tb) : ¬ 2 < tb := by
  intro q
  apply h
  rw [Int32.lt_iff_toInt_lt] at q
  rw [Int32.le_iff_toInt_le]
  have e1 : (3 : Int32).toInt = 3 := rfl
  have e2 : (2 : Int32).toInt = 2 := rfl
  omega
set_option maxRecDepth 100000 in
set_option maxHeartbeats 4000000 in
theorem c_isSpanC (l : Launch) (D : va_G) (cI cO : ClassId) (a b : Int32) : Kt l yX1_isSpan wsX1_isSpan 0 wN D cI cO (fun _ => True) [.int a, .int b] () (fun r _ => r = some (.int (isSpanF a b))) := by
  refine Kt_of (cc := cX1_isSpan) (n := 2) (ret := some .boolean) rfl (by decide +kernel) (Nat.le_of_ble_eq_true rfl) rfl [some (.int a), some (.int b)] rfl ?_
  intro p e s m args below meth c A C _ _
  refine j_iconst (pc' := 1) C dX1_isSpan_0 rfl 0 (by decide) ?_
  refine j_iload_n (pc' := 2) C dX1_isSpan_1 rfl rfl ?_
  refine j_icmp_gt (tgt := 20) (pc' := 5) C dX1_isSpan_2 (by decide) rfl (fun h2 => ?_) (fun h2 => ?_)
  · skip
    have hF : isSpanF a b = 0 := by rw [isSpanF, if_pos h2]
    refine j_iconst (pc' := 21) C dX1_isSpan_20 rfl 0 (by decide) ?_
    refine j_zreturn _ C dX1_isSpan_21 ?_ ?_
    · first | exact Or.inl rfl | exact Or.inr rfl
    · show _ = _; rw [hF]
  · skip
    refine j_iload_n (pc' := 6) C dX1_isSpan_5 rfl rfl ?_
    refine j_iload_n (pc' := 7) C dX1_isSpan_6 rfl rfl ?_
    refine j_icmp_gt (tgt := 20) (pc' := 10) C dX1_isSpan_7 (by decide) rfl (fun h7 => ?_) (fun h7 => ?_)
    · skip
      have hF : isSpanF a b = 0 := by rw [isSpanF, if_neg h2, if_pos h7]
      refine j_iconst (pc' := 21) C dX1_isSpan_20 rfl 0 (by decide) ?_
      refine j_zreturn _ C dX1_isSpan_21 ?_ ?_
      · first | exact Or.inl rfl | exact Or.inr rfl
      · show _ = _; rw [hF]
    · skip
      refine j_iload_n (pc' := 11) C dX1_isSpan_10 rfl rfl ?_
      refine j_bipush (pc' := 13) C dX1_isSpan_11 rfl 64 (by decide) ?_
      refine j_icmp_gt (tgt := 20) (pc' := 16) C dX1_isSpan_13 (by decide) rfl (fun h13 => ?_) (fun h13 => ?_)
      · skip
        have hF : isSpanF a b = 0 := by rw [isSpanF, if_neg h2, if_neg h7, if_pos h13]
        refine j_iconst (pc' := 21) C dX1_isSpan_20 rfl 0 (by decide) ?_
        refine j_zreturn _ C dX1_isSpan_21 ?_ ?_
        · first | exact Or.inl rfl | exact Or.inr rfl
        · show _ = _; rw [hF]
      · skip
        have hF : isSpanF a b = 1 := by rw [isSpanF, if_neg h2, if_neg h7, if_neg h13]
        refine j_iconst (pc' := 17) C dX1_isSpan_16 rfl 1 (by decide) ?_
        refine j_goto (pc' := 21) C dX1_isSpan_17 (by decide) ?_
        refine j_zreturn _ C dX1_isSpan_21 ?_ ?_
        · first | exact Or.inl rfl | exact Or.inr rfl
        · show _ = _; rw [hF]
set_option maxRecDepth 100000 in
set_option maxHeartbeats 4000000 in
theorem c_textsOf (l : Launch) (D : va_G) (cI cO : ClassId) (n : Int32) : Kt l yX1_textsOf wsX1_textsOf 0 wN D cI cO (fun _ => True) [.int n] () (fun r _ => r = some (.int (textsF n))) := by
  refine Kt_of (cc := cX1_textsOf) (n := 1) (ret := some .int) rfl (by decide +kernel) (Nat.le_of_ble_eq_true rfl) rfl [some (.int n)] rfl ?_
  intro p e s m args below meth c A C _ _
  refine j_iconst (pc' := 1) C dX1_textsOf_0 rfl 1 (by decide) ?_
  refine j_iconst (pc' := 2) C dX1_textsOf_1 rfl 2 (by decide) ?_
  refine j_iload_n (pc' := 3) C dX1_textsOf_2 rfl rfl ?_
  refine j_imul (pc' := 4) C dX1_textsOf_3 rfl ?_
  refine j_ishl (pc' := 5) C dX1_textsOf_4 rfl ?_
  refine j_ireturn _ C dX1_textsOf_5 ?_
  exact rfl
set_option maxRecDepth 100000 in
set_option maxHeartbeats 4000000 in
theorem c_tableAt (l : Launch) (D : va_G) (cI cO : ClassId) (ao ta : Nat) (B : Nat → Nat → Nat) (T : Nat → TS) (tb : Int32) : Kt l yX1_tableAt wsX1_tableAt 0 (wX cI cO ao ta B) D cI cO (fun _ => True) [.ref ao, .int tb] T (fun r u => r = some (tbV B tb) ∧ u = T) := by
  refine Kt_of (cc := cX1_tableAt) (n := 2) (ret := some (.object "CountLearner$Table")) rfl (by decide +kernel) (Nat.le_of_ble_eq_true rfl) rfl [some (.ref ao), some (.int tb)] rfl ?_
  intro p e s m args below meth c A C _ _
  have hinX : ∀ w ∈ wsX10, w ∈ wsX1_tableAt := by decide +kernel
  refine j_iload_n (pc' := 1) C dX1_tableAt_0 rfl rfl ?_
  refine j_if_lt (tgt := 18) (pc' := 4) C dX1_tableAt_1 (by decide) rfl (fun h1 => ?_) (fun h1 => ?_)
  · skip
    have hV : tbV B tb = .null := by rw [tbV, if_pos (by rw [isInF, if_pos h1])]
    refine j_null (pc' := 19) C dX1_tableAt_18 rfl ?_
    refine j_areturn _ C dX1_tableAt_19 ?_ ?_
    · first | exact Or.inl rfl | exact Or.inr ⟨_, rfl⟩
    · exact ⟨by rw [hV], rfl⟩
  · skip
    refine j_iload_n (pc' := 5) C dX1_tableAt_4 rfl rfl ?_
    refine j_iconst (pc' := 6) C dX1_tableAt_5 rfl 3 (by decide) ?_
    refine j_icmp_ge (tgt := 18) (pc' := 9) C dX1_tableAt_6 (by decide) rfl (fun h6 => ?_) (fun h6 => ?_)
    · skip
      have hV : tbV B tb = .null := by rw [tbV, if_pos (by rw [isInF, if_neg h1, if_pos (not3 h6)])]
      refine j_null (pc' := 19) C dX1_tableAt_18 rfl ?_
      refine j_areturn _ C dX1_tableAt_19 ?_ ?_
      · first | exact Or.inl rfl | exact Or.inr ⟨_, rfl⟩
      · exact ⟨by rw [hV], rfl⟩
    · skip
      have h4 : ¬ isInF tb 0 2 = 0 := by rw [isInF, if_neg h1, if_neg (lt3 h6)]; decide
      obtain ⟨i, hi, rfl⟩ := isTb h4
      have hV : tbV B (nI i) = .ref (B i 0) := by rw [tbV, if_neg h4, nI_clamp (by omega)]
      refine j_aload_n (pc' := 10) C dX1_tableAt_9 rfl rfl ?_
      refine jXa (pc' := 13) C dX1_tableAt_10 rfl hinX (by decide +kernel) ?_
      refine j_iload_n (pc' := 14) C dX1_tableAt_13 rfl rfl ?_
      refine jX_aald (pc' := 15) C dX1_tableAt_14 rfl i rfl hi ?_
      refine j_goto (pc' := 19) C dX1_tableAt_15 (by decide) ?_
      refine j_areturn _ C dX1_tableAt_19 ?_ ?_
      · first | exact Or.inl rfl | exact Or.inr ⟨_, rfl⟩
      · exact ⟨by rw [hV], rfl⟩
set_option maxRecDepth 100000 in
set_option maxHeartbeats 4000000 in
theorem c_Xrows (l : Launch) (D : va_G) (cI cO : ClassId) (ao ta : Nat) (B : Nat → Nat → Nat) (T : Nat → TS) (tb many : Int32) : Kt l yX1_rows wsX1_rows 2 (wX cI cO ao ta B) D cI cO (fun _ => True) [.ref ao, .int tb, .int many] T (fun r u => r = some (.int (xRows T tb many).1) ∧ u = (xRows T tb many).2) := by
  refine Kt_of (cc := cX1_rows) (n := 4) (ret := some .boolean) rfl (by decide +kernel) (Nat.le_of_ble_eq_true rfl) rfl [some (.ref ao), some (.int tb), some (.int many), none] rfl ?_
  intro p e s m args below meth c A C _ _
  have hinT : ∀ w ∈ wsX00, w ∈ wsX1_rows := by decide +kernel
  refine j_aload_n (pc' := 1) C dX1_rows_0 rfl rfl ?_
  refine j_iload_n (pc' := 2) C dX1_rows_1 rfl rfl ?_
  refine jc_same (pc' := 5) C (c_tableAt l D cI cO ao ta B T tb) 1 gX1_rows_X1_tableAt rfl (by decide +kernel) (by decide) rfl rfl (by decide) 1 0 rfl rfl (wX_obj cI cO ao ta B _) (wX_addr cI cO ao ta B _) dX1_rows_2 rfl (fun v1 u1 hp1 => ?_)
  obtain ⟨rfl, hu1⟩ := hp1
  rw [hu1]
  clear hu1 u1
  show J p l e _ s m args below meth c 0 0 _ _ D A _ _ [_] _
  by_cases h4 : isInF tb 0 2 = 0
  · rw [tbV, if_pos h4]
    have hF : xRows T tb many = (0, T) := by rw [xRows, if_pos (Or.inl h4)]
    refine j_astore_nN (pc' := 6) C dX1_rows_5 rfl (by decide) rfl ?_
    refine j_aload_nN (pc' := 7) C dX1_rows_6 rfl rfl ?_
    refine j_ifnullN (pc' := 20) C dX1_rows_7 (by decide) ?_
    refine j_iconst (pc' := 21) C dX1_rows_20 rfl 0 (by decide) ?_
    refine j_zreturn _ C dX1_rows_21 ?_ ?_
    · exact Or.inl rfl
    · exact ⟨by rw [hF] <;> rfl, by rw [hF] <;> rfl⟩
  · obtain ⟨i, hi, rfl⟩ := isTb h4
    rw [tbV, if_neg h4, nI_clamp (show i < 2 ^ 31 by omega)]
    refine j_astore_n (pc' := 6) C dX1_rows_5 rfl (by decide) rfl ?_
    refine j_aload_n (pc' := 7) C dX1_rows_6 rfl rfl ?_
    refine j_ifnull (pc' := 10) C dX1_rows_7 rfl ?_
    refine j_iload_n (pc' := 11) C dX1_rows_10 rfl rfl ?_
    refine j_if_lt (tgt := 20) (pc' := 14) C dX1_rows_11 (by decide) rfl (fun h11 => ?_) (fun h11 => ?_)
    · skip
      have hF : xRows T (nI i) many = (0, T) := by rw [xRows, if_pos (Or.inr (Or.inl h11))]
      refine j_iconst (pc' := 21) C dX1_rows_20 rfl 0 (by decide) ?_
      refine j_zreturn _ C dX1_rows_21 ?_ ?_
      · exact Or.inl rfl
      · exact ⟨by rw [hF] <;> rfl, by rw [hF] <;> rfl⟩
    · skip
      refine j_iload_n (pc' := 15) C dX1_rows_14 rfl rfl ?_
      refine j_ldc (pc' := 17) C dX1_rows_15 rfl 1000000 (by decide +kernel) ?_
      refine j_icmp_le (tgt := 22) (pc' := 20) C dX1_rows_17 (by decide) rfl (fun h17 => ?_) (fun h17 => ?_)
      · skip
        have hF : xRows T (nI i) many = (1, uT T i (startF (T i) many)) := by rw [xRows, nI_clamp (show i < 2 ^ 31 by omega), if_neg (fun q => q.elim h4 (fun q => q.elim h11 (fun q => q h17)))]
        refine j_aload_n (pc' := 23) C dX1_rows_22 rfl rfl ?_
        refine j_iload_n (pc' := 24) C dX1_rows_23 rfl rfl ?_
        refine jX_callT (pc' := 27) C i hi (c_startAnew l D cI cO (B i) (T i) many) 1 gX1_rows_X0_startAnew rfl (by decide +kernel) (by decide) rfl rfl (Nat.le_of_ble_eq_true rfl) rfl dX1_rows_24 rfl (fun v1 u1 hp1 => ?_)
        obtain ⟨rfl, rfl⟩ := hp1
        show J p l e _ s m args below meth c 0 0 _ _ D A _ _ [] _
        refine j_iconst (pc' := 28) C dX1_rows_27 rfl 1 (by decide) ?_
        refine j_zreturn _ C dX1_rows_28 ?_ ?_
        · exact Or.inr rfl
        · exact ⟨by rw [hF] <;> rfl, by rw [hF] <;> rfl⟩
        
      · skip
        have hF : xRows T (nI i) many = (0, T) := by rw [xRows, if_pos (Or.inr (Or.inr h17))]
        refine j_iconst (pc' := 21) C dX1_rows_20 rfl 0 (by decide) ?_
        refine j_zreturn _ C dX1_rows_21 ?_ ?_
        · exact Or.inl rfl
        · exact ⟨by rw [hF] <;> rfl, by rw [hF] <;> rfl⟩
  
set_option maxRecDepth 100000 in
set_option maxHeartbeats 4000000 in
theorem c_Xroom (l : Launch) (D : va_G) (cI cO : ClassId) (ao ta : Nat) (B : Nat → Nat → Nat) (T : Nat → TS) (tb many : Int32) : Kt l yX1_room wsX1_room 2 (wX cI cO ao ta B) D cI cO (fun _ => True) [.ref ao, .int tb, .int many] T (fun r u => r = some (.int (xRoom T tb many).1) ∧ u = (xRoom T tb many).2) := by
  refine Kt_of (cc := cX1_room) (n := 4) (ret := some .boolean) rfl (by decide +kernel) (Nat.le_of_ble_eq_true rfl) rfl [some (.ref ao), some (.int tb), some (.int many), none] rfl ?_
  intro p e s m args below meth c A C _ _
  have hinT : ∀ w ∈ wsX00, w ∈ wsX1_room := by decide +kernel
  refine j_aload_n (pc' := 1) C dX1_room_0 rfl rfl ?_
  refine j_iload_n (pc' := 2) C dX1_room_1 rfl rfl ?_
  refine jc_same (pc' := 5) C (c_tableAt l D cI cO ao ta B T tb) 1 gX1_room_X1_tableAt rfl (by decide +kernel) (by decide) rfl rfl (by decide) 1 0 rfl rfl (wX_obj cI cO ao ta B _) (wX_addr cI cO ao ta B _) dX1_room_2 rfl (fun v1 u1 hp1 => ?_)
  obtain ⟨rfl, hu1⟩ := hp1
  rw [hu1]
  clear hu1 u1
  show J p l e _ s m args below meth c 0 0 _ _ D A _ _ [_] _
  by_cases h4 : isInF tb 0 2 = 0
  · rw [tbV, if_pos h4]
    have hF : xRoom T tb many = (0, T) := by rw [xRoom, if_pos (Or.inl h4)]
    refine j_astore_nN (pc' := 6) C dX1_room_5 rfl (by decide) rfl ?_
    refine j_aload_nN (pc' := 7) C dX1_room_6 rfl rfl ?_
    refine j_ifnullN (pc' := 21) C dX1_room_7 (by decide) ?_
    refine j_iconst (pc' := 22) C dX1_room_21 rfl 0 (by decide) ?_
    refine j_zreturn _ C dX1_room_22 ?_ ?_
    · exact Or.inl rfl
    · exact ⟨by rw [hF] <;> rfl, by rw [hF] <;> rfl⟩
  · obtain ⟨i, hi, rfl⟩ := isTb h4
    rw [tbV, if_neg h4, nI_clamp (show i < 2 ^ 31 by omega)]
    refine j_astore_n (pc' := 6) C dX1_room_5 rfl (by decide) rfl ?_
    refine j_aload_n (pc' := 7) C dX1_room_6 rfl rfl ?_
    refine j_ifnull (pc' := 10) C dX1_room_7 rfl ?_
    refine j_iload_n (pc' := 11) C dX1_room_10 rfl rfl ?_
    refine j_iconst (pc' := 12) C dX1_room_11 rfl 1 (by decide) ?_
    refine j_icmp_lt (tgt := 21) (pc' := 15) C dX1_room_12 (by decide) rfl (fun h12 => ?_) (fun h12 => ?_)
    · skip
      have hF : xRoom T (nI i) many = (0, T) := by rw [xRoom, if_pos (Or.inr (Or.inl h12))]
      refine j_iconst (pc' := 22) C dX1_room_21 rfl 0 (by decide) ?_
      refine j_zreturn _ C dX1_room_22 ?_ ?_
      · exact Or.inl rfl
      · exact ⟨by rw [hF] <;> rfl, by rw [hF] <;> rfl⟩
    · skip
      refine j_iload_n (pc' := 16) C dX1_room_15 rfl rfl ?_
      refine j_bipush (pc' := 18) C dX1_room_16 rfl 40 (by decide) ?_
      refine j_icmp_le (tgt := 23) (pc' := 21) C dX1_room_18 (by decide) rfl (fun h18 => ?_) (fun h18 => ?_)
      · skip
        have hF : xRoom T (nI i) many = (1, uT T i (roomF (T i) many)) := by rw [xRoom, nI_clamp (show i < 2 ^ 31 by omega), if_neg (fun q => q.elim h4 (fun q => q.elim h12 (fun q => q h18)))]
        refine j_aload_n (pc' := 24) C dX1_room_23 rfl rfl ?_
        refine j_iload_n (pc' := 25) C dX1_room_24 rfl rfl ?_
        refine jX_callT (pc' := 28) C i hi (c_makeRoom l D cI cO (B i) (T i) many) 1 gX1_room_X0_makeRoom rfl (by decide +kernel) (by decide) rfl rfl (Nat.le_of_ble_eq_true rfl) rfl dX1_room_25 rfl (fun v1 u1 hp1 => ?_)
        obtain ⟨rfl, rfl⟩ := hp1
        show J p l e _ s m args below meth c 0 0 _ _ D A _ _ [] _
        refine j_iconst (pc' := 29) C dX1_room_28 rfl 1 (by decide) ?_
        refine j_zreturn _ C dX1_room_29 ?_ ?_
        · exact Or.inr rfl
        · exact ⟨by rw [hF] <;> rfl, by rw [hF] <;> rfl⟩
        
      · skip
        have hF : xRoom T (nI i) many = (0, T) := by rw [xRoom, if_pos (Or.inr (Or.inr h18))]
        refine j_iconst (pc' := 22) C dX1_room_21 rfl 0 (by decide) ?_
        refine j_zreturn _ C dX1_room_22 ?_ ?_
        · exact Or.inl rfl
        · exact ⟨by rw [hF] <;> rfl, by rw [hF] <;> rfl⟩
  
set_option maxRecDepth 100000 in
set_option maxHeartbeats 4000000 in
theorem c_Xput (l : Launch) (D : va_G) (cI cO : ClassId) (ao ta : Nat) (B : Nat → Nat → Nat) (T : Nat → TS) (hok : okX T) (tb many : Int32) : Kt l yX1_put wsX1_put 2 (wX cI cO ao ta B) D cI cO (fun _ => True) [.ref ao, .int tb, .int many] T (fun r u => r = some (.int (xPut T tb many).1) ∧ u = (xPut T tb many).2) := by
  refine Kt_of (cc := cX1_put) (n := 4) (ret := some .int) rfl (by decide +kernel) (Nat.le_of_ble_eq_true rfl) rfl [some (.ref ao), some (.int tb), some (.int many), none] rfl ?_
  intro p e s m args below meth c A C _ _
  have hinT : ∀ w ∈ wsX00, w ∈ wsX1_put := by decide +kernel
  refine j_aload_n (pc' := 1) C dX1_put_0 rfl rfl ?_
  refine j_iload_n (pc' := 2) C dX1_put_1 rfl rfl ?_
  refine jc_same (pc' := 5) C (c_tableAt l D cI cO ao ta B T tb) 1 gX1_put_X1_tableAt rfl (by decide +kernel) (by decide) rfl rfl (by decide) 1 0 rfl rfl (wX_obj cI cO ao ta B _) (wX_addr cI cO ao ta B _) dX1_put_2 rfl (fun v1 u1 hp1 => ?_)
  obtain ⟨rfl, hu1⟩ := hp1
  rw [hu1]
  clear hu1 u1
  show J p l e _ s m args below meth c 0 0 _ _ D A _ _ [_] _
  by_cases h4 : isInF tb 0 2 = 0
  · rw [tbV, if_pos h4]
    have hF : xPut T tb many = (-1, T) := by rw [xPut, if_pos (Or.inl h4)]
    refine j_astore_nN (pc' := 6) C dX1_put_5 rfl (by decide) rfl ?_
    refine j_aload_nN (pc' := 7) C dX1_put_6 rfl rfl ?_
    refine j_ifnullN (pc' := 26) C dX1_put_7 (by decide) ?_
    refine j_iconst (pc' := 27) C dX1_put_26 rfl (-1) (by decide) ?_
    refine j_ireturn _ C dX1_put_27 ?_
    exact ⟨by rw [hF] <;> rfl, by rw [hF] <;> rfl⟩
  · obtain ⟨i, hi, rfl⟩ := isTb h4
    rw [tbV, if_neg h4, nI_clamp (show i < 2 ^ 31 by omega)]
    refine j_astore_n (pc' := 6) C dX1_put_5 rfl (by decide) rfl ?_
    refine j_aload_n (pc' := 7) C dX1_put_6 rfl rfl ?_
    refine j_ifnull (pc' := 10) C dX1_put_7 rfl ?_
    refine j_iload_n (pc' := 11) C dX1_put_10 rfl rfl ?_
    refine j_iconst (pc' := 12) C dX1_put_11 rfl 1 (by decide) ?_
    refine j_icmp_lt (tgt := 26) (pc' := 15) C dX1_put_12 (by decide) rfl (fun h12 => ?_) (fun h12 => ?_)
    · skip
      have hF : xPut T (nI i) many = (-1, T) := by rw [xPut, if_pos (Or.inr (Or.inl h12))]
      refine j_iconst (pc' := 27) C dX1_put_26 rfl (-1) (by decide) ?_
      refine j_ireturn _ C dX1_put_27 ?_
      exact ⟨by rw [hF] <;> rfl, by rw [hF] <;> rfl⟩
    · skip
      refine j_iload_n (pc' := 16) C dX1_put_15 rfl rfl ?_
      refine j_ldc (pc' := 18) C dX1_put_16 rfl 1000000 (by decide +kernel) ?_
      refine j_aload_n (pc' := 19) C dX1_put_18 rfl rfl ?_
      refine jXTi (pc' := 22) C dX1_put_19 rfl i hi 0 (by unfold isIT; decide) hinT (by decide +kernel) ?_
      refine j_isub (pc' := 23) C dX1_put_22 rfl ?_
      refine j_icmp_le (tgt := 28) (pc' := 26) C dX1_put_23 (by decide) rfl (fun h23 => ?_) (fun h23 => ?_)
      · skip
        have hF : xPut T (nI i) many = ((growF (T i) many).1 0, uT T i (growF (T i) many)) := by rw [xPut, nI_clamp (show i < 2 ^ 31 by omega), if_neg (fun q => q.elim h4 (fun q => q.elim h12 (fun q => q h23)))]
        refine j_aload_n (pc' := 29) C dX1_put_28 rfl rfl ?_
        refine j_iload_n (pc' := 30) C dX1_put_29 rfl rfl ?_
        refine jX_callT (pc' := 33) C i hi (c_grow l D cI cO (B i) (T i) (hok i hi) many) 1 gX1_put_X0_grow rfl (by decide +kernel) (by decide) rfl rfl (Nat.le_of_ble_eq_true rfl) rfl dX1_put_30 rfl (fun v1 u1 hp1 => ?_)
        obtain ⟨rfl, rfl⟩ := hp1
        show J p l e _ s m args below meth c 0 0 _ _ D A _ _ [] _
        refine j_aload_n (pc' := 34) C dX1_put_33 rfl rfl ?_
        refine jXTi (pc' := 37) C dX1_put_34 rfl i hi 0 (by unfold isIT; decide) hinT (by decide +kernel) ?_
        refine j_ireturn _ C dX1_put_37 ?_
        exact ⟨by rw [hF, uT_s], by rw [hF]⟩
        
      · skip
        have hF : xPut T (nI i) many = (-1, T) := by rw [xPut, nI_clamp (show i < 2 ^ 31 by omega), if_pos (Or.inr (Or.inr h23))]
        refine j_iconst (pc' := 27) C dX1_put_26 rfl (-1) (by decide) ?_
        refine j_ireturn _ C dX1_put_27 ?_
        exact ⟨by rw [hF] <;> rfl, by rw [hF] <;> rfl⟩
  
set_option maxRecDepth 100000 in
set_option maxHeartbeats 4000000 in
theorem c_Xstrike (l : Launch) (D : va_G) (cI cO : ClassId) (ao ta : Nat) (B : Nat → Nat → Nat) (T : Nat → TS) (hok : okX T) (tb many : Int32) : Kt l yX1_strike wsX1_strike 2 (wX cI cO ao ta B) D cI cO (fun _ => True) [.ref ao, .int tb, .int many] T (fun r u => r = some (.int (xStrike T tb many).1) ∧ u = (xStrike T tb many).2) := by
  refine Kt_of (cc := cX1_strike) (n := 4) (ret := some .int) rfl (by decide +kernel) (Nat.le_of_ble_eq_true rfl) rfl [some (.ref ao), some (.int tb), some (.int many), none] rfl ?_
  intro p e s m args below meth c A C _ _
  have hinT : ∀ w ∈ wsX00, w ∈ wsX1_strike := by decide +kernel
  refine j_aload_n (pc' := 1) C dX1_strike_0 rfl rfl ?_
  refine j_iload_n (pc' := 2) C dX1_strike_1 rfl rfl ?_
  refine jc_same (pc' := 5) C (c_tableAt l D cI cO ao ta B T tb) 1 gX1_strike_X1_tableAt rfl (by decide +kernel) (by decide) rfl rfl (by decide) 1 0 rfl rfl (wX_obj cI cO ao ta B _) (wX_addr cI cO ao ta B _) dX1_strike_2 rfl (fun v1 u1 hp1 => ?_)
  obtain ⟨rfl, hu1⟩ := hp1
  rw [hu1]
  clear hu1 u1
  show J p l e _ s m args below meth c 0 0 _ _ D A _ _ [_] _
  by_cases h4 : isInF tb 0 2 = 0
  · rw [tbV, if_pos h4]
    have hF : xStrike T tb many = (-1, T) := by rw [xStrike, if_pos (Or.inl h4)]
    refine j_astore_nN (pc' := 6) C dX1_strike_5 rfl (by decide) rfl ?_
    refine j_aload_nN (pc' := 7) C dX1_strike_6 rfl rfl ?_
    refine j_ifnullN (pc' := 23) C dX1_strike_7 (by decide) ?_
    refine j_iconst (pc' := 24) C dX1_strike_23 rfl (-1) (by decide) ?_
    refine j_ireturn _ C dX1_strike_24 ?_
    exact ⟨by rw [hF] <;> rfl, by rw [hF] <;> rfl⟩
  · obtain ⟨i, hi, rfl⟩ := isTb h4
    rw [tbV, if_neg h4, nI_clamp (show i < 2 ^ 31 by omega)]
    refine j_astore_n (pc' := 6) C dX1_strike_5 rfl (by decide) rfl ?_
    refine j_aload_n (pc' := 7) C dX1_strike_6 rfl rfl ?_
    refine j_ifnull (pc' := 10) C dX1_strike_7 rfl ?_
    refine j_iload_n (pc' := 11) C dX1_strike_10 rfl rfl ?_
    refine j_iconst (pc' := 12) C dX1_strike_11 rfl 1 (by decide) ?_
    refine j_icmp_lt (tgt := 23) (pc' := 15) C dX1_strike_12 (by decide) rfl (fun h12 => ?_) (fun h12 => ?_)
    · skip
      have hF : xStrike T (nI i) many = (-1, T) := by rw [xStrike, if_pos (Or.inr (Or.inl h12))]
      refine j_iconst (pc' := 24) C dX1_strike_23 rfl (-1) (by decide) ?_
      refine j_ireturn _ C dX1_strike_24 ?_
      exact ⟨by rw [hF] <;> rfl, by rw [hF] <;> rfl⟩
    · skip
      refine j_iload_n (pc' := 16) C dX1_strike_15 rfl rfl ?_
      refine j_aload_n (pc' := 17) C dX1_strike_16 rfl rfl ?_
      refine jXTi (pc' := 20) C dX1_strike_17 rfl i hi 0 (by unfold isIT; decide) hinT (by decide +kernel) ?_
      refine j_icmp_le (tgt := 25) (pc' := 23) C dX1_strike_20 (by decide) rfl (fun h20 => ?_) (fun h20 => ?_)
      · skip
        have hF : xStrike T (nI i) many = ((shrF (T i) many).1 0, uT T i (shrF (T i) many)) := by rw [xStrike, nI_clamp (show i < 2 ^ 31 by omega), if_neg (fun q => q.elim h4 (fun q => q.elim h12 (fun q => q h20)))]
        refine j_aload_n (pc' := 26) C dX1_strike_25 rfl rfl ?_
        refine j_iload_n (pc' := 27) C dX1_strike_26 rfl rfl ?_
        refine jX_callT (pc' := 30) C i hi (c_shrink l D cI cO (B i) (T i) (hok i hi) many) 1 gX1_strike_X0_shrink rfl (by decide +kernel) (by decide) rfl rfl (Nat.le_of_ble_eq_true rfl) rfl dX1_strike_27 rfl (fun v1 u1 hp1 => ?_)
        obtain ⟨rfl, rfl⟩ := hp1
        show J p l e _ s m args below meth c 0 0 _ _ D A _ _ [] _
        refine j_aload_n (pc' := 31) C dX1_strike_30 rfl rfl ?_
        refine jXTi (pc' := 34) C dX1_strike_31 rfl i hi 0 (by unfold isIT; decide) hinT (by decide +kernel) ?_
        refine j_ireturn _ C dX1_strike_34 ?_
        exact ⟨by rw [hF, uT_s], by rw [hF]⟩
        
      · skip
        have hF : xStrike T (nI i) many = (-1, T) := by rw [xStrike, nI_clamp (show i < 2 ^ 31 by omega), if_pos (Or.inr (Or.inr h20))]
        refine j_iconst (pc' := 24) C dX1_strike_23 rfl (-1) (by decide) ?_
        refine j_ireturn _ C dX1_strike_24 ?_
        exact ⟨by rw [hF] <;> rfl, by rw [hF] <;> rfl⟩
  
set_option maxRecDepth 100000 in
set_option maxHeartbeats 4000000 in
theorem c_Xtruth (l : Launch) (D : va_G) (cI cO : ClassId) (ao ta : Nat) (B : Nat → Nat → Nat) (T : Nat → TS) (tb v many : Int32) : Kt l yX1_truth wsX1_truth 1 (wX cI cO ao ta B) D cI cO (fun _ => True) [.ref ao, .int tb, .int v, .int many] T (fun r u => r = some (.int (xTruth T tb v many).1) ∧ u = (xTruth T tb v many).2) := by
  refine Kt_of (cc := cX1_truth) (n := 5) (ret := some .boolean) rfl (by decide +kernel) (Nat.le_of_ble_eq_true rfl) rfl [some (.ref ao), some (.int tb), some (.int v), some (.int many), none] rfl ?_
  intro p e s m args below meth c A C _ _
  have hinT : ∀ w ∈ wsX00, w ∈ wsX1_truth := by decide +kernel
  refine j_aload_n (pc' := 1) C dX1_truth_0 rfl rfl ?_
  refine j_iload_n (pc' := 2) C dX1_truth_1 rfl rfl ?_
  refine jc_same (pc' := 5) C (c_tableAt l D cI cO ao ta B T tb) 1 gX1_truth_X1_tableAt rfl (by decide +kernel) (by decide) rfl rfl (by decide) 1 0 rfl rfl (wX_obj cI cO ao ta B _) (wX_addr cI cO ao ta B _) dX1_truth_2 rfl (fun v1 u1 hp1 => ?_)
  obtain ⟨rfl, hu1⟩ := hp1
  rw [hu1]
  clear hu1 u1
  show J p l e _ s m args below meth c 0 0 _ _ D A _ _ [_] _
  by_cases h4 : isInF tb 0 2 = 0
  · rw [tbV, if_pos h4]
    have hF : xTruth T tb v many = (0, T) := by rw [xTruth, if_pos (Or.inl h4)]
    refine j_astoreN (pc' := 7) C dX1_truth_5 rfl (by decide) rfl ?_
    refine j_aloadN (pc' := 9) C dX1_truth_7 rfl rfl ?_
    refine j_ifnullN (pc' := 32) C dX1_truth_9 (by decide) ?_
    refine j_iconst (pc' := 33) C dX1_truth_32 rfl 0 (by decide) ?_
    refine j_zreturn _ C dX1_truth_33 ?_ ?_
    · exact Or.inl rfl
    · exact ⟨by rw [hF] <;> rfl, by rw [hF] <;> rfl⟩
  · obtain ⟨i, hi, rfl⟩ := isTb h4
    rw [tbV, if_neg h4, nI_clamp (show i < 2 ^ 31 by omega)]
    refine j_astore (pc' := 7) C dX1_truth_5 rfl (by decide) rfl ?_
    refine j_aload (pc' := 9) C dX1_truth_7 rfl rfl ?_
    refine j_ifnull (pc' := 12) C dX1_truth_9 rfl ?_
    refine j_iload_n (pc' := 13) C dX1_truth_12 rfl rfl ?_
    refine j_if_lt (tgt := 32) (pc' := 16) C dX1_truth_13 (by decide) rfl (fun h13 => ?_) (fun h13 => ?_)
    · skip
      have hF : xTruth T (nI i) v many = (0, T) := by rw [xTruth, if_pos (Or.inr (Or.inl h13))]
      refine j_iconst (pc' := 33) C dX1_truth_32 rfl 0 (by decide) ?_
      refine j_zreturn _ C dX1_truth_33 ?_ ?_
      · exact Or.inl rfl
      · exact ⟨by rw [hF] <;> rfl, by rw [hF] <;> rfl⟩
    · skip
      refine j_iload_n (pc' := 17) C dX1_truth_16 rfl rfl ?_
      refine j_bipush (pc' := 19) C dX1_truth_17 rfl 64 (by decide) ?_
      refine j_icmp_ge (tgt := 32) (pc' := 22) C dX1_truth_19 (by decide) rfl (fun h19 => ?_) (fun h19 => ?_)
      · skip
        have hF : xTruth T (nI i) v many = (0, T) := by rw [xTruth, if_pos (Or.inr (Or.inr (Or.inl h19)))]
        refine j_iconst (pc' := 33) C dX1_truth_32 rfl 0 (by decide) ?_
        refine j_zreturn _ C dX1_truth_33 ?_ ?_
        · exact Or.inl rfl
        · exact ⟨by rw [hF] <;> rfl, by rw [hF] <;> rfl⟩
      · skip
        refine j_iload_n (pc' := 23) C dX1_truth_22 rfl rfl ?_
        refine j_if_lt (tgt := 32) (pc' := 26) C dX1_truth_23 (by decide) rfl (fun h23 => ?_) (fun h23 => ?_)
        · skip
          have hF : xTruth T (nI i) v many = (0, T) := by rw [xTruth, if_pos (Or.inr (Or.inr (Or.inr (Or.inl h23))))]
          refine j_iconst (pc' := 33) C dX1_truth_32 rfl 0 (by decide) ?_
          refine j_zreturn _ C dX1_truth_33 ?_ ?_
          · exact Or.inl rfl
          · exact ⟨by rw [hF] <;> rfl, by rw [hF] <;> rfl⟩
        · skip
          refine j_iload_n (pc' := 27) C dX1_truth_26 rfl rfl ?_
          refine j_ldc (pc' := 29) C dX1_truth_27 rfl 100000 (by decide +kernel) ?_
          refine j_icmp_le (tgt := 34) (pc' := 32) C dX1_truth_29 (by decide) rfl (fun h29 => ?_) (fun h29 => ?_)
          · skip
            have hF : xTruth T (nI i) v many = (1, uT T i ((T i).1, ua (T i).2 8 (upd ((T i).2 8) v.toNatClampNeg many))) := by rw [xTruth, nI_clamp (show i < 2 ^ 31 by omega), if_neg (fun q => q.elim h4 (fun q => q.elim h13 (fun q => q.elim h19 (fun q => q.elim h23 (fun q => q h29)))))]
            obtain ⟨j, hj, rfl⟩ : ∃ j : Nat, j < 64 ∧ v = nI j := by
              rcases pk_ix v (n := 64) (by decide) with q | q | q
              · exact absurd q h13
              · exact absurd q h19
              · exact q
            rw [nI_clamp (show j < 2 ^ 31 by omega)] at hF
            refine j_aload (pc' := 36) C dX1_truth_34 rfl rfl ?_
            refine jXTa (pc' := 39) C dX1_truth_36 rfl i hi 8 (by decide) hinT (by decide +kernel) ?_
            refine j_iload_n (pc' := 40) C dX1_truth_39 rfl rfl ?_
            refine j_iload_n (pc' := 41) C dX1_truth_40 rfl rfl ?_
            refine jXTs8 (pc' := 42) C dX1_truth_41 rfl i hi j rfl hj ?_
            refine j_iconst (pc' := 43) C dX1_truth_42 rfl 1 (by decide) ?_
            refine j_zreturn _ C dX1_truth_43 ?_ ?_
            · exact Or.inr rfl
            · exact ⟨by rw [hF] <;> rfl, by rw [hF] <;> rfl⟩
          · skip
            have hF : xTruth T (nI i) v many = (0, T) := by rw [xTruth, if_pos (Or.inr (Or.inr (Or.inr (Or.inr h29))))]
            refine j_iconst (pc' := 33) C dX1_truth_32 rfl 0 (by decide) ?_
            refine j_zreturn _ C dX1_truth_33 ?_ ?_
            · exact Or.inl rfl
            · exact ⟨by rw [hF] <;> rfl, by rw [hF] <;> rfl⟩
  
set_option maxRecDepth 100000 in
set_option maxHeartbeats 4000000 in
theorem c_Xleast (l : Launch) (D : va_G) (cI cO : ClassId) (ao ta : Nat) (B : Nat → Nat → Nat) (T : Nat → TS) (hok : okX T) (tb a b : Int32) : Kt l yX1_least wsX1_least 5 (wX cI cO ao ta B) D cI cO (fun _ => True) [.ref ao, .int tb, .int a, .int b] T (fun r u => r = some (.int (xLeast T tb a b).1) ∧ u = (xLeast T tb a b).2) := by
  refine Kt_of (cc := cX1_least) (n := 5) (ret := some .int) rfl (by decide +kernel) (Nat.le_of_ble_eq_true rfl) rfl [some (.ref ao), some (.int tb), some (.int a), some (.int b), none] rfl ?_
  intro p e s m args below meth c A C _ _
  refine j_aload_n (pc' := 1) C dX1_least_0 rfl rfl ?_
  refine j_iload_n (pc' := 2) C dX1_least_1 rfl rfl ?_
  refine jc_same (pc' := 5) C (c_tableAt l D cI cO ao ta B T tb) 1 gX1_least_X1_tableAt rfl (by decide +kernel) (by decide) rfl rfl (by decide) 1 0 rfl rfl (wX_obj cI cO ao ta B _) (wX_addr cI cO ao ta B _) dX1_least_2 rfl (fun v1 u1 hp1 => ?_)
  obtain ⟨rfl, hu1⟩ := hp1
  rw [hu1]
  clear hu1 u1
  show J p l e _ s m args below meth c 0 0 _ _ D A _ _ [_] _
  by_cases h4 : isInF tb 0 2 = 0
  · rw [tbV, if_pos h4]
    have hF : xLeast T tb a b = (-1, T) := by rw [xLeast, if_pos (Or.inl h4)]
    refine j_astoreN (pc' := 7) C dX1_least_5 rfl (by decide) rfl ?_
    refine j_aloadN (pc' := 9) C dX1_least_7 rfl rfl ?_
    refine j_ifnullN (pc' := 20) C dX1_least_9 (by decide) ?_
    refine j_iconst (pc' := 21) C dX1_least_20 rfl (-1) (by decide) ?_
    refine j_ireturn _ C dX1_least_21 ?_
    exact ⟨by rw [hF] <;> rfl, by rw [hF] <;> rfl⟩
  · obtain ⟨i, hi, rfl⟩ := isTb h4
    rw [tbV, if_neg h4, nI_clamp (show i < 2 ^ 31 by omega)]
    refine j_astore (pc' := 7) C dX1_least_5 rfl (by decide) rfl ?_
    refine j_aload (pc' := 9) C dX1_least_7 rfl rfl ?_
    refine j_ifnull (pc' := 12) C dX1_least_9 rfl ?_
    refine j_iload_n (pc' := 13) C dX1_least_12 rfl rfl ?_
    refine j_iload_n (pc' := 14) C dX1_least_13 rfl rfl ?_
    refine jc_nil (pc' := 17) C (c_isSpanC l D cI cO _ _) 2 gX1_least_X1_isSpan rfl (by decide +kernel) (by decide) rfl rfl (Nat.le_of_ble_eq_true rfl) dX1_least_14 rfl (fun v1 hp1 => ?_)
    subst hp1
    show J p l e _ s m args below meth c 0 0 _ _ D A _ _ [_] _
    refine j_if_ne (tgt := 22) (pc' := 20) C dX1_least_17 (by decide) rfl (fun h17 => ?_) (fun h17 => ?_)
    · skip
      have hF : xLeast T (nI i) a b = ((leastF (T i) a.toNatClampNeg b.toNatClampNeg).1, uT T i (leastF (T i) a.toNatClampNeg b.toNatClampNeg).2) := by rw [xLeast, nI_clamp (show i < 2 ^ 31 by omega), if_neg (fun q => q.elim h4 h17)]
      obtain ⟨x, y, hxy, hy, rfl, rfl⟩ := isSpanF_1 h17
      rw [nI_clamp (show x < 2 ^ 31 by omega), nI_clamp (show y < 2 ^ 31 by omega)] at hF
      refine j_aload (pc' := 24) C dX1_least_22 rfl rfl ?_
      refine j_iload_n (pc' := 25) C dX1_least_24 rfl rfl ?_
      refine j_iload_n (pc' := 26) C dX1_least_25 rfl rfl ?_
      refine jX_callT (pc' := 29) C i hi (c_leastStep l D cI cO (B i) (T i) (hok i hi) x y (by omega) (by omega)) 2 gX1_least_X0_leastStep rfl (by decide +kernel) (by decide) rfl rfl (Nat.le_of_ble_eq_true rfl) rfl dX1_least_26 rfl (fun v1 u1 hp1 => ?_)
      obtain ⟨rfl, rfl⟩ := hp1
      show J p l e _ s m args below meth c 0 0 _ _ D A _ _ [_] _
      refine j_ireturn _ C dX1_least_29 ?_
      exact ⟨by rw [hF] <;> rfl, by rw [hF] <;> rfl⟩
      
    · skip
      have hF : xLeast T (nI i) a b = (-1, T) := by rw [xLeast, if_pos (Or.inr h17)]
      refine j_iconst (pc' := 21) C dX1_least_20 rfl (-1) (by decide) ?_
      refine j_ireturn _ C dX1_least_21 ?_
      exact ⟨by rw [hF] <;> rfl, by rw [hF] <;> rfl⟩
  
set_option maxRecDepth 100000 in
set_option maxHeartbeats 4000000 in
theorem c_Xgreatest (l : Launch) (D : va_G) (cI cO : ClassId) (ao ta : Nat) (B : Nat → Nat → Nat) (T : Nat → TS) (hok : okX T) (tb a b : Int32) : Kt l yX1_greatest wsX1_greatest 5 (wX cI cO ao ta B) D cI cO (fun _ => True) [.ref ao, .int tb, .int a, .int b] T (fun r u => r = some (.int (xGreatest T tb a b).1) ∧ u = (xGreatest T tb a b).2) := by
  refine Kt_of (cc := cX1_greatest) (n := 5) (ret := some .int) rfl (by decide +kernel) (Nat.le_of_ble_eq_true rfl) rfl [some (.ref ao), some (.int tb), some (.int a), some (.int b), none] rfl ?_
  intro p e s m args below meth c A C _ _
  refine j_aload_n (pc' := 1) C dX1_greatest_0 rfl rfl ?_
  refine j_iload_n (pc' := 2) C dX1_greatest_1 rfl rfl ?_
  refine jc_same (pc' := 5) C (c_tableAt l D cI cO ao ta B T tb) 1 gX1_greatest_X1_tableAt rfl (by decide +kernel) (by decide) rfl rfl (by decide) 1 0 rfl rfl (wX_obj cI cO ao ta B _) (wX_addr cI cO ao ta B _) dX1_greatest_2 rfl (fun v1 u1 hp1 => ?_)
  obtain ⟨rfl, hu1⟩ := hp1
  rw [hu1]
  clear hu1 u1
  show J p l e _ s m args below meth c 0 0 _ _ D A _ _ [_] _
  by_cases h4 : isInF tb 0 2 = 0
  · rw [tbV, if_pos h4]
    have hF : xGreatest T tb a b = (-1, T) := by rw [xGreatest, if_pos (Or.inl h4)]
    refine j_astoreN (pc' := 7) C dX1_greatest_5 rfl (by decide) rfl ?_
    refine j_aloadN (pc' := 9) C dX1_greatest_7 rfl rfl ?_
    refine j_ifnullN (pc' := 20) C dX1_greatest_9 (by decide) ?_
    refine j_iconst (pc' := 21) C dX1_greatest_20 rfl (-1) (by decide) ?_
    refine j_ireturn _ C dX1_greatest_21 ?_
    exact ⟨by rw [hF] <;> rfl, by rw [hF] <;> rfl⟩
  · obtain ⟨i, hi, rfl⟩ := isTb h4
    rw [tbV, if_neg h4, nI_clamp (show i < 2 ^ 31 by omega)]
    refine j_astore (pc' := 7) C dX1_greatest_5 rfl (by decide) rfl ?_
    refine j_aload (pc' := 9) C dX1_greatest_7 rfl rfl ?_
    refine j_ifnull (pc' := 12) C dX1_greatest_9 rfl ?_
    refine j_iload_n (pc' := 13) C dX1_greatest_12 rfl rfl ?_
    refine j_iload_n (pc' := 14) C dX1_greatest_13 rfl rfl ?_
    refine jc_nil (pc' := 17) C (c_isSpanC l D cI cO _ _) 2 gX1_greatest_X1_isSpan rfl (by decide +kernel) (by decide) rfl rfl (Nat.le_of_ble_eq_true rfl) dX1_greatest_14 rfl (fun v1 hp1 => ?_)
    subst hp1
    show J p l e _ s m args below meth c 0 0 _ _ D A _ _ [_] _
    refine j_if_ne (tgt := 22) (pc' := 20) C dX1_greatest_17 (by decide) rfl (fun h17 => ?_) (fun h17 => ?_)
    · skip
      have hF : xGreatest T (nI i) a b = (- (leastF (T i) b.toNatClampNeg a.toNatClampNeg).1, uT T i (leastF (T i) b.toNatClampNeg a.toNatClampNeg).2) := by rw [xGreatest, nI_clamp (show i < 2 ^ 31 by omega), if_neg (fun q => q.elim h4 h17)]
      obtain ⟨x, y, hxy, hy, rfl, rfl⟩ := isSpanF_1 h17
      rw [nI_clamp (show x < 2 ^ 31 by omega), nI_clamp (show y < 2 ^ 31 by omega)] at hF
      refine j_aload (pc' := 24) C dX1_greatest_22 rfl rfl ?_
      refine j_iload_n (pc' := 25) C dX1_greatest_24 rfl rfl ?_
      refine j_iload_n (pc' := 26) C dX1_greatest_25 rfl rfl ?_
      refine jX_callT (pc' := 29) C i hi (c_leastStep l D cI cO (B i) (T i) (hok i hi) y x (by omega) (by omega)) 2 gX1_greatest_X0_leastStep rfl (by decide +kernel) (by decide) rfl rfl (Nat.le_of_ble_eq_true rfl) rfl dX1_greatest_26 rfl (fun v1 u1 hp1 => ?_)
      obtain ⟨rfl, rfl⟩ := hp1
      show J p l e _ s m args below meth c 0 0 _ _ D A _ _ [_] _
      refine j_ineg (pc' := 30) C dX1_greatest_29 rfl ?_
      refine j_ireturn _ C dX1_greatest_30 ?_
      exact ⟨by rw [hF] <;> rfl, by rw [hF] <;> rfl⟩
      
    · skip
      have hF : xGreatest T (nI i) a b = (-1, T) := by rw [xGreatest, if_pos (Or.inr h17)]
      refine j_iconst (pc' := 21) C dX1_greatest_20 rfl (-1) (by decide) ?_
      refine j_ireturn _ C dX1_greatest_21 ?_
      exact ⟨by rw [hF] <;> rfl, by rw [hF] <;> rfl⟩
  
set_option maxRecDepth 100000 in
set_option maxHeartbeats 4000000 in
theorem c_Xguess (l : Launch) (D : va_G) (cI cO : ClassId) (ao ta : Nat) (B : Nat → Nat → Nat) (T : Nat → TS) (hok : okX T) (tb a b : Int32) : Kt l yX1_guess wsX1_guess 5 (wX cI cO ao ta B) D cI cO (fun _ => True) [.ref ao, .int tb, .int a, .int b] T (fun r u => r = some (.int (xGuess T tb a b).1) ∧ u = (xGuess T tb a b).2) := by
  refine Kt_of (cc := cX1_guess) (n := 5) (ret := some .int) rfl (by decide +kernel) (Nat.le_of_ble_eq_true rfl) rfl [some (.ref ao), some (.int tb), some (.int a), some (.int b), none] rfl ?_
  intro p e s m args below meth c A C _ _
  have hinT : ∀ w ∈ wsX00, w ∈ wsX1_guess := by decide +kernel
  refine j_aload_n (pc' := 1) C dX1_guess_0 rfl rfl ?_
  refine j_iload_n (pc' := 2) C dX1_guess_1 rfl rfl ?_
  refine jc_same (pc' := 5) C (c_tableAt l D cI cO ao ta B T tb) 1 gX1_guess_X1_tableAt rfl (by decide +kernel) (by decide) rfl rfl (by decide) 1 0 rfl rfl (wX_obj cI cO ao ta B _) (wX_addr cI cO ao ta B _) dX1_guess_2 rfl (fun v1 u1 hp1 => ?_)
  obtain ⟨rfl, hu1⟩ := hp1
  rw [hu1]
  clear hu1 u1
  show J p l e _ s m args below meth c 0 0 _ _ D A _ _ [_] _
  by_cases h4 : isInF tb 0 2 = 0
  · rw [tbV, if_pos h4]
    have hF : xGuess T tb a b = (-1, T) := by rw [xGuess, if_pos (Or.inl h4)]
    refine j_astoreN (pc' := 7) C dX1_guess_5 rfl (by decide) rfl ?_
    refine j_aloadN (pc' := 9) C dX1_guess_7 rfl rfl ?_
    refine j_ifnullN (pc' := 20) C dX1_guess_9 (by decide) ?_
    refine j_iconst (pc' := 21) C dX1_guess_20 rfl (-1) (by decide) ?_
    refine j_ireturn _ C dX1_guess_21 ?_
    exact ⟨by rw [hF] <;> rfl, by rw [hF] <;> rfl⟩
  · obtain ⟨i, hi, rfl⟩ := isTb h4
    rw [tbV, if_neg h4, nI_clamp (show i < 2 ^ 31 by omega)]
    refine j_astore (pc' := 7) C dX1_guess_5 rfl (by decide) rfl ?_
    refine j_aload (pc' := 9) C dX1_guess_7 rfl rfl ?_
    refine j_ifnull (pc' := 12) C dX1_guess_9 rfl ?_
    refine j_iload_n (pc' := 13) C dX1_guess_12 rfl rfl ?_
    refine j_iload_n (pc' := 14) C dX1_guess_13 rfl rfl ?_
    refine jc_nil (pc' := 17) C (c_isSpanC l D cI cO _ _) 2 gX1_guess_X1_isSpan rfl (by decide +kernel) (by decide) rfl rfl (Nat.le_of_ble_eq_true rfl) dX1_guess_14 rfl (fun v1 hp1 => ?_)
    subst hp1
    show J p l e _ s m args below meth c 0 0 _ _ D A _ _ [_] _
    refine j_if_ne (tgt := 22) (pc' := 20) C dX1_guess_17 (by decide) rfl (fun h17 => ?_) (fun h17 => ?_)
    · skip
      have hF : xGuess T (nI i) a b = ((spreadF (T i)).2 9 b.toNatClampNeg - (spreadF (T i)).2 9 a.toNatClampNeg, uT T i (spreadF (T i))) := by rw [xGuess, nI_clamp (show i < 2 ^ 31 by omega), if_neg (fun q => q.elim h4 h17)]
      obtain ⟨x, y, hxy, hy, rfl, rfl⟩ := isSpanF_1 h17
      rw [nI_clamp (show x < 2 ^ 31 by omega), nI_clamp (show y < 2 ^ 31 by omega)] at hF
      refine j_aload (pc' := 24) C dX1_guess_22 rfl rfl ?_
      refine jX_callT (pc' := 27) C i hi (c_spread l D cI cO (B i) (T i) (hok i hi)) 0 gX1_guess_X0_spread rfl (by decide +kernel) (by decide) rfl rfl (Nat.le_of_ble_eq_true rfl) rfl dX1_guess_24 rfl (fun v1 u1 hp1 => ?_)
      obtain ⟨rfl, rfl⟩ := hp1
      show J p l e _ s m args below meth c 0 0 _ _ D A _ _ [] _
      refine j_aload (pc' := 29) C dX1_guess_27 rfl rfl ?_
      refine jXTa (pc' := 32) C dX1_guess_29 rfl i hi 9 (by decide) hinT (by decide +kernel) ?_
      refine j_iload_n (pc' := 33) C dX1_guess_32 rfl rfl ?_
      refine jXTl (pc' := 34) C dX1_guess_33 rfl i hi 9 (by decide) y rfl (by unfold lenT; simp; omega) ?_
      refine j_aload (pc' := 36) C dX1_guess_34 rfl rfl ?_
      refine jXTa (pc' := 39) C dX1_guess_36 rfl i hi 9 (by decide) hinT (by decide +kernel) ?_
      refine j_iload_n (pc' := 40) C dX1_guess_39 rfl rfl ?_
      refine jXTl (pc' := 41) C dX1_guess_40 rfl i hi 9 (by decide) x rfl (by unfold lenT; simp; omega) ?_
      refine j_isub (pc' := 42) C dX1_guess_41 rfl ?_
      refine j_ireturn _ C dX1_guess_42 ?_
      exact ⟨by rw [hF, uT_s], by rw [hF]⟩
      
    · skip
      have hF : xGuess T (nI i) a b = (-1, T) := by rw [xGuess, if_pos (Or.inr h17)]
      refine j_iconst (pc' := 21) C dX1_guess_20 rfl (-1) (by decide) ?_
      refine j_ireturn _ C dX1_guess_21 ?_
      exact ⟨by rw [hF] <;> rfl, by rw [hF] <;> rfl⟩
  
set_option maxRecDepth 100000 in
set_option maxHeartbeats 4000000 in
theorem c_Xagrees (l : Launch) (D : va_G) (cI cO : ClassId) (ao ta : Nat) (B : Nat → Nat → Nat) (T : Nat → TS) (hok : okX T) (tb : Int32) : Kt l yX1_agrees wsX1_agrees 5 (wX cI cO ao ta B) D cI cO (fun _ => True) [.ref ao, .int tb] T (fun r u => r = some (.int (xAgrees T tb).1) ∧ u = (xAgrees T tb).2) := by
  refine Kt_of (cc := cX1_agrees) (n := 3) (ret := some .int) rfl (by decide +kernel) (Nat.le_of_ble_eq_true rfl) rfl [some (.ref ao), some (.int tb), none] rfl ?_
  intro p e s m args below meth c A C _ _
  refine j_aload_n (pc' := 1) C dX1_agrees_0 rfl rfl ?_
  refine j_iload_n (pc' := 2) C dX1_agrees_1 rfl rfl ?_
  refine jc_same (pc' := 5) C (c_tableAt l D cI cO ao ta B T tb) 1 gX1_agrees_X1_tableAt rfl (by decide +kernel) (by decide) rfl rfl (by decide) 1 0 rfl rfl (wX_obj cI cO ao ta B _) (wX_addr cI cO ao ta B _) dX1_agrees_2 rfl (fun v1 u1 hp1 => ?_)
  obtain ⟨rfl, hu1⟩ := hp1
  rw [hu1]
  clear hu1 u1
  show J p l e _ s m args below meth c 0 0 _ _ D A _ _ [_] _
  by_cases h4 : isInF tb 0 2 = 0
  · rw [tbV, if_pos h4]
    have hF : xAgrees T tb = (-1, T) := by rw [xAgrees, if_pos (h4)]
    refine j_astore_nN (pc' := 6) C dX1_agrees_5 rfl (by decide) rfl ?_
    refine j_aload_nN (pc' := 7) C dX1_agrees_6 rfl rfl ?_
    refine j_ifnonnullN (pc' := 10) C dX1_agrees_7 rfl ?_
    refine j_iconst (pc' := 11) C dX1_agrees_10 rfl (-1) (by decide) ?_
    refine j_ireturn _ C dX1_agrees_11 ?_
    exact ⟨by rw [hF] <;> rfl, by rw [hF] <;> rfl⟩
  · obtain ⟨i, hi, rfl⟩ := isTb h4
    rw [tbV, if_neg h4, nI_clamp (show i < 2 ^ 31 by omega)]
    refine j_astore_n (pc' := 6) C dX1_agrees_5 rfl (by decide) rfl ?_
    refine j_aload_n (pc' := 7) C dX1_agrees_6 rfl rfl ?_
    refine j_ifnonnull (pc' := 12) C dX1_agrees_7 (by decide) ?_
    refine j_aload_n (pc' := 13) C dX1_agrees_12 rfl rfl ?_
    refine jX_callT (pc' := 16) C i hi (c_trulyAgrees l D cI cO (B i) (T i) (hok i hi)) 0 gX1_agrees_X0_trulyAgrees rfl (by decide +kernel) (by decide) rfl rfl (Nat.le_of_ble_eq_true rfl) rfl dX1_agrees_13 rfl (fun v1 u1 hp1 => ?_)
    obtain ⟨rfl, rfl⟩ := hp1
    show J p l e _ s m args below meth c 0 0 _ _ D A _ _ [_] _
    have hF0 : xAgrees T (nI i) = (if (agreeF (T i)).1 = 0 then 0 else 1, uT T i (agreeF (T i)).2) := by rw [xAgrees, if_neg h4, nI_clamp (show i < 2 ^ 31 by omega)]
    refine j_if_eq (tgt := 23) (pc' := 19) C dX1_agrees_16 (by decide) rfl (fun h16 => ?_) (fun h16 => ?_)
    · skip
      have hF : xAgrees T (nI i) = (0, uT T i (agreeF (T i)).2) := by rw [hF0, if_pos h16]
      refine j_iconst (pc' := 24) C dX1_agrees_23 rfl 0 (by decide) ?_
      refine j_ireturn _ C dX1_agrees_24 ?_
      exact ⟨by rw [hF] <;> rfl, by rw [hF] <;> rfl⟩
    · skip
      have hF : xAgrees T (nI i) = (1, uT T i (agreeF (T i)).2) := by rw [hF0, if_neg h16]
      refine j_iconst (pc' := 20) C dX1_agrees_19 rfl 1 (by decide) ?_
      refine j_goto (pc' := 24) C dX1_agrees_20 (by decide) ?_
      refine j_ireturn _ C dX1_agrees_24 ?_
      exact ⟨by rw [hF] <;> rfl, by rw [hF] <;> rfl⟩
  
set_option maxRecDepth 100000 in
set_option maxHeartbeats 4000000 in
theorem c_Xsight (l : Launch) (D : va_G) (cI cO : ClassId) (ao ta : Nat) (B : Nat → Nat → Nat) (T : Nat → TS) (hok : okX T) (tb a b ct al : Int32) : Kt l yX1_sight wsX1_sight 2 (wX cI cO ao ta B) D cI cO (fun _ => True) [.ref ao, .int tb, .int a, .int b, .int ct, .int al] T (fun r u => r = some (.int (xSight T tb a b ct al).1) ∧ u = (xSight T tb a b ct al).2) := by
  refine Kt_of (cc := cX1_sight) (n := 7) (ret := some .int) rfl (by decide +kernel) (Nat.le_of_ble_eq_true rfl) rfl [some (.ref ao), some (.int tb), some (.int a), some (.int b), some (.int ct), some (.int al), none] rfl ?_
  intro p e s m args below meth c A C _ _
  have hinT : ∀ w ∈ wsX00, w ∈ wsX1_sight := by decide +kernel
  refine j_aload_n (pc' := 1) C dX1_sight_0 rfl rfl ?_
  refine j_iload_n (pc' := 2) C dX1_sight_1 rfl rfl ?_
  refine jc_same (pc' := 5) C (c_tableAt l D cI cO ao ta B T tb) 1 gX1_sight_X1_tableAt rfl (by decide +kernel) (by decide) rfl rfl (by decide) 1 0 rfl rfl (wX_obj cI cO ao ta B _) (wX_addr cI cO ao ta B _) dX1_sight_2 rfl (fun v1 u1 hp1 => ?_)
  obtain ⟨rfl, hu1⟩ := hp1
  rw [hu1]
  clear hu1 u1
  show J p l e _ s m args below meth c 0 0 _ _ D A _ _ [_] _
  by_cases h4 : isInF tb 0 2 = 0
  · rw [tbV, if_pos h4]
    have hF : xSight T tb a b ct al = (-1, T) := by rw [xSight, if_pos (Or.inl h4)]
    refine j_astoreN (pc' := 7) C dX1_sight_5 rfl (by decide) rfl ?_
    refine j_aloadN (pc' := 9) C dX1_sight_7 rfl rfl ?_
    refine j_ifnullN (pc' := 35) C dX1_sight_9 (by decide) ?_
    refine j_iconst (pc' := 36) C dX1_sight_35 rfl (-1) (by decide) ?_
    refine j_ireturn _ C dX1_sight_36 ?_
    exact ⟨by rw [hF] <;> rfl, by rw [hF] <;> rfl⟩
  · obtain ⟨i, hi, rfl⟩ := isTb h4
    rw [tbV, if_neg h4, nI_clamp (show i < 2 ^ 31 by omega)]
    refine j_astore (pc' := 7) C dX1_sight_5 rfl (by decide) rfl ?_
    refine j_aload (pc' := 9) C dX1_sight_7 rfl rfl ?_
    refine j_ifnull (pc' := 12) C dX1_sight_9 rfl ?_
    refine j_iload_n (pc' := 13) C dX1_sight_12 rfl rfl ?_
    refine j_iload_n (pc' := 14) C dX1_sight_13 rfl rfl ?_
    refine jc_nil (pc' := 17) C (c_isSpanC l D cI cO _ _) 2 gX1_sight_X1_isSpan rfl (by decide +kernel) (by decide) rfl rfl (Nat.le_of_ble_eq_true rfl) dX1_sight_14 rfl (fun v1 hp1 => ?_)
    subst hp1
    show J p l e _ s m args below meth c 0 0 _ _ D A _ _ [_] _
    refine j_if_eq (tgt := 35) (pc' := 20) C dX1_sight_17 (by decide) rfl (fun h17 => ?_) (fun h17 => ?_)
    · skip
      have hF : xSight T (nI i) a b ct al = (-1, T) := by rw [xSight, nI_clamp (show i < 2 ^ 31 by omega), if_pos (Or.inr (Or.inl h17))]
      refine j_iconst (pc' := 36) C dX1_sight_35 rfl (-1) (by decide) ?_
      refine j_ireturn _ C dX1_sight_36 ?_
      exact ⟨by rw [hF] <;> rfl, by rw [hF] <;> rfl⟩
    · skip
      refine j_iload (pc' := 22) C dX1_sight_20 rfl rfl ?_
      refine j_if_lt (tgt := 35) (pc' := 25) C dX1_sight_22 (by decide) rfl (fun h22 => ?_) (fun h22 => ?_)
      · skip
        have hF : xSight T (nI i) a b ct al = (-1, T) := by rw [xSight, nI_clamp (show i < 2 ^ 31 by omega), if_pos (Or.inr (Or.inr (Or.inl h22)))]
        refine j_iconst (pc' := 36) C dX1_sight_35 rfl (-1) (by decide) ?_
        refine j_ireturn _ C dX1_sight_36 ?_
        exact ⟨by rw [hF] <;> rfl, by rw [hF] <;> rfl⟩
      · skip
        refine j_iload (pc' := 27) C dX1_sight_25 rfl rfl ?_
        refine j_aload (pc' := 29) C dX1_sight_27 rfl rfl ?_
        refine jXTi (pc' := 32) C dX1_sight_29 rfl i hi 0 (by unfold isIT; decide) hinT (by decide +kernel) ?_
        refine j_icmp_le (tgt := 37) (pc' := 35) C dX1_sight_32 (by decide) rfl (fun h32 => ?_) (fun h32 => ?_)
        · skip
          have hF0 : xSight T (nI i) a b ct al = if (T i).1 1 < 40 then ((T i).1 1, uT T i (addF (T i) a b ct (if al = 0 then ct else 1000001))) else (-1, T) := by rw [xSight, nI_clamp (show i < 2 ^ 31 by omega), if_neg (fun q => q.elim h4 (fun q => q.elim h17 (fun q => q.elim h22 (fun q => q h32))))]
          have h55 : ∀ x : Int32, x = (if al = 0 then ct else 1000001) → J p l e (rmH 2) s m args below meth c 0 0 (RQ below args s D (wX cI cO ao ta B) (fun r u => r = some (.int (xSight T (nI i) a b ct al).1) ∧ u = (xSight T (nI i) a b ct al).2) A) 7 D A 55 [some (.ref ao), some (.int (nI i)), some (.int a), some (.int b), some (.int ct), some (.int al), some (.ref (B i 0))] [.int x, .int ct, .int b, .int a, .ref (B i 0)] (wX cI cO ao ta B T) := by
            intro x ex
            refine jX_callT (pc' := 58) C i hi (c_addSight l D cI cO (B i) (T i) (hok i hi) a b ct x) 4 gX1_sight_X0_addSight rfl (by decide +kernel) (by decide) rfl rfl (Nat.le_of_ble_eq_true rfl) rfl dX1_sight_55 rfl (fun v1 u1 hp1 => ?_)
            by_cases hlt : (T i).1 1 < 40
            · obtain ⟨rfl, rfl⟩ := hp1.1 hlt
              have hF : xSight T (nI i) a b ct al = ((T i).1 1, uT T i (addF (T i) a b ct (if al = 0 then ct else 1000001))) := by rw [hF0, if_pos hlt]
              show J p l e _ s m args below meth c 0 0 _ _ D A _ _ [_] _
              refine j_ireturn _ C dX1_sight_58 ?_
              exact ⟨by rw [hF], by rw [hF, ex]⟩
            · obtain ⟨e1, e2⟩ := hp1.2 hlt
              subst e1
              rw [e2, uT_self]
              have hF : xSight T (nI i) a b ct al = (-1, T) := by rw [hF0, if_neg hlt]
              show J p l e _ s m args below meth c 0 0 _ _ D A _ _ [_] _
              refine j_ireturn _ C dX1_sight_58 ?_
              exact ⟨by rw [hF] <;> rfl, by rw [hF] <;> rfl⟩
          
          refine j_aload (pc' := 39) C dX1_sight_37 rfl rfl ?_
          refine j_iload_n (pc' := 40) C dX1_sight_39 rfl rfl ?_
          refine j_iload_n (pc' := 41) C dX1_sight_40 rfl rfl ?_
          refine j_iload (pc' := 43) C dX1_sight_41 rfl rfl ?_
          refine j_iload (pc' := 45) C dX1_sight_43 rfl rfl ?_
          refine j_if_eq (tgt := 53) (pc' := 48) C dX1_sight_45 (by decide) rfl (fun h45 => ?_) (fun h45 => ?_)
          · skip
            refine j_iload (pc' := 55) C dX1_sight_53 rfl rfl ?_
            first | exact h55 _ (if_pos h45).symm | exact h55 _ (if_neg h45).symm
          · skip
            refine j_ldc (pc' := 50) C dX1_sight_48 rfl 1000001 (by decide +kernel) ?_
            refine j_goto (pc' := 55) C dX1_sight_50 (by decide) ?_
            first | exact h55 _ (if_pos h45).symm | exact h55 _ (if_neg h45).symm
        · skip
          have hF : xSight T (nI i) a b ct al = (-1, T) := by rw [xSight, nI_clamp (show i < 2 ^ 31 by omega), if_pos (Or.inr (Or.inr (Or.inr h32)))]
          refine j_iconst (pc' := 36) C dX1_sight_35 rfl (-1) (by decide) ?_
          refine j_ireturn _ C dX1_sight_36 ?_
          exact ⟨by rw [hF] <;> rfl, by rw [hF] <;> rfl⟩
  
set_option maxRecDepth 100000 in
set_option maxHeartbeats 4000000 in
theorem c_Xbegins (l : Launch) (D : va_G) (cI cO : ClassId) (ao ta : Nat) (B : Nat → Nat → Nat) (T : Nat → TS) (hok : okX T) (tb n v ct : Int32) : Kt l yX1_begins wsX1_begins 3 (wX cI cO ao ta B) D cI cO (fun _ => True) [.ref ao, .int tb, .int n, .int v, .int ct] T (fun r u => r = some (.int (xBegins T tb n v ct).1) ∧ u = (xBegins T tb n v ct).2) := by
  refine Kt_of (cc := cX1_begins) (n := 7) (ret := some .int) rfl (by decide +kernel) (Nat.le_of_ble_eq_true rfl) rfl [some (.ref ao), some (.int tb), some (.int n), some (.int v), some (.int ct), none, none] rfl ?_
  intro p e s m args below meth c A C _ _
  refine j_iload_n (pc' := 1) C dX1_begins_0 rfl rfl ?_
  refine j_if_lt (tgt := 21) (pc' := 4) C dX1_begins_1 (by decide) rfl (fun h1 => ?_) (fun h1 => ?_)
  · skip
    have hF : xBegins T tb n v ct = (-1, T) := by rw [xBegins, if_pos (Or.inl h1)]
    refine j_iconst (pc' := 22) C dX1_begins_21 rfl (-1) (by decide) ?_
    refine j_ireturn _ C dX1_begins_22 ?_
    exact ⟨by rw [hF] <;> rfl, by rw [hF] <;> rfl⟩
  · skip
    refine j_iload_n (pc' := 5) C dX1_begins_4 rfl rfl ?_
    refine j_iconst (pc' := 6) C dX1_begins_5 rfl 3 (by decide) ?_
    refine j_icmp_gt (tgt := 21) (pc' := 9) C dX1_begins_6 (by decide) rfl (fun h6 => ?_) (fun h6 => ?_)
    · skip
      have hF : xBegins T tb n v ct = (-1, T) := by rw [xBegins, if_pos (Or.inr (Or.inl h6))]
      refine j_iconst (pc' := 22) C dX1_begins_21 rfl (-1) (by decide) ?_
      refine j_ireturn _ C dX1_begins_22 ?_
      exact ⟨by rw [hF] <;> rfl, by rw [hF] <;> rfl⟩
    · skip
      refine j_iload_n (pc' := 10) C dX1_begins_9 rfl rfl ?_
      refine j_if_lt (tgt := 21) (pc' := 13) C dX1_begins_10 (by decide) rfl (fun h10 => ?_) (fun h10 => ?_)
      · skip
        have hF : xBegins T tb n v ct = (-1, T) := by rw [xBegins, if_pos (Or.inr (Or.inr (Or.inl h10)))]
        refine j_iconst (pc' := 22) C dX1_begins_21 rfl (-1) (by decide) ?_
        refine j_ireturn _ C dX1_begins_22 ?_
        exact ⟨by rw [hF] <;> rfl, by rw [hF] <;> rfl⟩
      · skip
        refine j_iload_n (pc' := 14) C dX1_begins_13 rfl rfl ?_
        refine j_iload_n (pc' := 15) C dX1_begins_14 rfl rfl ?_
        refine jc_nil (pc' := 18) C (c_textsOf l D cI cO _) 1 gX1_begins_X1_textsOf rfl (by decide +kernel) (by decide) rfl rfl (Nat.le_of_ble_eq_true rfl) dX1_begins_15 rfl (fun v1 hp1 => ?_)
        subst hp1
        show J p l e _ s m args below meth c 0 0 _ _ D A _ _ [_, _] _
        refine j_icmp_lt (tgt := 23) (pc' := 21) C dX1_begins_18 (by decide) rfl (fun h18 => ?_) (fun h18 => ?_)
        · skip
          refine j_iconst (pc' := 24) C dX1_begins_23 rfl 3 (by decide) ?_
          refine j_iload_n (pc' := 25) C dX1_begins_24 rfl rfl ?_
          refine j_isub (pc' := 26) C dX1_begins_25 rfl ?_
          refine jc_nil (pc' := 29) C (c_textsOf l D cI cO _) 1 gX1_begins_X1_textsOf rfl (by decide +kernel) (by decide) rfl rfl (Nat.le_of_ble_eq_true rfl) dX1_begins_26 rfl (fun v1 hp1 => ?_)
          subst hp1
          show J p l e _ s m args below meth c 0 0 _ _ D A _ _ [_] _
          refine j_istore (pc' := 31) C dX1_begins_29 rfl (by decide) rfl ?_
          refine j_iload_n (pc' := 32) C dX1_begins_31 rfl rfl ?_
          refine j_iload (pc' := 34) C dX1_begins_32 rfl rfl ?_
          refine j_imul (pc' := 35) C dX1_begins_34 rfl ?_
          refine j_istore (pc' := 37) C dX1_begins_35 rfl (by decide) rfl ?_
          refine j_aload_n (pc' := 38) C dX1_begins_37 rfl rfl ?_
          refine j_iload_n (pc' := 39) C dX1_begins_38 rfl rfl ?_
          refine j_iload (pc' := 41) C dX1_begins_39 rfl rfl ?_
          refine j_iload (pc' := 43) C dX1_begins_41 rfl rfl ?_
          refine j_iload (pc' := 45) C dX1_begins_43 rfl rfl ?_
          refine j_iadd (pc' := 46) C dX1_begins_45 rfl ?_
          refine j_iload (pc' := 48) C dX1_begins_46 rfl rfl ?_
          refine j_iconst (pc' := 49) C dX1_begins_48 rfl 0 (by decide) ?_
          have hF : xBegins T tb n v ct = xSight T tb (v * textsF (3 - n)) (v * textsF (3 - n) + textsF (3 - n)) ct 0 := by rw [xBegins, if_neg (fun q => q.elim h1 (fun q => q.elim h6 (fun q => q.elim h10 (fun q => q h18))))]
          refine jc_same (pc' := 52) C (c_Xsight l D cI cO ao ta B T hok tb (v * textsF (3 - n)) (v * textsF (3 - n) + textsF (3 - n)) ct 0) 5 gX1_begins_X1_sight rfl (by decide +kernel) (by decide) rfl rfl (by decide) 1 0 rfl rfl (wX_obj cI cO ao ta B _) (wX_addr cI cO ao ta B _) dX1_begins_49 rfl (fun v1 u1 hp1 => ?_)
          obtain ⟨rfl, rfl⟩ := hp1
          show J p l e _ s m args below meth c 0 0 _ _ D A _ _ [_] _
          refine j_ireturn _ C dX1_begins_52 ?_
          exact ⟨by rw [hF], by rw [hF]⟩
          
          
        · skip
          have hF : xBegins T tb n v ct = (-1, T) := by rw [xBegins, if_pos (Or.inr (Or.inr (Or.inr h18)))]
          refine j_iconst (pc' := 22) C dX1_begins_21 rfl (-1) (by decide) ?_
          refine j_ireturn _ C dX1_begins_22 ?_
          exact ⟨by rw [hF] <;> rfl, by rw [hF] <;> rfl⟩
        
set_option maxRecDepth 100000 in
set_option maxHeartbeats 4000000 in
theorem c_XsightOf (l : Launch) (D : va_G) (cI cO : ClassId) (ao ta : Nat) (B : Nat → Nat → Nat) (T : Nat → TS) (hok : okX T) (tb sg w : Int32) : Kt l yX1_sightOf wsX1_sightOf 4 (wX cI cO ao ta B) D cI cO (fun _ => True) [.ref ao, .int tb, .int sg, .int w] T (fun r u => r = some (.int (xSightOf T tb sg w).1) ∧ u = (xSightOf T tb sg w).2) := by
  refine Kt_of (cc := cX1_sightOf) (n := 5) (ret := some .int) rfl (by decide +kernel) (Nat.le_of_ble_eq_true rfl) rfl [some (.ref ao), some (.int tb), some (.int sg), some (.int w), none] rfl ?_
  intro p e s m args below meth c A C _ _
  have hinT : ∀ w ∈ wsX00, w ∈ wsX1_sightOf := by decide +kernel
  refine j_aload_n (pc' := 1) C dX1_sightOf_0 rfl rfl ?_
  refine j_iload_n (pc' := 2) C dX1_sightOf_1 rfl rfl ?_
  refine jc_same (pc' := 5) C (c_tableAt l D cI cO ao ta B T tb) 1 gX1_sightOf_X1_tableAt rfl (by decide +kernel) (by decide) rfl rfl (by decide) 1 0 rfl rfl (wX_obj cI cO ao ta B _) (wX_addr cI cO ao ta B _) dX1_sightOf_2 rfl (fun v1 u1 hp1 => ?_)
  obtain ⟨rfl, hu1⟩ := hp1
  rw [hu1]
  clear hu1 u1
  show J p l e _ s m args below meth c 0 0 _ _ D A _ _ [_] _
  by_cases h4 : isInF tb 0 2 = 0
  · rw [tbV, if_pos h4]
    have hF : xSightOf T tb sg w = (-1, T) := by rw [xSightOf, if_pos (Or.inl h4)]
    refine j_astoreN (pc' := 7) C dX1_sightOf_5 rfl (by decide) rfl ?_
    refine j_aloadN (pc' := 9) C dX1_sightOf_7 rfl rfl ?_
    refine j_ifnullN (pc' := 25) C dX1_sightOf_9 (by decide) ?_
    refine j_iconst (pc' := 26) C dX1_sightOf_25 rfl (-1) (by decide) ?_
    refine j_ireturn _ C dX1_sightOf_26 ?_
    exact ⟨by rw [hF] <;> rfl, by rw [hF] <;> rfl⟩
  · obtain ⟨i, hi, rfl⟩ := isTb h4
    rw [tbV, if_neg h4, nI_clamp (show i < 2 ^ 31 by omega)]
    refine j_astore (pc' := 7) C dX1_sightOf_5 rfl (by decide) rfl ?_
    refine j_aload (pc' := 9) C dX1_sightOf_7 rfl rfl ?_
    refine j_ifnull (pc' := 12) C dX1_sightOf_9 rfl ?_
    refine j_iload_n (pc' := 13) C dX1_sightOf_12 rfl rfl ?_
    refine j_if_lt (tgt := 25) (pc' := 16) C dX1_sightOf_13 (by decide) rfl (fun h13 => ?_) (fun h13 => ?_)
    · skip
      have hF : xSightOf T (nI i) sg w = (-1, T) := by rw [xSightOf, if_pos (Or.inr (Or.inl h13))]
      refine j_iconst (pc' := 26) C dX1_sightOf_25 rfl (-1) (by decide) ?_
      refine j_ireturn _ C dX1_sightOf_26 ?_
      exact ⟨by rw [hF] <;> rfl, by rw [hF] <;> rfl⟩
    · skip
      refine j_iload_n (pc' := 17) C dX1_sightOf_16 rfl rfl ?_
      refine j_aload (pc' := 19) C dX1_sightOf_17 rfl rfl ?_
      refine jXTi (pc' := 22) C dX1_sightOf_19 rfl i hi 1 (by unfold isIT; decide) hinT (by decide +kernel) ?_
      refine j_icmp_lt (tgt := 27) (pc' := 25) C dX1_sightOf_22 (by decide) rfl (fun h22 => ?_) (fun h22 => ?_)
      · skip
        obtain ⟨en, hn41⟩ := vp_in_c (hok i hi).1 (by decide)
        have hG0 : ∀ w, xSightOf T (nI i) sg w = xSightVal T i sg.toNatClampNeg w := by
          intro w
          rw [xSightOf, nI_clamp (show i < 2 ^ 31 by omega), if_neg (fun q => q.elim h4 (fun q => q.elim h13 (fun q => q h22)))]
        obtain ⟨j, hj, rfl⟩ : ∃ j : Nat, j < ((T i).1 1).toNatClampNeg ∧ sg = nI j := by
          rw [en] at h22
          rcases pk_ix sg (n := ((T i).1 1).toNatClampNeg) (by omega) with q | q | q
          · exact absurd q h13
          · exact absurd h22 (i32_le_nlt q)
          · exact q
        have hF0 : ∀ w, xSightOf T (nI i) (nI j) w = xSightVal T i j w := by
          intro w
          rw [hG0 w, nI_clamp (show j < 2 ^ 31 by omega)]
        refine j_iload_n (pc' := 28) C dX1_sightOf_27 rfl rfl ?_
        by_cases hw : w.toInt < 0 ∨ 4 < w.toInt
        · have hne : ∀ q : Nat, q ≤ 4 → ¬ w = nI q := by
            intro q hq e
            rw [e, nI_toInt (by omega)] at hw
            omega
          have hF : xSightOf T (nI i) (nI j) w = (-1, T) := by
            rw [hF0, xSightVal, if_neg (show ¬ w = 0 from hne 0 (by decide)), if_neg (show ¬ w = 1 from hne 1 (by decide)), if_neg (show ¬ w = 2 from hne 2 (by decide)), if_neg (show ¬ w = 3 from hne 3 (by decide)), if_neg (show ¬ w = 4 from hne 4 (by decide))]
          refine j_swOut (pc' := 109) C dX1_sightOf_28 (by decide) hw ?_
          refine j_iconst (pc' := 110) C dX1_sightOf_109 rfl (-1) (by decide) ?_
          refine j_ireturn _ C dX1_sightOf_110 ?_
          exact ⟨by rw [hF] <;> rfl, by rw [hF] <;> rfl⟩
        · obtain ⟨q, hq, rfl⟩ : ∃ q : Nat, q ≤ 4 ∧ w = nI q := by
            refine nI_of2 (M := 4) (n := 4) (by decide) ?_ ?_
            · intro z
              rw [Int32.lt_iff_toInt_lt] at z
              exact hw (Or.inl z)
            · rw [Int32.le_iff_toInt_le]
              have : (4 : Int32).toInt = 4 := rfl
              omega
          rcases (show q = 0 ∨ q = 1 ∨ q = 2 ∨ q = 3 ∨ q = 4 by omega) with rfl | rfl | rfl | rfl | rfl
          · have hF : xSightOf T (nI i) (nI j) (nI 0) = ((T i).2 3 j, T) := by rw [hF0, xSightVal, if_pos (show nI 0 = 0 by decide)]
            refine j_swIn (pc' := 64) (off := 36) C dX1_sightOf_28 (by decide) (by decide) (by decide) (by decide) ?_
            refine j_aload (pc' := 66) C dX1_sightOf_64 rfl rfl ?_
            refine jXTa (pc' := 69) C dX1_sightOf_66 rfl i hi 3 (by decide) hinT (by decide +kernel) ?_
            refine j_iload_n (pc' := 70) C dX1_sightOf_69 rfl rfl ?_
            refine jXTl (pc' := 71) C dX1_sightOf_70 rfl i hi 3 (by decide) j rfl (by unfold lenT; simp; omega) ?_
            refine j_ireturn _ C dX1_sightOf_71 ?_
            exact ⟨by rw [hF] <;> rfl, by rw [hF] <;> rfl⟩
          · have hF : xSightOf T (nI i) (nI j) (nI 1) = ((T i).2 4 j, T) := by rw [hF0, xSightVal, if_neg (show ¬ nI 1 = 0 by decide), if_pos (show nI 1 = 1 by decide)]
            refine j_swIn (pc' := 72) (off := 44) C dX1_sightOf_28 (by decide) (by decide) (by decide) (by decide) ?_
            refine j_aload (pc' := 74) C dX1_sightOf_72 rfl rfl ?_
            refine jXTa (pc' := 77) C dX1_sightOf_74 rfl i hi 4 (by decide) hinT (by decide +kernel) ?_
            refine j_iload_n (pc' := 78) C dX1_sightOf_77 rfl rfl ?_
            refine jXTl (pc' := 79) C dX1_sightOf_78 rfl i hi 4 (by decide) j rfl (by unfold lenT; simp; omega) ?_
            refine j_ireturn _ C dX1_sightOf_79 ?_
            exact ⟨by rw [hF] <;> rfl, by rw [hF] <;> rfl⟩
          · have hF : xSightOf T (nI i) (nI j) (nI 2) = ((T i).2 5 j, T) := by rw [hF0, xSightVal, if_neg (show ¬ nI 2 = 0 by decide), if_neg (show ¬ nI 2 = 1 by decide), if_pos (show nI 2 = 2 by decide)]
            refine j_swIn (pc' := 80) (off := 52) C dX1_sightOf_28 (by decide) (by decide) (by decide) (by decide) ?_
            refine j_aload (pc' := 82) C dX1_sightOf_80 rfl rfl ?_
            refine jXTa (pc' := 85) C dX1_sightOf_82 rfl i hi 5 (by decide) hinT (by decide +kernel) ?_
            refine j_iload_n (pc' := 86) C dX1_sightOf_85 rfl rfl ?_
            refine jXTl (pc' := 87) C dX1_sightOf_86 rfl i hi 5 (by decide) j rfl (by unfold lenT; simp; omega) ?_
            refine j_ireturn _ C dX1_sightOf_87 ?_
            exact ⟨by rw [hF] <;> rfl, by rw [hF] <;> rfl⟩
          · have hF : xSightOf T (nI i) (nI j) (nI 3) = ((T i).2 6 j, T) := by rw [hF0, xSightVal, if_neg (show ¬ nI 3 = 0 by decide), if_neg (show ¬ nI 3 = 1 by decide), if_neg (show ¬ nI 3 = 2 by decide), if_pos (show nI 3 = 3 by decide)]
            refine j_swIn (pc' := 88) (off := 60) C dX1_sightOf_28 (by decide) (by decide) (by decide) (by decide) ?_
            refine j_aload (pc' := 90) C dX1_sightOf_88 rfl rfl ?_
            refine jXTa (pc' := 93) C dX1_sightOf_90 rfl i hi 6 (by decide) hinT (by decide +kernel) ?_
            refine j_iload_n (pc' := 94) C dX1_sightOf_93 rfl rfl ?_
            refine jXTl (pc' := 95) C dX1_sightOf_94 rfl i hi 6 (by decide) j rfl (by unfold lenT; simp; omega) ?_
            refine j_ireturn _ C dX1_sightOf_95 ?_
            exact ⟨by rw [hF] <;> rfl, by rw [hF] <;> rfl⟩
          · have hF : xSightOf T (nI i) (nI j) (nI 4) = ((settleF (T i)).2 7 j, uT T i (settleF (T i))) := by rw [hF0, xSightVal, if_neg (show ¬ nI 4 = 0 by decide), if_neg (show ¬ nI 4 = 1 by decide), if_neg (show ¬ nI 4 = 2 by decide), if_neg (show ¬ nI 4 = 3 by decide), if_pos (show nI 4 = 4 by decide)]
            refine j_swIn (pc' := 96) (off := 68) C dX1_sightOf_28 (by decide) (by decide) (by decide) (by decide) ?_
            refine j_aload (pc' := 98) C dX1_sightOf_96 rfl rfl ?_
            refine jX_callT (pc' := 101) C i hi (c_settle l D cI cO (B i) (T i) (hok i hi)) 0 gX1_sightOf_X0_settle rfl (by decide +kernel) (by decide) rfl rfl (Nat.le_of_ble_eq_true rfl) rfl dX1_sightOf_98 rfl (fun v1 u1 hp1 => ?_)
            obtain ⟨rfl, rfl⟩ := hp1
            show J p l e _ s m args below meth c 0 0 _ _ D A _ _ [] _
            refine j_aload (pc' := 103) C dX1_sightOf_101 rfl rfl ?_
            refine jXTa (pc' := 106) C dX1_sightOf_103 rfl i hi 7 (by decide) hinT (by decide +kernel) ?_
            refine j_iload_n (pc' := 107) C dX1_sightOf_106 rfl rfl ?_
            refine jXTl (pc' := 108) C dX1_sightOf_107 rfl i hi 7 (by decide) j rfl (by unfold lenT; simp; omega) ?_
            refine j_ireturn _ C dX1_sightOf_108 ?_
            exact ⟨by rw [hF, uT_s], by rw [hF]⟩
        
      · skip
        have hF : xSightOf T (nI i) sg w = (-1, T) := by rw [xSightOf, nI_clamp (show i < 2 ^ 31 by omega), if_pos (Or.inr (Or.inr h22))]
        refine j_iconst (pc' := 26) C dX1_sightOf_25 rfl (-1) (by decide) ?_
        refine j_ireturn _ C dX1_sightOf_26 ?_
        exact ⟨by rw [hF] <;> rfl, by rw [hF] <;> rfl⟩
  
set_option maxRecDepth 100000 in
set_option maxHeartbeats 4000000 in
theorem c_Xtable (l : Launch) (D : va_G) (cI cO : ClassId) (ao ta : Nat) (B : Nat → Nat → Nat) (T : Nat → TS) (hok : okX T) (tb w : Int32) : Kt l yX1_table wsX1_table 5 (wX cI cO ao ta B) D cI cO (fun _ => True) [.ref ao, .int tb, .int w] T (fun r u => r = some (.int (xTable T tb w).1) ∧ u = (xTable T tb w).2) := by
  refine Kt_of (cc := cX1_table) (n := 4) (ret := some .int) rfl (by decide +kernel) (Nat.le_of_ble_eq_true rfl) rfl [some (.ref ao), some (.int tb), some (.int w), none] rfl ?_
  intro p e s m args below meth c A C _ _
  have hinT : ∀ w ∈ wsX00, w ∈ wsX1_table := by decide +kernel
  refine j_aload_n (pc' := 1) C dX1_table_0 rfl rfl ?_
  refine j_iload_n (pc' := 2) C dX1_table_1 rfl rfl ?_
  refine jc_same (pc' := 5) C (c_tableAt l D cI cO ao ta B T tb) 1 gX1_table_X1_tableAt rfl (by decide +kernel) (by decide) rfl rfl (by decide) 1 0 rfl rfl (wX_obj cI cO ao ta B _) (wX_addr cI cO ao ta B _) dX1_table_2 rfl (fun v1 u1 hp1 => ?_)
  obtain ⟨rfl, hu1⟩ := hp1
  rw [hu1]
  clear hu1 u1
  show J p l e _ s m args below meth c 0 0 _ _ D A _ _ [_] _
  by_cases h4 : isInF tb 0 2 = 0
  · rw [tbV, if_pos h4]
    have hF : xTable T tb w = (-1, T) := by rw [xTable, if_pos (h4)]
    refine j_astore_nN (pc' := 6) C dX1_table_5 rfl (by decide) rfl ?_
    refine j_aload_nN (pc' := 7) C dX1_table_6 rfl rfl ?_
    refine j_ifnonnullN (pc' := 10) C dX1_table_7 rfl ?_
    refine j_iconst (pc' := 11) C dX1_table_10 rfl (-1) (by decide) ?_
    refine j_ireturn _ C dX1_table_11 ?_
    exact ⟨by rw [hF] <;> rfl, by rw [hF] <;> rfl⟩
  · obtain ⟨i, hi, rfl⟩ := isTb h4
    rw [tbV, if_neg h4, nI_clamp (show i < 2 ^ 31 by omega)]
    refine j_astore_n (pc' := 6) C dX1_table_5 rfl (by decide) rfl ?_
    refine j_aload_n (pc' := 7) C dX1_table_6 rfl rfl ?_
    refine j_ifnonnull (pc' := 12) C dX1_table_7 (by decide) ?_
    refine j_iload_n (pc' := 13) C dX1_table_12 rfl rfl ?_
    by_cases hw : w.toInt < 0 ∨ 5 < w.toInt
    · have hne : ∀ q : Nat, q ≤ 5 → ¬ w = nI q := by
        intro q hq e
        rw [e, nI_toInt (by omega)] at hw
        omega
      have hF : xTable T (nI i) w = (-1, T) := by
        rw [xTable, if_neg h4, if_neg (show ¬ w = 0 from hne 0 (by decide)), if_neg (show ¬ w = 1 from hne 1 (by decide)), if_neg (show ¬ w = 2 from hne 2 (by decide)), if_neg (show ¬ w = 3 from hne 3 (by decide)), if_neg (show ¬ w = 4 from hne 4 (by decide)), if_neg (show ¬ w = 5 from hne 5 (by decide))]
      refine j_swOut (pc' := 85) C dX1_table_13 (by decide) hw ?_
      refine j_iconst (pc' := 86) C dX1_table_85 rfl (-1) (by decide) ?_
      refine j_ireturn _ C dX1_table_86 ?_
      exact ⟨by rw [hF] <;> rfl, by rw [hF] <;> rfl⟩
    · obtain ⟨q, hq, rfl⟩ : ∃ q : Nat, q ≤ 5 ∧ w = nI q := by
        refine nI_of2 (M := 5) (n := 5) (by decide) ?_ ?_
        · intro z
          rw [Int32.lt_iff_toInt_lt] at z
          exact hw (Or.inl z)
        · rw [Int32.le_iff_toInt_le]
          have : (5 : Int32).toInt = 5 := rfl
          omega
      rcases (show q = 0 ∨ q = 1 ∨ q = 2 ∨ q = 3 ∨ q = 4 ∨ q = 5 by omega) with rfl | rfl | rfl | rfl | rfl | rfl
      · have hF : xTable T (nI i) (nI 0) = ((T i).1 0, T) := by rw [xTable, if_neg h4, nI_clamp (show i < 2 ^ 31 by omega), if_pos (show nI 0 = 0 by decide)]
        refine j_swIn (pc' := 52) (off := 39) C dX1_table_13 (by decide) (by decide) (by decide) (by decide) ?_
        refine j_aload_n (pc' := 53) C dX1_table_52 rfl rfl ?_
        refine jXTi (pc' := 56) C dX1_table_53 rfl i hi 0 (by unfold isIT; decide) hinT (by decide +kernel) ?_
        refine j_ireturn _ C dX1_table_56 ?_
        exact ⟨by rw [hF] <;> rfl, by rw [hF] <;> rfl⟩
      · have hF : xTable T (nI i) (nI 1) = ((T i).1 1, T) := by rw [xTable, if_neg h4, nI_clamp (show i < 2 ^ 31 by omega), if_neg (show ¬ nI 1 = 0 by decide), if_pos (show nI 1 = 1 by decide)]
        refine j_swIn (pc' := 57) (off := 44) C dX1_table_13 (by decide) (by decide) (by decide) (by decide) ?_
        refine j_aload_n (pc' := 58) C dX1_table_57 rfl rfl ?_
        refine jXTi (pc' := 61) C dX1_table_58 rfl i hi 1 (by unfold isIT; decide) hinT (by decide +kernel) ?_
        refine j_ireturn _ C dX1_table_61 ?_
        exact ⟨by rw [hF] <;> rfl, by rw [hF] <;> rfl⟩
      · have hF : xTable T (nI i) (nI 2) = xMany T i 0 := by rw [xTable, if_neg h4, nI_clamp (show i < 2 ^ 31 by omega), if_neg (show ¬ nI 2 = 0 by decide), if_neg (show ¬ nI 2 = 1 by decide), if_pos (show nI 2 = 2 by decide)]
        refine j_swIn (pc' := 62) (off := 49) C dX1_table_13 (by decide) (by decide) (by decide) (by decide) ?_
        refine j_aload_n (pc' := 63) C dX1_table_62 rfl rfl ?_
        refine j_iconst (pc' := 64) C dX1_table_63 rfl 0 (by decide) ?_
        refine jX_callT (pc' := 67) C i hi (c_sightsThatAre l D cI cO (B i) (T i) (hok i hi) 0) 1 gX1_table_X0_sightsThatAre rfl (by decide +kernel) (by decide) rfl rfl (Nat.le_of_ble_eq_true rfl) rfl dX1_table_64 rfl (fun v1 u1 hp1 => ?_)
        obtain ⟨rfl, rfl⟩ := hp1
        show J p l e _ s m args below meth c 0 0 _ _ D A _ _ [_] _
        refine j_ireturn _ C dX1_table_67 ?_
        exact ⟨by rw [hF] <;> rfl, by rw [hF] <;> rfl⟩
      · have hF : xTable T (nI i) (nI 3) = xMany T i 1 := by rw [xTable, if_neg h4, nI_clamp (show i < 2 ^ 31 by omega), if_neg (show ¬ nI 3 = 0 by decide), if_neg (show ¬ nI 3 = 1 by decide), if_neg (show ¬ nI 3 = 2 by decide), if_pos (show nI 3 = 3 by decide)]
        refine j_swIn (pc' := 68) (off := 55) C dX1_table_13 (by decide) (by decide) (by decide) (by decide) ?_
        refine j_aload_n (pc' := 69) C dX1_table_68 rfl rfl ?_
        refine j_iconst (pc' := 70) C dX1_table_69 rfl 1 (by decide) ?_
        refine jX_callT (pc' := 73) C i hi (c_sightsThatAre l D cI cO (B i) (T i) (hok i hi) 1) 1 gX1_table_X0_sightsThatAre rfl (by decide +kernel) (by decide) rfl rfl (Nat.le_of_ble_eq_true rfl) rfl dX1_table_70 rfl (fun v1 u1 hp1 => ?_)
        obtain ⟨rfl, rfl⟩ := hp1
        show J p l e _ s m args below meth c 0 0 _ _ D A _ _ [_] _
        refine j_ireturn _ C dX1_table_73 ?_
        exact ⟨by rw [hF] <;> rfl, by rw [hF] <;> rfl⟩
      · have hF : xTable T (nI i) (nI 4) = xMany T i 2 := by rw [xTable, if_neg h4, nI_clamp (show i < 2 ^ 31 by omega), if_neg (show ¬ nI 4 = 0 by decide), if_neg (show ¬ nI 4 = 1 by decide), if_neg (show ¬ nI 4 = 2 by decide), if_neg (show ¬ nI 4 = 3 by decide), if_pos (show nI 4 = 4 by decide)]
        refine j_swIn (pc' := 74) (off := 61) C dX1_table_13 (by decide) (by decide) (by decide) (by decide) ?_
        refine j_aload_n (pc' := 75) C dX1_table_74 rfl rfl ?_
        refine j_iconst (pc' := 76) C dX1_table_75 rfl 2 (by decide) ?_
        refine jX_callT (pc' := 79) C i hi (c_sightsThatAre l D cI cO (B i) (T i) (hok i hi) 2) 1 gX1_table_X0_sightsThatAre rfl (by decide +kernel) (by decide) rfl rfl (Nat.le_of_ble_eq_true rfl) rfl dX1_table_76 rfl (fun v1 u1 hp1 => ?_)
        obtain ⟨rfl, rfl⟩ := hp1
        show J p l e _ s m args below meth c 0 0 _ _ D A _ _ [_] _
        refine j_ireturn _ C dX1_table_79 ?_
        exact ⟨by rw [hF] <;> rfl, by rw [hF] <;> rfl⟩
      · have hF : xTable T (nI i) (nI 5) = ((T i).1 2, T) := by rw [xTable, if_neg h4, nI_clamp (show i < 2 ^ 31 by omega), if_neg (show ¬ nI 5 = 0 by decide), if_neg (show ¬ nI 5 = 1 by decide), if_neg (show ¬ nI 5 = 2 by decide), if_neg (show ¬ nI 5 = 3 by decide), if_neg (show ¬ nI 5 = 4 by decide), if_pos (show nI 5 = 5 by decide)]
        refine j_swIn (pc' := 80) (off := 67) C dX1_table_13 (by decide) (by decide) (by decide) (by decide) ?_
        refine j_aload_n (pc' := 81) C dX1_table_80 rfl rfl ?_
        refine jXTi (pc' := 84) C dX1_table_81 rfl i hi 2 (by unfold isIT; decide) hinT (by decide +kernel) ?_
        refine j_ireturn _ C dX1_table_84 ?_
        exact ⟨by rw [hF] <;> rfl, by rw [hF] <;> rfl⟩
  
