/-! the rest of the Table -/
def forgetF (t : TS) : TS := (upd (upd t.1 12 0) 13 0, t.2)
def growV (x many : Int32) : Int32 := if x = 1000001 then x else (if 1000000 < x + many then 1000000 else x + many)
def mapA (v : Int32 → Int32) (f : Nat → Int32) (n : Nat) : Nat → Int32 := fun j => if j < n then v (f j) else f j
theorem mapA_0 (v : Int32 → Int32) (f : Nat → Int32) : mapA v f 0 = f := by funext j; simp [mapA]
theorem mapA_at (v : Int32 → Int32) (f : Nat → Int32) (i : Nat) : mapA v f i i = f i := by simp [mapA]
theorem mapA_s (v : Int32 → Int32) (f : Nat → Int32) (i : Nat) : upd (mapA v f i) i (v (f i)) = mapA v f (i + 1) := by
  funext j
  unfold upd mapA
  by_cases h : j = i
  · subst h; simp
  · by_cases h2 : j < i
    · rw [if_neg h, if_pos h2, if_pos (show j < i + 1 by omega)]
    · rw [if_neg h, if_neg h2, if_neg (show ¬ j < i + 1 by omega)]
theorem mapA_k (v : Int32 → Int32) (f : Nat → Int32) (i : Nat) (h : v (f i) = f i) : mapA v f i = mapA v f (i + 1) := by
  rw [← mapA_s, h]
  funext j
  unfold upd
  by_cases hj : j = i
  · subst hj; rw [if_pos rfl, mapA_at]
  · rw [if_neg hj]
def growF (t : TS) (many : Int32) : TS := forgetF (upd t.1 0 (t.1 0 + many), ua t.2 6 (mapA (fun x => growV x many) (t.2 6) (t.1 1).toNatClampNeg))
def shrV (x many : Int32) : Int32 := if x - many < 0 then 0 else x - many
def shrF (t : TS) (many : Int32) : TS := forgetF (upd t.1 0 (t.1 0 - many), ua t.2 5 (mapA (fun x => shrV x many) (t.2 5) (t.1 1).toNatClampNeg))
def startF (t : TS) (many : Int32) : TS := forgetF (upd (upd t.1 0 many) 1 0, t.2)
def roomF (t : TS) (many : Int32) : TS := forgetF (upd t.1 2 many, t.2)
def addF (t : TS) (a b lo hi : Int32) : TS := forgetF (upd t.1 1 (t.1 1 + 1), ua (ua (ua (ua t.2 3 (upd (t.2 3) (t.1 1).toNatClampNeg a)) 4 (upd (t.2 4) (t.1 1).toNatClampNeg b)) 5 (upd (t.2 5) (t.1 1).toNatClampNeg lo)) 6 (upd (t.2 6) (t.1 1).toNatClampNeg hi))
def cntF (f : Nat → Int32) (st : Int32) : Nat → Int32
  | 0 => 0
  | n + 1 => if f n = st then cntF f st n + 1 else cntF f st n
def rowsOfF (t : TS) (v : Nat) (by_ : Int32) : Int64 := if by_ = 0 then (t.2 9 (v + 1) - t.2 9 v).toInt64 else (t.2 8 v).toInt64
def sumF (f : Nat → Int32) : Nat → Int32
  | 0 => 0
  | n + 1 => sumF f n + f n
def agW (t : TS) (n : Nat) : Nat → Int32 := fun j => if j ≤ n then sumF (t.2 8) j else t.2 11 j
theorem agW_0 (t : TS) : upd (t.2 11) 0 0 = agW t 0 := by
  funext j; unfold upd agW
  by_cases h : j = 0
  · subst h; rfl
  · rw [if_neg h, if_neg (by omega)]
theorem agW_s (t : TS) (i : Nat) : upd (agW t i) (i + 1) (agW t i i + t.2 8 i) = agW t (i + 1) := by
  funext j
  unfold upd
  by_cases h : j = i + 1
  · subst h; rw [if_pos rfl]; simp [agW, sumF]
  · rw [if_neg h]; unfold agW
    by_cases h2 : j ≤ i
    · rw [if_pos h2, if_pos (by omega)]
    · rw [if_neg h2, if_neg (by omega)]
def agL (t : TS) (g : Nat → Int32) : Nat → Nat → Int32
  | 0, _ => 1
  | k + 1, i => if t.2 7 i = 0 ∧ (g (t.2 4 i).toNatClampNeg - g (t.2 3 i).toNatClampNeg < t.2 5 i ∨ t.2 6 i < g (t.2 4 i).toNatClampNeg - g (t.2 3 i).toNatClampNeg) then 0 else agL t g k (i + 1)
def agreeF (t : TS) : Int32 × TS := (if agW (settleF t) 64 64 = (settleF t).1 0 then agL (settleF t) (agW (settleF t) 64) (t.1 1).toNatClampNeg 0 else 0, ((settleF t).1, ua (settleF t).2 11 (agW (settleF t) 64)))
set_option maxRecDepth 100000 in
set_option maxHeartbeats 4000000 in
theorem c_startAnew (l : Launch) (D : va_G) (cI cO : ClassId) (B : Nat → Nat) (t : TS) (many : Int32) : Kt l yX0_startAnew wsX0_startAnew 1 (wT cI B) D cI cO (fun _ => True) [.ref (B 0), .int many] t (fun r u => r = none ∧ u = startF t many) := by
  refine Kt_of (cc := cX0_startAnew) (n := 2) (ret := none) rfl (by decide +kernel) (Nat.le_of_ble_eq_true rfl) rfl [some (.ref (B 0)), some (.int many)] rfl ?_
  intro p e s m args below meth c A C _ _
  have hinT : ∀ w ∈ wsX00, w ∈ wsX0_startAnew := by decide +kernel
  refine j_aload_n (pc' := 1) C dX0_startAnew_0 rfl rfl ?_
  refine j_iload_n (pc' := 2) C dX0_startAnew_1 rfl rfl ?_
  refine jTp (pc' := 5) C dX0_startAnew_2 rfl 0 (by decide) hinT (by decide +kernel) ?_
  refine j_aload_n (pc' := 6) C dX0_startAnew_5 rfl rfl ?_
  refine j_iconst (pc' := 7) C dX0_startAnew_6 rfl 0 (by decide) ?_
  refine jTp (pc' := 10) C dX0_startAnew_7 rfl 1 (by decide) hinT (by decide +kernel) ?_
  refine j_aload_n (pc' := 11) C dX0_startAnew_10 rfl rfl ?_
  refine jc_same (pc' := 14) C (c_forget l D cI cO B _) 0 gX0_startAnew_X0_forget rfl (by decide +kernel) (by decide) rfl rfl (by decide) 0 0 rfl rfl (wT_obj cI B _) (fun _ => rfl) dX0_startAnew_11 rfl (fun v1 u1 hp1 => ?_)
  obtain ⟨rfl, rfl⟩ := hp1
  show J p l e _ s m args below meth c 0 0 _ _ D A _ _ [] _
  refine j_return _ C dX0_startAnew_14 ?_
  exact ⟨rfl, rfl⟩
  
set_option maxRecDepth 100000 in
set_option maxHeartbeats 4000000 in
theorem c_makeRoom (l : Launch) (D : va_G) (cI cO : ClassId) (B : Nat → Nat) (t : TS) (many : Int32) : Kt l yX0_makeRoom wsX0_makeRoom 1 (wT cI B) D cI cO (fun _ => True) [.ref (B 0), .int many] t (fun r u => r = none ∧ u = roomF t many) := by
  refine Kt_of (cc := cX0_makeRoom) (n := 2) (ret := none) rfl (by decide +kernel) (Nat.le_of_ble_eq_true rfl) rfl [some (.ref (B 0)), some (.int many)] rfl ?_
  intro p e s m args below meth c A C _ _
  have hinT : ∀ w ∈ wsX00, w ∈ wsX0_makeRoom := by decide +kernel
  refine j_aload_n (pc' := 1) C dX0_makeRoom_0 rfl rfl ?_
  refine j_iload_n (pc' := 2) C dX0_makeRoom_1 rfl rfl ?_
  refine jTp (pc' := 5) C dX0_makeRoom_2 rfl 2 (by decide) hinT (by decide +kernel) ?_
  refine j_aload_n (pc' := 6) C dX0_makeRoom_5 rfl rfl ?_
  refine jc_same (pc' := 9) C (c_forget l D cI cO B _) 0 gX0_makeRoom_X0_forget rfl (by decide +kernel) (by decide) rfl rfl (by decide) 0 0 rfl rfl (wT_obj cI B _) (fun _ => rfl) dX0_makeRoom_6 rfl (fun v1 u1 hp1 => ?_)
  obtain ⟨rfl, rfl⟩ := hp1
  show J p l e _ s m args below meth c 0 0 _ _ D A _ _ [] _
  refine j_return _ C dX0_makeRoom_9 ?_
  exact ⟨rfl, rfl⟩
  
set_option maxRecDepth 100000 in
set_option maxHeartbeats 4000000 in
theorem c_grow (l : Launch) (D : va_G) (cI cO : ClassId) (B : Nat → Nat) (t : TS) (hok : okT t) (many : Int32) : Kt l yX0_grow wsX0_grow 1 (wT cI B) D cI cO (fun _ => True) [.ref (B 0), .int many] t (fun r u => r = none ∧ u = growF t many) := by
  refine Kt_of (cc := cX0_grow) (n := 3) (ret := none) rfl (by decide +kernel) (Nat.le_of_ble_eq_true rfl) rfl [some (.ref (B 0)), some (.int many), none] rfl ?_
  intro p e s m args below meth c A C _ _
  have hinT : ∀ w ∈ wsX00, w ∈ wsX0_grow := by decide +kernel
  obtain ⟨en, hn41⟩ := vp_in_c hok.1 (by decide)
  generalize hN : (t.1 1).toNatClampNeg = N at en hn41
  have loop : ∀ (k i : Nat), i + k = N → J p l e (rmH 1) s m args below meth c 0 0 (RQ below args s D (wT cI B) (fun r u => r = none ∧ u = growF t many) A) 3 D A 12 [some (.ref (B 0)), some (.int many), some (.int (nI i))] [] (wTW cI B (upd t.1 0 (t.1 0 + many), t.2) 6 (mapA (fun x => growV x many) (t.2 6) i)) := by
    intro k
    induction k with
    | zero =>
      intro i hi
      have hi2 : i = N := by omega
      subst hi2
      refine j_iload_n (pc' := 13) C dX0_grow_12 rfl rfl ?_
      refine j_aload_n (pc' := 14) C dX0_grow_13 rfl rfl ?_
      refine jWi (pc' := 17) C dX0_grow_14 rfl 1 (by unfold isIT; decide) hinT (by decide +kernel) ?_
      refine j_icmp_ge (tgt := 56) (pc' := 20) C dX0_grow_17 (by decide) rfl (fun h17 => ?_) (fun h17 => ?_)
      · skip
        refine j_aload_n (pc' := 57) C dX0_grow_56 rfl rfl ?_
        refine j_ws (ws' := wT cI B (upd t.1 0 (t.1 0 + many), ua t.2 6 (mapA (fun x => growV x many) (t.2 6) i))) rfl ?_
        refine jc_same (pc' := 60) C (c_forget l D cI cO B (upd t.1 0 (t.1 0 + many), ua t.2 6 (mapA (fun x => growV x many) (t.2 6) i))) 0 gX0_grow_X0_forget rfl (by decide +kernel) (by decide) rfl rfl (by decide) 0 0 rfl rfl (wT_obj cI B _) (fun _ => rfl) dX0_grow_57 rfl (fun v1 u1 hp1 => ?_)
        obtain ⟨rfl, rfl⟩ := hp1
        show J p l e _ s m args below meth c 0 0 _ _ D A _ _ [] _
        refine j_return _ C dX0_grow_60 ?_
        exact ⟨rfl, by rw [growF, hN]; rfl⟩
        
      · skip
        exact absurd (by show t.1 1 ≤ _; rw [en]; exact nI_le (Nat.le_refl _) (by omega)) h17 -- done
    | succ k ih =>
      intro i hi
      refine j_iload_n (pc' := 13) C dX0_grow_12 rfl rfl ?_
      refine j_aload_n (pc' := 14) C dX0_grow_13 rfl rfl ?_
      refine jWi (pc' := 17) C dX0_grow_14 rfl 1 (by unfold isIT; decide) hinT (by decide +kernel) ?_
      refine j_icmp_ge (tgt := 56) (pc' := 20) C dX0_grow_17 (by decide) rfl (fun h17 => ?_) (fun h17 => ?_)
      · skip
        exact absurd h17 (by show ¬ t.1 1 ≤ _; rw [en]; exact nI_ge (by omega) (by omega)) -- done
      · skip
        refine j_aload_n (pc' := 21) C dX0_grow_20 rfl rfl ?_
        refine jWa (pc' := 24) C dX0_grow_21 rfl 6 (by decide) hinT (by decide +kernel) ?_
        refine j_iload_n (pc' := 25) C dX0_grow_24 rfl rfl ?_
        refine jWgN (pc' := 26) C dX0_grow_25 rfl (by decide) i rfl (by unfold lenT; simp; omega) ?_
        refine j_ldc (pc' := 28) C dX0_grow_26 rfl 1000001 (by decide +kernel) ?_
        refine j_icmp_eq (tgt := 50) (pc' := 31) C dX0_grow_28 (by decide) rfl (fun h28 => ?_) (fun h28 => ?_)
        · skip
          refine j_iinc (pc' := 53) C dX0_grow_50 rfl 1 (by decide) rfl (by decide) rfl ?_
          refine j_goto (pc' := 12) C dX0_grow_53 (by decide) ?_
          first
            | (rw [mapA_at] at h28; rw [mapA_k (fun x => growV x many) (t.2 6) i (by show growV _ _ = _; rw [growV, if_pos h28]), nI_1]; exact ih (i + 1) (by omega))
            | (rw [mapA_at] at h28 ⊢; rw [show (if 1000000 < t.2 6 i + many then 1000000 else t.2 6 i + many) = (fun x => growV x many) (t.2 6 i) from (by show _ = growV _ _; rw [growV, if_neg h28]), mapA_s, nI_1]; exact ih (i + 1) (by omega))
        · skip
          refine j_aload_n (pc' := 32) C dX0_grow_31 rfl rfl ?_
          refine jWa (pc' := 35) C dX0_grow_32 rfl 6 (by decide) hinT (by decide +kernel) ?_
          refine j_iload_n (pc' := 36) C dX0_grow_35 rfl rfl ?_
          refine j_aload_n (pc' := 37) C dX0_grow_36 rfl rfl ?_
          refine jWa (pc' := 40) C dX0_grow_37 rfl 6 (by decide) hinT (by decide +kernel) ?_
          refine j_iload_n (pc' := 41) C dX0_grow_40 rfl rfl ?_
          refine jWgN (pc' := 42) C dX0_grow_41 rfl (by decide) i rfl (by unfold lenT; simp; omega) ?_
          refine j_iload_n (pc' := 43) C dX0_grow_42 rfl rfl ?_
          refine j_iadd (pc' := 44) C dX0_grow_43 rfl ?_
          refine j_ldc (pc' := 46) C dX0_grow_44 rfl 1000000 (by decide +kernel) ?_
          refine j_min (pc' := 49) C dX0_grow_46 rfl (by decide +kernel) (by decide +kernel) (by decide +kernel) (by decide +kernel) (by decide) (Nat.le_of_ble_eq_true rfl) ?_
          refine jWsN (pc' := 50) C dX0_grow_49 rfl (by decide) i rfl (by unfold lenT; simp; omega) ?_
          refine j_iinc (pc' := 53) C dX0_grow_50 rfl 1 (by decide) rfl (by decide) rfl ?_
          refine j_goto (pc' := 12) C dX0_grow_53 (by decide) ?_
          first
            | (rw [mapA_at] at h28; rw [mapA_k (fun x => growV x many) (t.2 6) i (by show growV _ _ = _; rw [growV, if_pos h28]), nI_1]; exact ih (i + 1) (by omega))
            | (rw [mapA_at] at h28 ⊢; rw [show (if 1000000 < t.2 6 i + many then 1000000 else t.2 6 i + many) = (fun x => growV x many) (t.2 6 i) from (by show _ = growV _ _; rw [growV, if_neg h28]), mapA_s, nI_1]; exact ih (i + 1) (by omega))
  refine j_aload_n (pc' := 1) C dX0_grow_0 rfl rfl ?_
  refine j_dup (pc' := 2) C dX0_grow_1 rfl rfl ?_
  refine jTi (pc' := 5) C dX0_grow_2 rfl 0 (by unfold isIT; decide) hinT (by decide +kernel) ?_
  refine j_iload_n (pc' := 6) C dX0_grow_5 rfl rfl ?_
  refine j_iadd (pc' := 7) C dX0_grow_6 rfl ?_
  refine jTp (pc' := 10) C dX0_grow_7 rfl 0 (by decide) hinT (by decide +kernel) ?_
  refine j_iconst (pc' := 11) C dX0_grow_10 rfl 0 (by decide) ?_
  refine j_istore_n (pc' := 12) C dX0_grow_11 rfl (by decide) rfl ?_
  have hb0 := loop N 0 (by omega)
  unfold wTW at hb0
  rw [mapA_0] at hb0
  rw [show ua (upd t.1 0 (t.1 0 + many), t.2).2 6 (t.2 6) = t.2 from ua_self t.2 6] at hb0
  exact hb0
set_option maxRecDepth 100000 in
set_option maxHeartbeats 4000000 in
theorem c_shrink (l : Launch) (D : va_G) (cI cO : ClassId) (B : Nat → Nat) (t : TS) (hok : okT t) (many : Int32) : Kt l yX0_shrink wsX0_shrink 1 (wT cI B) D cI cO (fun _ => True) [.ref (B 0), .int many] t (fun r u => r = none ∧ u = shrF t many) := by
  refine Kt_of (cc := cX0_shrink) (n := 3) (ret := none) rfl (by decide +kernel) (Nat.le_of_ble_eq_true rfl) rfl [some (.ref (B 0)), some (.int many), none] rfl ?_
  intro p e s m args below meth c A C _ _
  have hinT : ∀ w ∈ wsX00, w ∈ wsX0_shrink := by decide +kernel
  obtain ⟨en, hn41⟩ := vp_in_c hok.1 (by decide)
  generalize hN : (t.1 1).toNatClampNeg = N at en hn41
  have loop : ∀ (k i : Nat), i + k = N → J p l e (rmH 1) s m args below meth c 0 0 (RQ below args s D (wT cI B) (fun r u => r = none ∧ u = shrF t many) A) 3 D A 12 [some (.ref (B 0)), some (.int many), some (.int (nI i))] [] (wTW cI B (upd t.1 0 (t.1 0 - many), t.2) 5 (mapA (fun x => shrV x many) (t.2 5) i)) := by
    intro k
    induction k with
    | zero =>
      intro i hi
      have hi2 : i = N := by omega
      subst hi2
      refine j_iload_n (pc' := 13) C dX0_shrink_12 rfl rfl ?_
      refine j_aload_n (pc' := 14) C dX0_shrink_13 rfl rfl ?_
      refine jWi (pc' := 17) C dX0_shrink_14 rfl 1 (by unfold isIT; decide) hinT (by decide +kernel) ?_
      refine j_icmp_ge (tgt := 44) (pc' := 20) C dX0_shrink_17 (by decide) rfl (fun h17 => ?_) (fun h17 => ?_)
      · skip
        refine j_aload_n (pc' := 45) C dX0_shrink_44 rfl rfl ?_
        refine j_ws (ws' := wT cI B (upd t.1 0 (t.1 0 - many), ua t.2 5 (mapA (fun x => shrV x many) (t.2 5) i))) rfl ?_
        refine jc_same (pc' := 48) C (c_forget l D cI cO B (upd t.1 0 (t.1 0 - many), ua t.2 5 (mapA (fun x => shrV x many) (t.2 5) i))) 0 gX0_shrink_X0_forget rfl (by decide +kernel) (by decide) rfl rfl (by decide) 0 0 rfl rfl (wT_obj cI B _) (fun _ => rfl) dX0_shrink_45 rfl (fun v1 u1 hp1 => ?_)
        obtain ⟨rfl, rfl⟩ := hp1
        show J p l e _ s m args below meth c 0 0 _ _ D A _ _ [] _
        refine j_return _ C dX0_shrink_48 ?_
        exact ⟨rfl, by rw [shrF, hN]; rfl⟩
        
      · skip
        exact absurd (by show t.1 1 ≤ _; rw [en]; exact nI_le (Nat.le_refl _) (by omega)) h17 -- done
    | succ k ih =>
      intro i hi
      refine j_iload_n (pc' := 13) C dX0_shrink_12 rfl rfl ?_
      refine j_aload_n (pc' := 14) C dX0_shrink_13 rfl rfl ?_
      refine jWi (pc' := 17) C dX0_shrink_14 rfl 1 (by unfold isIT; decide) hinT (by decide +kernel) ?_
      refine j_icmp_ge (tgt := 44) (pc' := 20) C dX0_shrink_17 (by decide) rfl (fun h17 => ?_) (fun h17 => ?_)
      · skip
        exact absurd h17 (by show ¬ t.1 1 ≤ _; rw [en]; exact nI_ge (by omega) (by omega)) -- done
      · skip
        refine j_aload_n (pc' := 21) C dX0_shrink_20 rfl rfl ?_
        refine jWa (pc' := 24) C dX0_shrink_21 rfl 5 (by decide) hinT (by decide +kernel) ?_
        refine j_iload_n (pc' := 25) C dX0_shrink_24 rfl rfl ?_
        refine j_aload_n (pc' := 26) C dX0_shrink_25 rfl rfl ?_
        refine jWa (pc' := 29) C dX0_shrink_26 rfl 5 (by decide) hinT (by decide +kernel) ?_
        refine j_iload_n (pc' := 30) C dX0_shrink_29 rfl rfl ?_
        refine jWgN (pc' := 31) C dX0_shrink_30 rfl (by decide) i rfl (by unfold lenT; simp; omega) ?_
        refine j_iload_n (pc' := 32) C dX0_shrink_31 rfl rfl ?_
        refine j_isub (pc' := 33) C dX0_shrink_32 rfl ?_
        refine j_iconst (pc' := 34) C dX0_shrink_33 rfl 0 (by decide) ?_
        refine j_max (pc' := 37) C dX0_shrink_34 rfl (by decide +kernel) (by decide +kernel) (by decide +kernel) (by decide +kernel) (by decide) (Nat.le_of_ble_eq_true rfl) ?_
        refine jWsN (pc' := 38) C dX0_shrink_37 rfl (by decide) i rfl (by unfold lenT; simp; omega) ?_
        refine j_iinc (pc' := 41) C dX0_shrink_38 rfl 1 (by decide) rfl (by decide) rfl ?_
        refine j_goto (pc' := 12) C dX0_shrink_41 (by decide) ?_
        rw [mapA_at, show (if t.2 5 i - many < 0 then 0 else t.2 5 i - many) = (fun x => shrV x many) (t.2 5 i) from rfl, mapA_s, nI_1]
        exact ih (i + 1) (by omega)
  refine j_aload_n (pc' := 1) C dX0_shrink_0 rfl rfl ?_
  refine j_dup (pc' := 2) C dX0_shrink_1 rfl rfl ?_
  refine jTi (pc' := 5) C dX0_shrink_2 rfl 0 (by unfold isIT; decide) hinT (by decide +kernel) ?_
  refine j_iload_n (pc' := 6) C dX0_shrink_5 rfl rfl ?_
  refine j_isub (pc' := 7) C dX0_shrink_6 rfl ?_
  refine jTp (pc' := 10) C dX0_shrink_7 rfl 0 (by decide) hinT (by decide +kernel) ?_
  refine j_iconst (pc' := 11) C dX0_shrink_10 rfl 0 (by decide) ?_
  refine j_istore_n (pc' := 12) C dX0_shrink_11 rfl (by decide) rfl ?_
  have hb0 := loop N 0 (by omega)
  unfold wTW at hb0
  rw [mapA_0] at hb0
  rw [show ua (upd t.1 0 (t.1 0 - many), t.2).2 5 (t.2 5) = t.2 from ua_self t.2 5] at hb0
  exact hb0
set_option maxRecDepth 100000 in
set_option maxHeartbeats 4000000 in
theorem c_addSight (l : Launch) (D : va_G) (cI cO : ClassId) (B : Nat → Nat) (t : TS) (hok : okT t) (a b lo hi : Int32) : Kt l yX0_addSight wsX0_addSight 1 (wT cI B) D cI cO (fun _ => True) [.ref (B 0), .int a, .int b, .int lo, .int hi] t (fun r u => (t.1 1 < 40 → r = some (.int (t.1 1)) ∧ u = addF t a b lo hi) ∧ (¬ t.1 1 < 40 → r = some (.int (-1)) ∧ u = t)) := by
  refine Kt_of (cc := cX0_addSight) (n := 6) (ret := some .int) rfl (by decide +kernel) (Nat.le_of_ble_eq_true rfl) rfl [some (.ref (B 0)), some (.int a), some (.int b), some (.int lo), some (.int hi), none] rfl ?_
  intro p e s m args below meth c A C _ _
  have hinT : ∀ w ∈ wsX00, w ∈ wsX0_addSight := by decide +kernel
  obtain ⟨en, hn41⟩ := vp_in_c hok.1 (by decide)
  generalize hN : (t.1 1).toNatClampNeg = n at en hn41
  refine j_aload_n (pc' := 1) C dX0_addSight_0 rfl rfl ?_
  refine jTi (pc' := 4) C dX0_addSight_1 rfl 1 (by unfold isIT; decide) hinT (by decide +kernel) ?_
  refine j_istore (pc' := 6) C dX0_addSight_4 rfl (by decide) rfl ?_
  refine j_iload (pc' := 8) C dX0_addSight_6 rfl rfl ?_
  refine j_bipush (pc' := 10) C dX0_addSight_8 rfl 40 (by decide) ?_
  refine j_icmp_lt (tgt := 15) (pc' := 13) C dX0_addSight_10 (by decide) rfl (fun h10 => ?_) (fun h10 => ?_)
  · skip
    have hn40 : n < 40 := by
      rcases Nat.lt_or_ge n 40 with h | h
      · exact h
      · exact absurd h10 (by rw [en]; exact nI_nlt (a := n) (b := 40) h (by omega))
    refine j_aload_n (pc' := 16) C dX0_addSight_15 rfl rfl ?_
    refine jTa (pc' := 19) C dX0_addSight_16 rfl 3 (by decide) hinT (by decide +kernel) ?_
    refine j_iload (pc' := 21) C dX0_addSight_19 rfl rfl ?_
    refine j_iload_n (pc' := 22) C dX0_addSight_21 rfl rfl ?_
    refine jTsN (pc' := 23) C dX0_addSight_22 rfl 3 (by decide) n en (by unfold lenT; simp; omega) ?_
    refine j_aload_n (pc' := 24) C dX0_addSight_23 rfl rfl ?_
    refine jTa (pc' := 27) C dX0_addSight_24 rfl 4 (by decide) hinT (by decide +kernel) ?_
    refine j_iload (pc' := 29) C dX0_addSight_27 rfl rfl ?_
    refine j_iload_n (pc' := 30) C dX0_addSight_29 rfl rfl ?_
    refine jTsN (pc' := 31) C dX0_addSight_30 rfl 4 (by decide) n en (by unfold lenT; simp; omega) ?_
    refine j_aload_n (pc' := 32) C dX0_addSight_31 rfl rfl ?_
    refine jTa (pc' := 35) C dX0_addSight_32 rfl 5 (by decide) hinT (by decide +kernel) ?_
    refine j_iload (pc' := 37) C dX0_addSight_35 rfl rfl ?_
    refine j_iload_n (pc' := 38) C dX0_addSight_37 rfl rfl ?_
    refine jTsN (pc' := 39) C dX0_addSight_38 rfl 5 (by decide) n en (by unfold lenT; simp; omega) ?_
    refine j_aload_n (pc' := 40) C dX0_addSight_39 rfl rfl ?_
    refine jTa (pc' := 43) C dX0_addSight_40 rfl 6 (by decide) hinT (by decide +kernel) ?_
    refine j_iload (pc' := 45) C dX0_addSight_43 rfl rfl ?_
    refine j_iload (pc' := 47) C dX0_addSight_45 rfl rfl ?_
    refine jTsN (pc' := 48) C dX0_addSight_47 rfl 6 (by decide) n en (by unfold lenT; simp; omega) ?_
    refine j_aload_n (pc' := 49) C dX0_addSight_48 rfl rfl ?_
    refine j_iload (pc' := 51) C dX0_addSight_49 rfl rfl ?_
    refine j_iconst (pc' := 52) C dX0_addSight_51 rfl 1 (by decide) ?_
    refine j_iadd (pc' := 53) C dX0_addSight_52 rfl ?_
    refine jTp (pc' := 56) C dX0_addSight_53 rfl 1 (by decide) hinT (by decide +kernel) ?_
    refine j_aload_n (pc' := 57) C dX0_addSight_56 rfl rfl ?_
    refine jc_same (pc' := 60) C (c_forget l D cI cO B _) 0 gX0_addSight_X0_forget rfl (by decide +kernel) (by decide) rfl rfl (by decide) 0 0 rfl rfl (wT_obj cI B _) (fun _ => rfl) dX0_addSight_57 rfl (fun v1 u1 hp1 => ?_)
    obtain ⟨rfl, rfl⟩ := hp1
    show J p l e _ s m args below meth c 0 0 _ _ D A _ _ [] _
    refine j_iload (pc' := 62) C dX0_addSight_60 rfl rfl ?_
    refine j_ireturn _ C dX0_addSight_62 ?_
    exact ⟨fun _ => ⟨rfl, by rw [addF, hN]; rfl⟩, fun h => absurd h10 h⟩
    
  · skip
    refine j_iconst (pc' := 14) C dX0_addSight_13 rfl (-1) (by decide) ?_
    refine j_ireturn _ C dX0_addSight_14 ?_
    exact ⟨fun h => absurd h h10, fun _ => ⟨rfl, rfl⟩⟩
set_option maxRecDepth 100000 in
set_option maxHeartbeats 4000000 in
theorem c_sightsThatAre (l : Launch) (D : va_G) (cI cO : ClassId) (B : Nat → Nat) (t : TS) (hok : okT t) (st : Int32) : Kt l yX0_sightsThatAre wsX0_sightsThatAre 4 (wT cI B) D cI cO (fun _ => True) [.ref (B 0), .int st] t (fun r u => r = some (.int (cntF ((settleF t).2 7) st (t.1 1).toNatClampNeg)) ∧ u = settleF t) := by
  refine Kt_of (cc := cX0_sightsThatAre) (n := 4) (ret := some .int) rfl (by decide +kernel) (Nat.le_of_ble_eq_true rfl) rfl [some (.ref (B 0)), some (.int st), none, none] rfl ?_
  intro p e s m args below meth c A C _ _
  have hinT : ∀ w ∈ wsX00, w ∈ wsX0_sightsThatAre := by decide +kernel
  obtain ⟨en, hn41⟩ := vp_in_c hok.1 (by decide)
  obtain ⟨N, hN0⟩ : ∃ N, N = (t.1 1).toNatClampNeg := ⟨_, rfl⟩
  have hN := hN0.symm
  rw [← hN0] at en hn41
  have en2 : (settleF t).1 1 = nI N := (settleF_1 t (by decide)).trans en
  have loop : ∀ (k i : Nat), i + k = N → J p l e (rmH 4) s m args below meth c 0 0 (RQ below args s D (wT cI B) (fun r u => r = some (.int (cntF ((settleF t).2 7) st (t.1 1).toNatClampNeg)) ∧ u = settleF t) A) 4 D A 8 [some (.ref (B 0)), some (.int st), some (.int (cntF ((settleF t).2 7) st i)), some (.int (nI i))] [] (wT cI B (settleF t)) := by
    intro k
    induction k with
    | zero =>
      intro i hi
      have hi2 : i = N := by omega
      subst hi2
      refine j_iload_n (pc' := 9) C dX0_sightsThatAre_8 rfl rfl ?_
      refine j_aload_n (pc' := 10) C dX0_sightsThatAre_9 rfl rfl ?_
      refine jTi (pc' := 13) C dX0_sightsThatAre_10 rfl 1 (by unfold isIT; decide) hinT (by decide +kernel) ?_
      refine j_icmp_ge (tgt := 35) (pc' := 16) C dX0_sightsThatAre_13 (by decide) rfl (fun h13 => ?_) (fun h13 => ?_)
      · skip
        refine j_iload_n (pc' := 36) C dX0_sightsThatAre_35 rfl rfl ?_
        refine j_ireturn _ C dX0_sightsThatAre_36 ?_
        exact ⟨by rw [hN], rfl⟩
      · skip
        exact absurd (by rw [en2]; exact nI_le (Nat.le_refl _) (by omega)) h13 -- done
    | succ k ih =>
      intro i hi
      refine j_iload_n (pc' := 9) C dX0_sightsThatAre_8 rfl rfl ?_
      refine j_aload_n (pc' := 10) C dX0_sightsThatAre_9 rfl rfl ?_
      refine jTi (pc' := 13) C dX0_sightsThatAre_10 rfl 1 (by unfold isIT; decide) hinT (by decide +kernel) ?_
      refine j_icmp_ge (tgt := 35) (pc' := 16) C dX0_sightsThatAre_13 (by decide) rfl (fun h13 => ?_) (fun h13 => ?_)
      · skip
        exact absurd h13 (by rw [en2]; exact nI_ge (by omega) (by omega)) -- done
      · skip
        refine j_aload_n (pc' := 17) C dX0_sightsThatAre_16 rfl rfl ?_
        refine jTa (pc' := 20) C dX0_sightsThatAre_17 rfl 7 (by decide) hinT (by decide +kernel) ?_
        refine j_iload_n (pc' := 21) C dX0_sightsThatAre_20 rfl rfl ?_
        refine jTlN (pc' := 22) C dX0_sightsThatAre_21 rfl 7 (by decide) i rfl (by unfold lenT; simp; omega) ?_
        refine j_iload_n (pc' := 23) C dX0_sightsThatAre_22 rfl rfl ?_
        refine j_icmp_ne (tgt := 29) (pc' := 26) C dX0_sightsThatAre_23 (by decide) rfl (fun h23 => ?_) (fun h23 => ?_)
        · skip
          refine j_iinc (pc' := 32) C dX0_sightsThatAre_29 rfl 1 (by decide) rfl (by decide) rfl ?_
          refine j_goto (pc' := 8) C dX0_sightsThatAre_32 (by decide) ?_
          have hb0 := ih (i + 1) (by omega)
          rw [nI_1]
          first | (rw [cntF, if_neg h23] at hb0; exact hb0) | (rw [cntF, if_pos h23] at hb0; exact hb0)
        · skip
          refine j_iinc (pc' := 29) C dX0_sightsThatAre_26 rfl 1 (by decide) rfl (by decide) rfl ?_
          refine j_iinc (pc' := 32) C dX0_sightsThatAre_29 rfl 1 (by decide) rfl (by decide) rfl ?_
          refine j_goto (pc' := 8) C dX0_sightsThatAre_32 (by decide) ?_
          have hb0 := ih (i + 1) (by omega)
          rw [nI_1]
          first | (rw [cntF, if_neg h23] at hb0; exact hb0) | (rw [cntF, if_pos h23] at hb0; exact hb0)
  refine j_aload_n (pc' := 1) C dX0_sightsThatAre_0 rfl rfl ?_
  refine jc_same (pc' := 4) C (c_settle l D cI cO B (t) hok) 0 gX0_sightsThatAre_X0_settle rfl (by decide +kernel) (by decide) rfl rfl (by decide) 0 0 rfl rfl (wT_obj cI B _) (fun _ => rfl) dX0_sightsThatAre_1 rfl (fun v1 u1 hp1 => ?_)
  obtain ⟨rfl, rfl⟩ := hp1
  show J p l e _ s m args below meth c 0 0 _ _ D A _ _ [] _
  refine j_iconst (pc' := 5) C dX0_sightsThatAre_4 rfl 0 (by decide) ?_
  refine j_istore_n (pc' := 6) C dX0_sightsThatAre_5 rfl (by decide) rfl ?_
  refine j_iconst (pc' := 7) C dX0_sightsThatAre_6 rfl 0 (by decide) ?_
  refine j_istore_n (pc' := 8) C dX0_sightsThatAre_7 rfl (by decide) rfl ?_
  exact loop N 0 (by omega)
  
set_option maxRecDepth 100000 in
set_option maxHeartbeats 4000000 in
theorem c_rowsOf (l : Launch) (D : va_G) (cI cO : ClassId) (B : Nat → Nat) (t : TS) (v : Nat) (hv : v < 64) (by_ : Int32) : Kt l yX0_rowsOf wsX0_rowsOf 0 (wT cI B) D cI cO (fun _ => True) [.ref (B 0), .int (nI v), .int by_] t (fun r u => r = some (.long (rowsOfF t v by_)) ∧ u = t) := by
  refine Kt_of (cc := cX0_rowsOf) (n := 3) (ret := some .long) rfl (by decide +kernel) (Nat.le_of_ble_eq_true rfl) rfl [some (.ref (B 0)), some (.int (nI v)), some (.int by_)] rfl ?_
  intro p e s m args below meth c A C _ _
  have hinT : ∀ w ∈ wsX00, w ∈ wsX0_rowsOf := by decide +kernel
  refine j_iload_n (pc' := 1) C dX0_rowsOf_0 rfl rfl ?_
  refine j_if_eq (tgt := 14) (pc' := 4) C dX0_rowsOf_1 (by decide) rfl (fun h1 => ?_) (fun h1 => ?_)
  · skip
    refine j_aload_n (pc' := 15) C dX0_rowsOf_14 rfl rfl ?_
    refine jTa (pc' := 18) C dX0_rowsOf_15 rfl 9 (by decide) hinT (by decide +kernel) ?_
    refine j_iload_n (pc' := 19) C dX0_rowsOf_18 rfl rfl ?_
    refine j_iconst (pc' := 20) C dX0_rowsOf_19 rfl 1 (by decide) ?_
    refine j_iadd (pc' := 21) C dX0_rowsOf_20 rfl ?_
    refine jTlN (pc' := 22) C dX0_rowsOf_21 rfl 9 (by decide) (v + 1) (nI_1 v) (by unfold lenT; simp; omega) ?_
    refine j_aload_n (pc' := 23) C dX0_rowsOf_22 rfl rfl ?_
    refine jTa (pc' := 26) C dX0_rowsOf_23 rfl 9 (by decide) hinT (by decide +kernel) ?_
    refine j_iload_n (pc' := 27) C dX0_rowsOf_26 rfl rfl ?_
    refine jTlN (pc' := 28) C dX0_rowsOf_27 rfl 9 (by decide) v rfl (by unfold lenT; simp; omega) ?_
    refine j_isub (pc' := 29) C dX0_rowsOf_28 rfl ?_
    refine j_i2l (pc' := 30) C dX0_rowsOf_29 rfl ?_
    refine j_lreturn _ C dX0_rowsOf_30 ?_
    first | exact ⟨by rw [rowsOfF, if_pos h1], rfl⟩ | exact ⟨by rw [rowsOfF, if_neg h1], rfl⟩
  · skip
    refine j_aload_n (pc' := 5) C dX0_rowsOf_4 rfl rfl ?_
    refine jTa (pc' := 8) C dX0_rowsOf_5 rfl 8 (by decide) hinT (by decide +kernel) ?_
    refine j_iload_n (pc' := 9) C dX0_rowsOf_8 rfl rfl ?_
    refine jTlN (pc' := 10) C dX0_rowsOf_9 rfl 8 (by decide) v rfl (by unfold lenT; simp; omega) ?_
    refine j_i2l (pc' := 11) C dX0_rowsOf_10 rfl ?_
    refine j_goto (pc' := 30) C dX0_rowsOf_11 (by decide) ?_
    refine j_lreturn _ C dX0_rowsOf_30 ?_
    first | exact ⟨by rw [rowsOfF, if_pos h1], rfl⟩ | exact ⟨by rw [rowsOfF, if_neg h1], rfl⟩
set_option maxRecDepth 100000 in
set_option maxHeartbeats 4000000 in
theorem c_trulyAgrees (l : Launch) (D : va_G) (cI cO : ClassId) (B : Nat → Nat) (t : TS) (hok : okT t) : Kt l yX0_trulyAgrees wsX0_trulyAgrees 4 (wT cI B) D cI cO (fun _ => True) [.ref (B 0)] t (fun r u => r = some (.int (agreeF t).1) ∧ u = (agreeF t).2) := by
  refine Kt_of (cc := cX0_trulyAgrees) (n := 3) (ret := some .boolean) rfl (by decide +kernel) (Nat.le_of_ble_eq_true rfl) rfl [some (.ref (B 0)), none, none] rfl ?_
  intro p e s m args below meth c A C _ _
  have hinT : ∀ w ∈ wsX00, w ∈ wsX0_trulyAgrees := by decide +kernel
  obtain ⟨en, hn41⟩ := vp_in_c hok.1 (by decide)
  have hft := (settleF_ok hok).2
  rw [settleF_1 t (by decide)] at hft
  generalize hN : (t.1 1).toNatClampNeg = N at en hn41 hft
  have en2 : (settleF t).1 1 = nI N := (settleF_1 t (by decide)).trans en
  have loop2 : agW (settleF t) 64 64 = (settleF t).1 0 → ∀ (k i : Nat) (x : Option Value), i + k = N → agL (settleF t) (agW (settleF t) 64) k i = agL (settleF t) (agW (settleF t) 64) N 0 → J p l e (rmH 4) s m args below meth c 0 0 (RQ below args s D (wT cI B) (fun r u => r = some (.int (agreeF t).1) ∧ u = (agreeF t).2) A) 3 D A 64 [some (.ref (B 0)), some (.int (nI i)), x] [] (wTW cI B (settleF t) 11 (agW (settleF t) 64)) := by
    intro h57 k
    have hag : (agreeF t).1 = agL (settleF t) (agW (settleF t) 64) N 0 := by rw [agreeF, hN]; exact if_pos h57
    induction k with
    | zero =>
      intro i x hi hr
      have hi2 : i = N := by omega
      subst hi2
      refine j_iload_n (pc' := 65) C dX0_trulyAgrees_64 rfl rfl ?_
      refine j_aload_n (pc' := 66) C dX0_trulyAgrees_65 rfl rfl ?_
      refine jWi (pc' := 69) C dX0_trulyAgrees_66 rfl 1 (by unfold isIT; decide) hinT (by decide +kernel) ?_
      refine j_icmp_ge (tgt := 133) (pc' := 72) C dX0_trulyAgrees_69 (by decide) rfl (fun h69 => ?_) (fun h69 => ?_)
      · skip
        refine j_iconst (pc' := 134) C dX0_trulyAgrees_133 rfl 1 (by decide) ?_
        refine j_zreturn _ C dX0_trulyAgrees_134 ?_ ?_
        · exact Or.inr rfl
        · exact ⟨by rw [hag, ← hr]; rfl, rfl⟩
      · skip
        exact absurd (by rw [en2]; exact nI_le (Nat.le_refl _) (by omega)) h69 -- done
    | succ k ih =>
      intro i x hi hr
      have hi1 : i < N := by omega
      refine j_iload_n (pc' := 65) C dX0_trulyAgrees_64 rfl rfl ?_
      refine j_aload_n (pc' := 66) C dX0_trulyAgrees_65 rfl rfl ?_
      refine jWi (pc' := 69) C dX0_trulyAgrees_66 rfl 1 (by unfold isIT; decide) hinT (by decide +kernel) ?_
      refine j_icmp_ge (tgt := 133) (pc' := 72) C dX0_trulyAgrees_69 (by decide) rfl (fun h69 => ?_) (fun h69 => ?_)
      · skip
        exact absurd h69 (by rw [en2]; exact nI_ge (by omega) (by omega)) -- done
      · skip
        refine j_aload_n (pc' := 73) C dX0_trulyAgrees_72 rfl rfl ?_
        refine jWa (pc' := 76) C dX0_trulyAgrees_73 rfl 11 (by decide) hinT (by decide +kernel) ?_
        refine j_aload_n (pc' := 77) C dX0_trulyAgrees_76 rfl rfl ?_
        refine jWa (pc' := 80) C dX0_trulyAgrees_77 rfl 4 (by decide) hinT (by decide +kernel) ?_
        refine j_iload_n (pc' := 81) C dX0_trulyAgrees_80 rfl rfl ?_
        refine jWlN (pc' := 82) C dX0_trulyAgrees_81 rfl 4 (by decide) (by decide) i rfl (by unfold lenT; simp; omega) ?_
        refine jWg (pc' := 83) C dX0_trulyAgrees_82 rfl (by decide) (hft i hi1).2 ?_
        refine j_aload_n (pc' := 84) C dX0_trulyAgrees_83 rfl rfl ?_
        refine jWa (pc' := 87) C dX0_trulyAgrees_84 rfl 11 (by decide) hinT (by decide +kernel) ?_
        refine j_aload_n (pc' := 88) C dX0_trulyAgrees_87 rfl rfl ?_
        refine jWa (pc' := 91) C dX0_trulyAgrees_88 rfl 3 (by decide) hinT (by decide +kernel) ?_
        refine j_iload_n (pc' := 92) C dX0_trulyAgrees_91 rfl rfl ?_
        refine jWlN (pc' := 93) C dX0_trulyAgrees_92 rfl 3 (by decide) (by decide) i rfl (by unfold lenT; simp; omega) ?_
        refine jWg (pc' := 94) C dX0_trulyAgrees_93 rfl (by decide) (hft i hi1).1 ?_
        refine j_isub (pc' := 95) C dX0_trulyAgrees_94 rfl ?_
        refine j_istore_n (pc' := 96) C dX0_trulyAgrees_95 rfl (by decide) rfl ?_
        refine j_aload_n (pc' := 97) C dX0_trulyAgrees_96 rfl rfl ?_
        refine jWa (pc' := 100) C dX0_trulyAgrees_97 rfl 7 (by decide) hinT (by decide +kernel) ?_
        refine j_iload_n (pc' := 101) C dX0_trulyAgrees_100 rfl rfl ?_
        refine jWlN (pc' := 102) C dX0_trulyAgrees_101 rfl 7 (by decide) (by decide) i rfl (by unfold lenT; simp; omega) ?_
        refine j_if_ne (tgt := 127) (pc' := 105) C dX0_trulyAgrees_102 (by decide) rfl (fun h102 => ?_) (fun h102 => ?_)
        · skip
          refine j_iinc (pc' := 130) C dX0_trulyAgrees_127 rfl 1 (by decide) rfl (by decide) rfl ?_
          refine j_goto (pc' := 64) C dX0_trulyAgrees_130 (by decide) ?_
          rw [nI_1]
          first
            | exact ih (i + 1) _ (by omega) (by rw [← hr, agL, if_neg (fun q => h102 q.1)])
            | exact ih (i + 1) _ (by omega) (by rw [← hr, agL, if_neg (fun q => q.2.elim (fun z => h112 z) (fun z => i32_le_nlt h122 z))])
        · skip
          refine j_iload_n (pc' := 106) C dX0_trulyAgrees_105 rfl rfl ?_
          refine j_aload_n (pc' := 107) C dX0_trulyAgrees_106 rfl rfl ?_
          refine jWa (pc' := 110) C dX0_trulyAgrees_107 rfl 5 (by decide) hinT (by decide +kernel) ?_
          refine j_iload_n (pc' := 111) C dX0_trulyAgrees_110 rfl rfl ?_
          refine jWlN (pc' := 112) C dX0_trulyAgrees_111 rfl 5 (by decide) (by decide) i rfl (by unfold lenT; simp; omega) ?_
          refine j_icmp_lt (tgt := 125) (pc' := 115) C dX0_trulyAgrees_112 (by decide) rfl (fun h112 => ?_) (fun h112 => ?_)
          · skip
            have hbad : agW (settleF t) 64 ((settleF t).2 4 i).toNatClampNeg - agW (settleF t) 64 ((settleF t).2 3 i).toNatClampNeg < (settleF t).2 5 i ∨ (settleF t).2 6 i < agW (settleF t) 64 ((settleF t).2 4 i).toNatClampNeg - agW (settleF t) 64 ((settleF t).2 3 i).toNatClampNeg := Or.inl h112
            refine j_iconst (pc' := 126) C dX0_trulyAgrees_125 rfl 0 (by decide) ?_
            refine j_zreturn _ C dX0_trulyAgrees_126 ?_ ?_
            · exact Or.inl rfl
            · exact ⟨by rw [hag, ← hr, agL, if_pos ⟨h102, hbad⟩], rfl⟩
          · skip
            refine j_iload_n (pc' := 116) C dX0_trulyAgrees_115 rfl rfl ?_
            refine j_aload_n (pc' := 117) C dX0_trulyAgrees_116 rfl rfl ?_
            refine jWa (pc' := 120) C dX0_trulyAgrees_117 rfl 6 (by decide) hinT (by decide +kernel) ?_
            refine j_iload_n (pc' := 121) C dX0_trulyAgrees_120 rfl rfl ?_
            refine jWlN (pc' := 122) C dX0_trulyAgrees_121 rfl 6 (by decide) (by decide) i rfl (by unfold lenT; simp; omega) ?_
            refine j_icmp_le (tgt := 127) (pc' := 125) C dX0_trulyAgrees_122 (by decide) rfl (fun h122 => ?_) (fun h122 => ?_)
            · skip
              refine j_iinc (pc' := 130) C dX0_trulyAgrees_127 rfl 1 (by decide) rfl (by decide) rfl ?_
              refine j_goto (pc' := 64) C dX0_trulyAgrees_130 (by decide) ?_
              rw [nI_1]
              first
                | exact ih (i + 1) _ (by omega) (by rw [← hr, agL, if_neg (fun q => h102 q.1)])
                | exact ih (i + 1) _ (by omega) (by rw [← hr, agL, if_neg (fun q => q.2.elim (fun z => h112 z) (fun z => i32_le_nlt h122 z))])
            · skip
              have hbad : agW (settleF t) 64 ((settleF t).2 4 i).toNatClampNeg - agW (settleF t) 64 ((settleF t).2 3 i).toNatClampNeg < (settleF t).2 5 i ∨ (settleF t).2 6 i < agW (settleF t) 64 ((settleF t).2 4 i).toNatClampNeg - agW (settleF t) 64 ((settleF t).2 3 i).toNatClampNeg := Or.inr (i32_nle h122)
              refine j_iconst (pc' := 126) C dX0_trulyAgrees_125 rfl 0 (by decide) ?_
              refine j_zreturn _ C dX0_trulyAgrees_126 ?_ ?_
              · exact Or.inl rfl
              · exact ⟨by rw [hag, ← hr, agL, if_pos ⟨h102, hbad⟩], rfl⟩
  have loop1 : ∀ (k i : Nat) (x : Option Value), i + k = 64 → J p l e (rmH 4) s m args below meth c 0 0 (RQ below args s D (wT cI B) (fun r u => r = some (.int (agreeF t).1) ∧ u = (agreeF t).2) A) 3 D A 13 [some (.ref (B 0)), some (.int (nI i)), x] [] (wTW cI B (settleF t) 11 (agW (settleF t) i)) := by
    intro k
    induction k with
    | zero =>
      intro i x hi
      have hi2 : i = 64 := by omega
      subst hi2
      refine j_iload_n (pc' := 14) C dX0_trulyAgrees_13 rfl rfl ?_
      refine j_bipush (pc' := 16) C dX0_trulyAgrees_14 rfl 64 (by decide) ?_
      refine j_icmp_ge (tgt := 46) (pc' := 19) C dX0_trulyAgrees_16 (by decide) rfl (fun h16 => ?_) (fun h16 => ?_)
      · skip
        refine j_aload_n (pc' := 47) C dX0_trulyAgrees_46 rfl rfl ?_
        refine jWa (pc' := 50) C dX0_trulyAgrees_47 rfl 11 (by decide) hinT (by decide +kernel) ?_
        refine j_bipush (pc' := 52) C dX0_trulyAgrees_50 rfl 64 (by decide) ?_
        refine jWgN (pc' := 53) C dX0_trulyAgrees_52 rfl (by decide) 64 rfl (by decide) ?_
        refine j_aload_n (pc' := 54) C dX0_trulyAgrees_53 rfl rfl ?_
        refine jWi (pc' := 57) C dX0_trulyAgrees_54 rfl 0 (by unfold isIT; decide) hinT (by decide +kernel) ?_
        refine j_icmp_eq (tgt := 62) (pc' := 60) C dX0_trulyAgrees_57 (by decide) rfl (fun h57 => ?_) (fun h57 => ?_)
        · skip
          refine j_iconst (pc' := 63) C dX0_trulyAgrees_62 rfl 0 (by decide) ?_
          refine j_istore_n (pc' := 64) C dX0_trulyAgrees_63 rfl (by decide) rfl ?_
          exact loop2 h57 N 0 _ (by omega) rfl
        · skip
          refine j_iconst (pc' := 61) C dX0_trulyAgrees_60 rfl 0 (by decide) ?_
          refine j_zreturn _ C dX0_trulyAgrees_61 ?_ ?_
          · exact Or.inl rfl
          · exact ⟨by rw [agreeF]; exact congrArg (fun z => some (Value.int z)) (if_neg h57).symm, rfl⟩
      · skip
        exact absurd (by decide) h16 -- done
    | succ k ih =>
      intro i x hi
      refine j_iload_n (pc' := 14) C dX0_trulyAgrees_13 rfl rfl ?_
      refine j_bipush (pc' := 16) C dX0_trulyAgrees_14 rfl 64 (by decide) ?_
      refine j_icmp_ge (tgt := 46) (pc' := 19) C dX0_trulyAgrees_16 (by decide) rfl (fun h16 => ?_) (fun h16 => ?_)
      · skip
        exact absurd h16 (nI_ge (b := 64) (by omega) (by decide)) -- done
      · skip
        refine j_aload_n (pc' := 20) C dX0_trulyAgrees_19 rfl rfl ?_
        refine jWa (pc' := 23) C dX0_trulyAgrees_20 rfl 11 (by decide) hinT (by decide +kernel) ?_
        refine j_iload_n (pc' := 24) C dX0_trulyAgrees_23 rfl rfl ?_
        refine j_iconst (pc' := 25) C dX0_trulyAgrees_24 rfl 1 (by decide) ?_
        refine j_iadd (pc' := 26) C dX0_trulyAgrees_25 rfl ?_
        refine j_aload_n (pc' := 27) C dX0_trulyAgrees_26 rfl rfl ?_
        refine jWa (pc' := 30) C dX0_trulyAgrees_27 rfl 11 (by decide) hinT (by decide +kernel) ?_
        refine j_iload_n (pc' := 31) C dX0_trulyAgrees_30 rfl rfl ?_
        refine jWgN (pc' := 32) C dX0_trulyAgrees_31 rfl (by decide) i rfl (by unfold lenT; simp; omega) ?_
        refine j_aload_n (pc' := 33) C dX0_trulyAgrees_32 rfl rfl ?_
        refine jWa (pc' := 36) C dX0_trulyAgrees_33 rfl 8 (by decide) hinT (by decide +kernel) ?_
        refine j_iload_n (pc' := 37) C dX0_trulyAgrees_36 rfl rfl ?_
        refine jWlN (pc' := 38) C dX0_trulyAgrees_37 rfl 8 (by decide) (by decide) i rfl (by unfold lenT; simp; omega) ?_
        refine j_iadd (pc' := 39) C dX0_trulyAgrees_38 rfl ?_
        refine jWsN (pc' := 40) C dX0_trulyAgrees_39 rfl (by decide) (i + 1) (nI_1 i) (by unfold lenT; simp; omega) ?_
        refine j_iinc (pc' := 43) C dX0_trulyAgrees_40 rfl 1 (by decide) rfl (by decide) rfl ?_
        refine j_goto (pc' := 13) C dX0_trulyAgrees_43 (by decide) ?_
        rw [agW_s, nI_1]
        exact ih (i + 1) _ (by omega)
  refine j_aload_n (pc' := 1) C dX0_trulyAgrees_0 rfl rfl ?_
  refine jc_same (pc' := 4) C (c_settle l D cI cO B (t) hok) 0 gX0_trulyAgrees_X0_settle rfl (by decide +kernel) (by decide) rfl rfl (by decide) 0 0 rfl rfl (wT_obj cI B _) (fun _ => rfl) dX0_trulyAgrees_1 rfl (fun v1 u1 hp1 => ?_)
  obtain ⟨rfl, rfl⟩ := hp1
  show J p l e _ s m args below meth c 0 0 _ _ D A _ _ [] _
  refine j_aload_n (pc' := 5) C dX0_trulyAgrees_4 rfl rfl ?_
  refine jTa (pc' := 8) C dX0_trulyAgrees_5 rfl 11 (by decide) hinT (by decide +kernel) ?_
  refine j_iconst (pc' := 9) C dX0_trulyAgrees_8 rfl 0 (by decide) ?_
  refine j_iconst (pc' := 10) C dX0_trulyAgrees_9 rfl 0 (by decide) ?_
  refine jTsN (pc' := 11) C dX0_trulyAgrees_10 rfl 11 (by decide) 0 rfl (by decide) ?_
  refine j_iconst (pc' := 12) C dX0_trulyAgrees_11 rfl 0 (by decide) ?_
  refine j_istore_n (pc' := 13) C dX0_trulyAgrees_12 rfl (by decide) rfl ?_
  have hb0 := loop1 64 0 none (by omega)
  unfold wTW at hb0
  rw [← agW_0] at hb0
  exact hb0
  
