theorem planN_lt (t : TS) (by_ : Int32) : planN t by_ < 6 := by
  unfold planN
  exact planL_lt (allG t) by_ 5 1 0 (by decide) (by decide)
set_option maxRecDepth 100000 in
set_option maxHeartbeats 400000 in
theorem c_Mlost (l : Launch) (D : va_G) (cI cO : ClassId) (B : Nat → Nat) (t : TS) (hok : okM t) : Kt l yX2_lost wsX2_lost 6 (wM cI B) D cI cO (fun _ => True) [.ref (B 10)] t (fun r u => r = some (.long (mCostOf (allG (allG t)) (planN t 0) 1 - mCostOf (allG (allG t)) (planN (allG t) 1) 1)) ∧ u = allG (allG t)) := by
  refine Kt_of (cc := cX2_lost) (n := 3) (ret := some .long) rfl (by decide +kernel) (Nat.le_of_ble_eq_true rfl) rfl [some (.ref (B 10)), none, none] rfl ?_
  intro p e s m args below meth c A C _ _
  have hinM : ∀ w ∈ wsX20, w ∈ wsX2_lost := by decide +kernel
  have h1 : planN t 0 < 6 := planN_lt t 0
  have h2 : planN (allG t) 1 < 6 := planN_lt (allG t) 1
  generalize hq1 : planN t 0 = q1 at h1
  generalize hq2 : planN (allG t) 1 = q2 at h2
  refine j_aload_n (pc' := 1) C dX2_lost_0 rfl rfl ?_
  refine j_iconst (pc' := 2) C dX2_lost_1 rfl 0 (by decide) ?_
  refine jc_same (pc' := 5) C (c_Mplan l D cI cO B (t) hok 0) 1 gX2_lost_X2_plan rfl (by decide +kernel) (by decide) rfl rfl (by decide) 2 10 rfl rfl (wM_obj cI B _) (wM_addr cI B _) dX2_lost_2 rfl (fun v1 u1 hp1 => ?_)
  obtain ⟨rfl, rfl⟩ := hp1
  show J p l e _ s m args below meth c 0 0 _ _ D A _ _ [_] _
  rw [hq1]
  refine j_istore_n (pc' := 6) C dX2_lost_5 rfl (by decide) rfl ?_
  refine j_aload_n (pc' := 7) C dX2_lost_6 rfl rfl ?_
  refine j_iconst (pc' := 8) C dX2_lost_7 rfl 1 (by decide) ?_
  refine jc_same (pc' := 11) C (c_Mplan l D cI cO B (allG t) (allG_ok hok) 1) 1 gX2_lost_X2_plan rfl (by decide +kernel) (by decide) rfl rfl (by decide) 2 10 rfl rfl (wM_obj cI B _) (wM_addr cI B _) dX2_lost_8 rfl (fun v1 u1 hp1 => ?_)
  obtain ⟨rfl, rfl⟩ := hp1
  show J p l e _ s m args below meth c 0 0 _ _ D A _ _ [_] _
  rw [hq2]
  refine j_istore_n (pc' := 12) C dX2_lost_11 rfl (by decide) rfl ?_
  refine j_aload_n (pc' := 13) C dX2_lost_12 rfl rfl ?_
  refine j_iload_n (pc' := 14) C dX2_lost_13 rfl rfl ?_
  refine j_iconst (pc' := 15) C dX2_lost_14 rfl 1 (by decide) ?_
  refine jc_same (pc' := 18) C (c_McostOf l D cI cO B (allG (allG t)) (q1) h1 (1)) 2 gX2_lost_X2_costOf rfl (by decide +kernel) (by decide) rfl rfl (Nat.le_of_ble_eq_true rfl) 2 10 rfl rfl (wM_obj cI B _) (wM_addr cI B _) dX2_lost_15 rfl (fun v1 u1 hp1 => ?_)
  obtain ⟨rfl, hu1⟩ := hp1
  rw [hu1]
  clear hu1 u1
  show J p l e _ s m args below meth c 0 0 _ _ D A _ _ [_] _
  refine j_aload_n (pc' := 19) C dX2_lost_18 rfl rfl ?_
  refine j_iload_n (pc' := 20) C dX2_lost_19 rfl rfl ?_
  refine j_iconst (pc' := 21) C dX2_lost_20 rfl 1 (by decide) ?_
  refine jc_same (pc' := 24) C (c_McostOf l D cI cO B (allG (allG t)) (q2) h2 (1)) 2 gX2_lost_X2_costOf rfl (by decide +kernel) (by decide) rfl rfl (Nat.le_of_ble_eq_true rfl) 2 10 rfl rfl (wM_obj cI B _) (wM_addr cI B _) dX2_lost_21 rfl (fun v1 u1 hp1 => ?_)
  obtain ⟨rfl, hu1⟩ := hp1
  rw [hu1]
  clear hu1 u1
  show J p l e _ s m args below meth c 0 0 _ _ D A _ _ [_, _] _
  refine j_lsub (pc' := 25) C dX2_lost_24 rfl ?_
  refine j_lreturn _ C dX2_lost_25 ?_
  exact ⟨rfl, rfl⟩
  
  
  
  
