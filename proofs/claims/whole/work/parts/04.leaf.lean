/-! raise, lower, fill, forget -/
def raiseF (h : Int32) : Nat → Nat → (Nat → Int32) → Int32 → (Nat → Int32) × Int32
  | 0, _, f, c => (f, c)
  | k + 1, i, f, c => if f i < h then raiseF h k (i + 1) (upd f i h) 1 else (f, c)
def lowerF (h : Int32) : Nat → (Nat → Int32) → Int32 → (Nat → Int32) × Int32
  | 0, f, c => (f, c)
  | i + 1, f, c => if h < f i then lowerF h i (upd f i h) 1 else (f, c)
def P_arr (r : (Nat → Int32) × Int32) (v : Option Value) (g : Nat → Int32) : Prop := g = r.1 ∧ v = some (.int r.2) ∧ (r.2 = 0 ∨ r.2 = 1)
theorem raiseF_01 (h : Int32) : ∀ (k i : Nat) (f : Nat → Int32) (c : Int32), (c = 0 ∨ c = 1) → ((raiseF h k i f c).2 = 0 ∨ (raiseF h k i f c).2 = 1)
  | 0, _, _, _, hc => hc
  | k + 1, i, f, c, hc => by
    unfold raiseF
    split
    · exact raiseF_01 h k _ _ _ (Or.inr rfl)
    · exact hc
theorem lowerF_01 (h : Int32) : ∀ (i : Nat) (f : Nat → Int32) (c : Int32), (c = 0 ∨ c = 1) → ((lowerF h i f c).2 = 0 ∨ (lowerF h i f c).2 = 1)
  | 0, _, _, hc => hc
  | i + 1, f, c, hc => by
    unfold lowerF
    split
    · exact lowerF_01 h i _ _ (Or.inr rfl)
    · exact hc
theorem i32_nle {x y : Int32} (h : ¬ x ≤ y) : y < x := by
  rw [Int32.le_iff_toInt_le] at h
  rw [Int32.lt_iff_toInt_lt]
  omega
theorem i32_nlt {x y : Int32} (h : ¬ x < y) : y ≤ x := by
  rw [Int32.lt_iff_toInt_lt] at h
  rw [Int32.le_iff_toInt_le]
  omega
theorem i32_le_nlt {x y : Int32} (h : x ≤ y) : ¬ y < x := by
  rw [Int32.le_iff_toInt_le] at h
  rw [Int32.lt_iff_toInt_lt]
  omega
set_option maxRecDepth 100000 in
set_option maxHeartbeats 4000000 in
theorem c_raise (l : Launch) (D : va_G) (cI cO : ClassId) (a : Nat) (f : Nat → Int32) (mk : Nat) (hmk : mk ≤ 65) (h : Int32) : Kt l yX0_raise wsX0_raise 0 (wA cI a 65) D cI cO (fun _ => True) [.ref a, .int (nI mk), .int h] f (P_arr (raiseF h (65 - mk) mk f 0)) := by
  refine Kt_of (cc := cX0_raise) (n := 5) (ret := some .boolean) rfl (by decide +kernel) (Nat.le_of_ble_eq_true rfl) rfl [some (.ref a), some (.int (nI mk)), some (.int h), none, none] rfl ?_
  intro p e s m args below meth c A C _ _
  have loop : ∀ (k i : Nat) (g : Nat → Int32) (ch : Int32), i + k = 65 → (ch = 0 ∨ ch = 1) → raiseF h k i g ch = raiseF h (65 - mk) mk f 0 → J p l e (rmH 0) s m args below meth c 0 0 (RQ below args s D (wA cI a 65) (P_arr (raiseF h (65 - mk) mk f 0)) A) 5 D A 5 [some (.ref a), some (.int (nI mk)), some (.int h), some (.int ch), some (.int (nI i))] [] (wA cI a 65 g) := by
    intro k
    induction k with
    | zero =>
      intro i g ch hi hc hr
      have hi2 : i = 65 := by omega
      subst hi2
      refine j_iload (pc' := 7) C dX0_raise_5 rfl rfl ?_
      refine j_bipush (pc' := 9) C dX0_raise_7 rfl 64 (by decide) ?_
      refine j_icmp_gt (tgt := 33) (pc' := 12) C dX0_raise_9 (by decide) rfl (fun h9 => ?_) (fun h9 => ?_)
      · skip
        refine j_iload_n (pc' := 34) C dX0_raise_33 rfl rfl ?_
        refine j_zreturn _ C dX0_raise_34 ?_ ?_
        · first | exact Or.inl rfl | exact Or.inr rfl | exact hc
        · first | exact ⟨by rw [← hr]; rfl, by rw [← hr]; rfl, by rw [← hr]; exact hc⟩ | exact ⟨by rw [← hr, raiseF, if_neg (i32_le_nlt h17)], by rw [← hr, raiseF, if_neg (i32_le_nlt h17)], by rw [← hr, raiseF, if_neg (i32_le_nlt h17)]; exact hc⟩
      · skip
        exact absurd (by decide) h9 -- done
    | succ k ih =>
      intro i g ch hi hc hr
      refine j_iload (pc' := 7) C dX0_raise_5 rfl rfl ?_
      refine j_bipush (pc' := 9) C dX0_raise_7 rfl 64 (by decide) ?_
      refine j_icmp_gt (tgt := 33) (pc' := 12) C dX0_raise_9 (by decide) rfl (fun h9 => ?_) (fun h9 => ?_)
      · skip
        exact absurd h9 (nI_nlt (a := 64) (by omega) (by decide)) -- done
      · skip
        refine j_aload_n (pc' := 13) C dX0_raise_12 rfl rfl ?_
        refine j_iload (pc' := 15) C dX0_raise_13 rfl rfl ?_
        refine jAl (pc' := 16) C dX0_raise_15 rfl i (by decide) rfl (by omega) ?_
        refine j_iload_n (pc' := 17) C dX0_raise_16 rfl rfl ?_
        refine j_icmp_ge (tgt := 33) (pc' := 20) C dX0_raise_17 (by decide) rfl (fun h17 => ?_) (fun h17 => ?_)
        · skip
          refine j_iload_n (pc' := 34) C dX0_raise_33 rfl rfl ?_
          refine j_zreturn _ C dX0_raise_34 ?_ ?_
          · first | exact Or.inl rfl | exact Or.inr rfl | exact hc
          · first | exact ⟨by rw [← hr]; rfl, by rw [← hr]; rfl, by rw [← hr]; exact hc⟩ | exact ⟨by rw [← hr, raiseF, if_neg (i32_le_nlt h17)], by rw [← hr, raiseF, if_neg (i32_le_nlt h17)], by rw [← hr, raiseF, if_neg (i32_le_nlt h17)]; exact hc⟩
        · skip
          refine j_aload_n (pc' := 21) C dX0_raise_20 rfl rfl ?_
          refine j_iload (pc' := 23) C dX0_raise_21 rfl rfl ?_
          refine j_iload_n (pc' := 24) C dX0_raise_23 rfl rfl ?_
          refine jAs (pc' := 25) C dX0_raise_24 rfl i (by decide) rfl (by omega) ?_
          refine j_iconst (pc' := 26) C dX0_raise_25 rfl 1 (by decide) ?_
          refine j_istore_n (pc' := 27) C dX0_raise_26 rfl (by decide) rfl ?_
          refine j_iinc (pc' := 30) C dX0_raise_27 rfl 1 (by decide) rfl (by decide) rfl ?_
          refine j_goto (pc' := 5) C dX0_raise_30 (by decide) ?_
          rw [nI_1]
          exact ih (i + 1) _ 1 (by omega) (Or.inr rfl) (by rw [← hr, raiseF, if_pos (i32_nle h17)])
  refine j_iconst (pc' := 1) C dX0_raise_0 rfl 0 (by decide) ?_
  refine j_istore_n (pc' := 2) C dX0_raise_1 rfl (by decide) rfl ?_
  refine j_iload_n (pc' := 3) C dX0_raise_2 rfl rfl ?_
  refine j_istore (pc' := 5) C dX0_raise_3 rfl (by decide) rfl ?_
  exact loop (65 - mk) mk f 0 (by omega) (Or.inl rfl) rfl
set_option maxRecDepth 100000 in
set_option maxHeartbeats 4000000 in
theorem c_lower (l : Launch) (D : va_G) (cI cO : ClassId) (a : Nat) (f : Nat → Int32) (mk : Nat) (hmk : mk ≤ 64) (h : Int32) : Kt l yX0_lower wsX0_lower 0 (wA cI a 65) D cI cO (fun _ => True) [.ref a, .int (nI mk), .int h] f (P_arr (lowerF h (mk + 1) f 0)) := by
  refine Kt_of (cc := cX0_lower) (n := 5) (ret := some .boolean) rfl (by decide +kernel) (Nat.le_of_ble_eq_true rfl) rfl [some (.ref a), some (.int (nI mk)), some (.int h), none, none] rfl ?_
  intro p e s m args below meth c A C _ _
  have loop : ∀ (i : Nat) (g : Nat → Int32) (ch : Int32), i ≤ 65 → (ch = 0 ∨ ch = 1) → lowerF h i g ch = lowerF h (mk + 1) f 0 → J p l e (rmH 0) s m args below meth c 0 0 (RQ below args s D (wA cI a 65) (P_arr (lowerF h (mk + 1) f 0)) A) 5 D A 5 [some (.ref a), some (.int (nI mk)), some (.int h), some (.int ch), some (.int (nI i + (-1)))] [] (wA cI a 65 g) := by
    intro i
    induction i with
    | zero =>
      intro g ch hi hc hr
      refine j_iload (pc' := 7) C dX0_lower_5 rfl rfl ?_
      refine j_if_lt (tgt := 31) (pc' := 10) C dX0_lower_7 (by decide) rfl (fun h7 => ?_) (fun h7 => ?_)
      · skip
        refine j_iload_n (pc' := 32) C dX0_lower_31 rfl rfl ?_
        refine j_zreturn _ C dX0_lower_32 ?_ ?_
        · first | exact Or.inl rfl | exact Or.inr rfl | exact hc
        · first | exact ⟨by rw [← hr]; rfl, by rw [← hr]; rfl, by rw [← hr]; exact hc⟩ | exact ⟨by rw [← hr, lowerF, if_neg (i32_le_nlt h15)], by rw [← hr, lowerF, if_neg (i32_le_nlt h15)], by rw [← hr, lowerF, if_neg (i32_le_nlt h15)]; exact hc⟩
      · skip
        exact absurd (by decide) h7 -- done
    | succ i ih =>
      intro g ch hi hc hr
      rw [pk_m1]
      refine j_iload (pc' := 7) C dX0_lower_5 rfl rfl ?_
      refine j_if_lt (tgt := 31) (pc' := 10) C dX0_lower_7 (by decide) rfl (fun h7 => ?_) (fun h7 => ?_)
      · skip
        exact absurd h7 (nI_pos (by omega)) -- done
      · skip
        refine j_aload_n (pc' := 11) C dX0_lower_10 rfl rfl ?_
        refine j_iload (pc' := 13) C dX0_lower_11 rfl rfl ?_
        refine jAl (pc' := 14) C dX0_lower_13 rfl i (by decide) rfl (by omega) ?_
        refine j_iload_n (pc' := 15) C dX0_lower_14 rfl rfl ?_
        refine j_icmp_le (tgt := 31) (pc' := 18) C dX0_lower_15 (by decide) rfl (fun h15 => ?_) (fun h15 => ?_)
        · skip
          refine j_iload_n (pc' := 32) C dX0_lower_31 rfl rfl ?_
          refine j_zreturn _ C dX0_lower_32 ?_ ?_
          · first | exact Or.inl rfl | exact Or.inr rfl | exact hc
          · first | exact ⟨by rw [← hr]; rfl, by rw [← hr]; rfl, by rw [← hr]; exact hc⟩ | exact ⟨by rw [← hr, lowerF, if_neg (i32_le_nlt h15)], by rw [← hr, lowerF, if_neg (i32_le_nlt h15)], by rw [← hr, lowerF, if_neg (i32_le_nlt h15)]; exact hc⟩
        · skip
          refine j_aload_n (pc' := 19) C dX0_lower_18 rfl rfl ?_
          refine j_iload (pc' := 21) C dX0_lower_19 rfl rfl ?_
          refine j_iload_n (pc' := 22) C dX0_lower_21 rfl rfl ?_
          refine jAs (pc' := 23) C dX0_lower_22 rfl i (by decide) rfl (by omega) ?_
          refine j_iconst (pc' := 24) C dX0_lower_23 rfl 1 (by decide) ?_
          refine j_istore_n (pc' := 25) C dX0_lower_24 rfl (by decide) rfl ?_
          refine j_iinc (pc' := 28) C dX0_lower_25 rfl (-1) (by decide) rfl (by decide) rfl ?_
          refine j_goto (pc' := 5) C dX0_lower_28 (by decide) ?_
          exact ih _ 1 (by omega) (Or.inr rfl) (by rw [← hr, lowerF, if_pos (i32_nle h15)])
  refine j_iconst (pc' := 1) C dX0_lower_0 rfl 0 (by decide) ?_
  refine j_istore_n (pc' := 2) C dX0_lower_1 rfl (by decide) rfl ?_
  refine j_iload_n (pc' := 3) C dX0_lower_2 rfl rfl ?_
  refine j_istore (pc' := 5) C dX0_lower_3 rfl (by decide) rfl ?_
  have := loop (mk + 1) f 0 (by omega) (Or.inl rfl) rfl
  rw [pk_m1] at this
  exact this
def fillF (v : Int32) (n : Nat) (f : Nat → Int32) : Nat → Int32 := fun j => if j < n then v else f j
theorem fillF_s (v : Int32) (i : Nat) (f : Nat → Int32) : upd (fillF v i f) i v = fillF v (i + 1) f := by
  funext j
  unfold upd fillF
  by_cases h : j = i
  · subst h; simp
  · by_cases h2 : j < i
    · rw [if_neg h, if_pos h2, if_pos (by omega)]
    · rw [if_neg h, if_neg h2, if_neg (by omega)]
theorem fillF_0 (v : Int32) (f : Nat → Int32) : fillF v 0 f = f := by
  funext j; simp [fillF]
set_option maxRecDepth 100000 in
set_option maxHeartbeats 4000000 in
theorem c_fill (l : Launch) (D : va_G) (cI cO : ClassId) (a len : Nat) (hlen : len < 2 ^ 31) (f : Nat → Int32) (v : Int32) : Kt l yJ7_fill_53178 wsJ7_fill_53178 0 (wA cI a len) D cI cO (fun _ => True) [.ref a, .int v] f (fun (r : Option Value) g => r = none ∧ g = fillF v len f) := by
  refine Kt_of (cc := cJ7_fill_53178) (n := 4) (ret := none) rfl (by decide +kernel) (Nat.le_of_ble_eq_true rfl) rfl [some (.ref a), some (.int v), none, none] rfl ?_
  intro p e s m args below meth c A C _ _
  have loop : ∀ (k i : Nat), i + k = len → J p l e (rmH 0) s m args below meth c 0 0 (RQ below args s D (wA cI a len) (fun (r : Option Value) g => r = none ∧ g = fillF v len f) A) 4 D A 5 [some (.ref a), some (.int v), some (.int (nI i)), some (.int (nI len))] [] (wA cI a len (fillF v i f)) := by
    intro k
    induction k with
    | zero =>
      intro i hi
      have hi2 : i = len := by omega
      subst hi2
      refine j_iload_n (pc' := 6) C dJ7_fill_53178_5 rfl rfl ?_
      refine j_iload_n (pc' := 7) C dJ7_fill_53178_6 rfl rfl ?_
      refine j_icmp_ge (tgt := 20) (pc' := 10) C dJ7_fill_53178_7 (by decide) rfl (fun h7 => ?_) (fun h7 => ?_)
      · skip
        refine j_return _ C dJ7_fill_53178_20 ?_
        exact ⟨rfl, rfl⟩
      · skip
        exact absurd (nI_le (Nat.le_refl _) hlen) h7 -- done
    | succ k ih =>
      intro i hi
      refine j_iload_n (pc' := 6) C dJ7_fill_53178_5 rfl rfl ?_
      refine j_iload_n (pc' := 7) C dJ7_fill_53178_6 rfl rfl ?_
      refine j_icmp_ge (tgt := 20) (pc' := 10) C dJ7_fill_53178_7 (by decide) rfl (fun h7 => ?_) (fun h7 => ?_)
      · skip
        exact absurd h7 (nI_ge (by omega) hlen) -- done
      · skip
        refine j_aload_n (pc' := 11) C dJ7_fill_53178_10 rfl rfl ?_
        refine j_iload_n (pc' := 12) C dJ7_fill_53178_11 rfl rfl ?_
        refine j_iload_n (pc' := 13) C dJ7_fill_53178_12 rfl rfl ?_
        refine jAs (pc' := 14) C dJ7_fill_53178_13 rfl i hlen rfl (by omega) ?_
        refine j_iinc (pc' := 17) C dJ7_fill_53178_14 rfl 1 (by decide) rfl (by decide) rfl ?_
        refine j_goto (pc' := 5) C dJ7_fill_53178_17 (by decide) ?_
        rw [nI_1, fillF_s]
        exact ih (i + 1) (by omega)
  refine j_iconst (pc' := 1) C dJ7_fill_53178_0 rfl 0 (by decide) ?_
  refine j_istore_n (pc' := 2) C dJ7_fill_53178_1 rfl (by decide) rfl ?_
  refine j_aload_n (pc' := 3) C dJ7_fill_53178_2 rfl rfl ?_
  refine jAn (pc' := 4) C dJ7_fill_53178_3 rfl ?_
  refine j_istore_n (pc' := 5) C dJ7_fill_53178_4 rfl (by decide) rfl ?_
  have := loop len 0 (by omega)
  rw [fillF_0] at this
  exact this
set_option maxRecDepth 100000 in
set_option maxHeartbeats 4000000 in
theorem c_forget (l : Launch) (D : va_G) (cI cO : ClassId) (B : Nat → Nat) (t : TS) : Kt l yX0_forget wsX0_forget 0 (wT cI B) D cI cO (fun _ => True) [.ref (B 0)] t (fun r u => r = none ∧ u = (upd (upd t.1 12 0) 13 0, t.2)) := by
  refine Kt_of (cc := cX0_forget) (n := 1) (ret := none) rfl (by decide +kernel) (Nat.le_of_ble_eq_true rfl) rfl [some (.ref (B 0))] rfl ?_
  intro p e s m args below meth c A C _ _
  have hinT : ∀ w ∈ wsX00, w ∈ wsX0_forget := by decide +kernel
  refine j_aload_n (pc' := 1) C dX0_forget_0 rfl rfl ?_
  refine j_iconst (pc' := 2) C dX0_forget_1 rfl 0 (by decide) ?_
  refine jTpZ (pc' := 5) C dX0_forget_2 rfl 12 (by decide) hinT (by decide +kernel) (by decide) ?_
  refine j_aload_n (pc' := 6) C dX0_forget_5 rfl rfl ?_
  refine j_iconst (pc' := 7) C dX0_forget_6 rfl 0 (by decide) ?_
  refine jTpZ (pc' := 10) C dX0_forget_7 rfl 13 (by decide) hinT (by decide +kernel) (by decide) ?_
  refine j_return _ C dX0_forget_10 ?_
  exact ⟨rfl, rfl⟩
