set_option maxRecDepth 100000 in
set_option maxHeartbeats 4000000 in
theorem c_sink (l : Launch) (D : va_G) (cI cO : ClassId) (B : Nat → Nat) (t : TS) (hok : okT t) (w : Nat) (hw : 9 ≤ w ∧ w ≤ 11) : Kt l yX0_sink wsX0_sink 1 (wT cI B) D cI cO (fun _ => True) [.ref (B 0), .ref (B w)] t (fun r u => r = none ∧ u = (t.1, ua t.2 w (sinkF t 66 (t.2 w) 1))) := by
  refine Kt_of (cc := cX0_sink) (n := 5) (ret := none) rfl (by decide +kernel) (Nat.le_of_ble_eq_true rfl) rfl [some (.ref (B 0)), some (.ref (B w)), none, none, none] rfl ?_
  intro p e s m args below meth c A C _ _
  have hinT : ∀ w ∈ wsX00, w ∈ wsX0_sink := by decide +kernel
  have hw3 : 3 ≤ w ∧ w ≤ 11 := by omega
  have hlw : lenT w = 65 := by unfold lenT; rw [if_neg (by omega), if_neg (by omega)]
  obtain ⟨hn, hft⟩ := hok
  obtain ⟨en, hn41⟩ := vp_in_c hn (by decide)
  generalize hN : (t.1 1).toNatClampNeg = N at en hn41 hft
  have hret : ∀ (g : Nat → Int32) (x4 x5 x6 : Option Value), g = sinkF t 66 (t.2 w) 1 → J p l e (rmH 1) s m args below meth c 0 0 (RQ below args s D (wT cI B) (fun r u => r = none ∧ u = (t.1, ua t.2 w (sinkF t 66 (t.2 w) 1))) A) 5 D A 119 [some (.ref (B 0)), some (.ref (B w)), x4, x5, x6] [] (wTW cI B t w g) := by
    intro g x4 x5 x6 hg
    refine j_return _ C dX0_sink_119 ?_
    exact ⟨rfl, by rw [← hg]⟩
  have outer : ∀ (k pas : Nat) (g : Nat → Int32) (ch : Int32) (x6 : Option Value), pas + k = 66 → sinkF t k g ch = sinkF t 66 (t.2 w) 1 → J p l e (rmH 1) s m args below meth c 0 0 (RQ below args s D (wT cI B) (fun r u => r = none ∧ u = (t.1, ua t.2 w (sinkF t 66 (t.2 w) 1))) A) 5 D A 4 [some (.ref (B 0)), some (.ref (B w)), some (.int ch), some (.int (nI pas)), x6] [] (wTW cI B t w g) := by
    intro k
    induction k with
    | zero =>
      intro pas g ch x6 hk hr
      have hp2 : pas = 66 := by omega
      subst hp2
      refine j_iload_n (pc' := 5) C dX0_sink_4 rfl rfl ?_
      refine j_bipush (pc' := 7) C dX0_sink_5 rfl 66 (by decide) ?_
      refine j_icmp_ge (tgt := 119) (pc' := 10) C dX0_sink_7 (by decide) rfl (fun h7 => ?_) (fun h7 => ?_)
      · skip
        exact hret _ _ _ _ hr
      · skip
        exact absurd (by decide) h7 -- done
    | succ k ih =>
      intro pas g ch x6 hk hr
      have h113 : ∀ (g1 : Nat → Int32) (ch1 : Int32) (x6 : Option Value), sinkF t k g1 ch1 = sinkF t 66 (t.2 w) 1 → J p l e (rmH 1) s m args below meth c 0 0 (RQ below args s D (wT cI B) (fun r u => r = none ∧ u = (t.1, ua t.2 w (sinkF t 66 (t.2 w) 1))) A) 5 D A 113 [some (.ref (B 0)), some (.ref (B w)), some (.int ch1), some (.int (nI pas)), x6] [] (wTW cI B t w g1) := by
        intro g1 ch1 x6 hr1
        refine j_iinc (pc' := 116) C dX0_sink_113 rfl 1 (by decide) rfl (by decide) rfl ?_
        refine j_goto (pc' := 4) C dX0_sink_116 (by decide) ?_
        rw [nI_1]
        exact ih (pas + 1) g1 ch1 x6 (by omega) hr1
      have inner : ∀ (j i : Nat) (g1 : Nat → Int32) (ch1 : Int32), i + j = N → sinkF t k (sinkIn t j i (g1, ch1)).1 (sinkIn t j i (g1, ch1)).2 = sinkF t 66 (t.2 w) 1 → J p l e (rmH 1) s m args below meth c 0 0 (RQ below args s D (wT cI B) (fun r u => r = none ∧ u = (t.1, ua t.2 w (sinkF t 66 (t.2 w) 1))) A) 5 D A 19 [some (.ref (B 0)), some (.ref (B w)), some (.int ch1), some (.int (nI pas)), some (.int (nI i))] [] (wTW cI B t w g1) := by
        intro j
        induction j with
        | zero =>
          intro i g1 ch1 hij hr1
          have hi2 : i = N := by omega
          subst hi2
          refine j_iload (pc' := 21) C dX0_sink_19 rfl rfl ?_
          refine j_aload_n (pc' := 22) C dX0_sink_21 rfl rfl ?_
          refine jWi (pc' := 25) C dX0_sink_22 rfl 1 (by unfold isIT; decide) hinT (by decide +kernel) ?_
          refine j_icmp_ge (tgt := 113) (pc' := 28) C dX0_sink_25 (by decide) rfl (fun h25 => ?_) (fun h25 => ?_)
          · skip
            exact h113 _ _ _ hr1
          · skip
            exact absurd (by rw [en]; exact nI_le (Nat.le_refl _) (by omega)) h25 -- done
        | succ j jh =>
          intro i g1 ch1 hij hr1
          have hi1 : i < N := by omega
          have h107 : ∀ (g2 : Nat → Int32) (ch2 : Int32), (g2, ch2) = sinkS t i (g1, ch1) → J p l e (rmH 1) s m args below meth c 0 0 (RQ below args s D (wT cI B) (fun r u => r = none ∧ u = (t.1, ua t.2 w (sinkF t 66 (t.2 w) 1))) A) 5 D A 107 [some (.ref (B 0)), some (.ref (B w)), some (.int ch2), some (.int (nI pas)), some (.int (nI i))] [] (wTW cI B t w g2) := by
            intro g2 ch2 e2
            refine j_iinc (pc' := 110) C dX0_sink_107 rfl 1 (by decide) rfl (by decide) rfl ?_
            refine j_goto (pc' := 19) C dX0_sink_110 (by decide) ?_
            rw [nI_1]
            exact jh (i + 1) g2 ch2 (by omega) (by rw [e2]; exact hr1)
          refine j_iload (pc' := 21) C dX0_sink_19 rfl rfl ?_
          refine j_aload_n (pc' := 22) C dX0_sink_21 rfl rfl ?_
          refine jWi (pc' := 25) C dX0_sink_22 rfl 1 (by unfold isIT; decide) hinT (by decide +kernel) ?_
          refine j_icmp_ge (tgt := 113) (pc' := 28) C dX0_sink_25 (by decide) rfl (fun h25 => ?_) (fun h25 => ?_)
          · skip
            exact absurd h25 (by rw [en]; exact nI_ge hi1 (by omega)) -- done
          · skip
            refine j_aload_n (pc' := 29) C dX0_sink_28 rfl rfl ?_
            refine jWa (pc' := 32) C dX0_sink_29 rfl 7 (by decide) hinT (by decide +kernel) ?_
            refine j_iload (pc' := 34) C dX0_sink_32 rfl rfl ?_
            refine jWlN (pc' := 35) C dX0_sink_34 rfl 7 (by decide) (by omega) i rfl (by unfold lenT; simp; omega) ?_
            refine j_if_eq (tgt := 41) (pc' := 38) C dX0_sink_35 (by decide) rfl (fun h35 => ?_) (fun h35 => ?_)
            · skip
              refine j_aload_n (pc' := 42) C dX0_sink_41 rfl rfl ?_
              refine j_aload_n (pc' := 43) C dX0_sink_42 rfl rfl ?_
              refine jWa (pc' := 46) C dX0_sink_43 rfl 3 (by decide) hinT (by decide +kernel) ?_
              refine j_iload (pc' := 48) C dX0_sink_46 rfl rfl ?_
              refine jWlN (pc' := 49) C dX0_sink_48 rfl 3 (by decide) (by omega) i rfl (by unfold lenT; simp; omega) ?_
              refine j_aload_n (pc' := 50) C dX0_sink_49 rfl rfl ?_
              refine j_aload_n (pc' := 51) C dX0_sink_50 rfl rfl ?_
              refine jWa (pc' := 54) C dX0_sink_51 rfl 4 (by decide) hinT (by decide +kernel) ?_
              refine j_iload (pc' := 56) C dX0_sink_54 rfl rfl ?_
              refine jWlN (pc' := 57) C dX0_sink_56 rfl 4 (by decide) (by omega) i rfl (by unfold lenT; simp; omega) ?_
              refine jWg (pc' := 58) C dX0_sink_57 rfl hw3 (by rw [hlw]; exact (hft i hi1).2) ?_
              refine j_aload_n (pc' := 59) C dX0_sink_58 rfl rfl ?_
              refine jWa (pc' := 62) C dX0_sink_59 rfl 5 (by decide) hinT (by decide +kernel) ?_
              refine j_iload (pc' := 64) C dX0_sink_62 rfl rfl ?_
              refine jWlN (pc' := 65) C dX0_sink_64 rfl 5 (by decide) (by omega) i rfl (by unfold lenT; simp; omega) ?_
              refine j_isub (pc' := 66) C dX0_sink_65 rfl ?_
              refine jW_call (pc' := 69) C hw3 (c_lowerW l D cI cO (B w) (lenT w) hlw g1 (t.2 3 i) (hft i hi1).1 _) 3 gX0_sink_X0_lower rfl (by decide +kernel) (by decide) rfl rfl (by decide) dX0_sink_66 rfl (fun v1 g1 hp1 => ?_)
              obtain ⟨rfl, rfl, h01⟩ := hp1
              show J p l e _ s m args below meth c 0 0 _ _ D A _ _ [_] _
              have h74 : ∀ (ch2 : Int32), ch2 = orI (lowerAt g1 (t.2 3 i).toNatClampNeg (g1 (t.2 4 i).toNatClampNeg - t.2 5 i)).2 ch1 → J p l e (rmH 1) s m args below meth c 0 0 (RQ below args s D (wT cI B) (fun r u => r = none ∧ u = (t.1, ua t.2 w (sinkF t 66 (t.2 w) 1))) A) 5 D A 74 [some (.ref (B 0)), some (.ref (B w)), some (.int ch2), some (.int (nI pas)), some (.int (nI i))] [] (wTW cI B t w (lowerAt g1 (t.2 3 i).toNatClampNeg (g1 (t.2 4 i).toNatClampNeg - t.2 5 i)).1) := by
                intro ch2 ec2
                refine j_aload_n (pc' := 75) C dX0_sink_74 rfl rfl ?_
                refine j_aload_n (pc' := 76) C dX0_sink_75 rfl rfl ?_
                refine jWa (pc' := 79) C dX0_sink_76 rfl 4 (by decide) hinT (by decide +kernel) ?_
                refine j_iload (pc' := 81) C dX0_sink_79 rfl rfl ?_
                refine jWlN (pc' := 82) C dX0_sink_81 rfl 4 (by decide) (by omega) i rfl (by unfold lenT; simp; omega) ?_
                refine j_aload_n (pc' := 83) C dX0_sink_82 rfl rfl ?_
                refine j_aload_n (pc' := 84) C dX0_sink_83 rfl rfl ?_
                refine jWa (pc' := 87) C dX0_sink_84 rfl 3 (by decide) hinT (by decide +kernel) ?_
                refine j_iload (pc' := 89) C dX0_sink_87 rfl rfl ?_
                refine jWlN (pc' := 90) C dX0_sink_89 rfl 3 (by decide) (by omega) i rfl (by unfold lenT; simp; omega) ?_
                refine jWg (pc' := 91) C dX0_sink_90 rfl hw3 (by rw [hlw]; exact (hft i hi1).1) ?_
                refine j_aload_n (pc' := 92) C dX0_sink_91 rfl rfl ?_
                refine jWa (pc' := 95) C dX0_sink_92 rfl 6 (by decide) hinT (by decide +kernel) ?_
                refine j_iload (pc' := 97) C dX0_sink_95 rfl rfl ?_
                refine jWlN (pc' := 98) C dX0_sink_97 rfl 6 (by decide) (by omega) i rfl (by unfold lenT; simp; omega) ?_
                refine j_iadd (pc' := 99) C dX0_sink_98 rfl ?_
                refine jW_call (pc' := 102) C hw3 (c_lowerW l D cI cO (B w) (lenT w) hlw _ (t.2 4 i) (hft i hi1).2 _) 3 gX0_sink_X0_lower rfl (by decide +kernel) (by decide) rfl rfl (by decide) dX0_sink_99 rfl (fun v1 g1 hp1 => ?_)
                obtain ⟨rfl, rfl, h02⟩ := hp1
                show J p l e _ s m args below meth c 0 0 _ _ D A _ _ [_] _
                refine j_if_eq (tgt := 107) (pc' := 105) C dX0_sink_102 (by decide) rfl (fun h102 => ?_) (fun h102 => ?_)
                · skip
                  first | exact h107 _ _ (by rw [sinkS, if_pos h35, (b_if0 h02).1 h102, ← ec2]) | exact h107 _ _ (by rw [sinkS, if_pos h35, (b_if0 h02).2 h102])
                · skip
                  refine j_iconst (pc' := 106) C dX0_sink_105 rfl 1 (by decide) ?_
                  refine j_istore_n (pc' := 107) C dX0_sink_106 rfl (by decide) rfl ?_
                  first | exact h107 _ _ (by rw [sinkS, if_pos h35, (b_if0 h02).1 h102, ← ec2]) | exact h107 _ _ (by rw [sinkS, if_pos h35, (b_if0 h02).2 h102])
                
              refine j_if_eq (tgt := 74) (pc' := 72) C dX0_sink_69 (by decide) rfl (fun h69 => ?_) (fun h69 => ?_)
              · skip
                first | exact h74 _ ((b_if0 h01).1 h69).symm | exact h74 _ ((b_if0 h01).2 h69).symm
              · skip
                refine j_iconst (pc' := 73) C dX0_sink_72 rfl 1 (by decide) ?_
                refine j_istore_n (pc' := 74) C dX0_sink_73 rfl (by decide) rfl ?_
                first | exact h74 _ ((b_if0 h01).1 h69).symm | exact h74 _ ((b_if0 h01).2 h69).symm
              
            · skip
              refine j_goto (pc' := 107) C dX0_sink_38 (by decide) ?_
              exact h107 _ _ (by rw [sinkS, if_neg h35])
      refine j_iload_n (pc' := 5) C dX0_sink_4 rfl rfl ?_
      refine j_bipush (pc' := 7) C dX0_sink_5 rfl 66 (by decide) ?_
      refine j_icmp_ge (tgt := 119) (pc' := 10) C dX0_sink_7 (by decide) rfl (fun h7 => ?_) (fun h7 => ?_)
      · skip
        exact absurd h7 (nI_ge (b := 66) (by omega) (by decide)) -- done
      · skip
        refine j_iload_n (pc' := 11) C dX0_sink_10 rfl rfl ?_
        refine j_if_eq (tgt := 119) (pc' := 14) C dX0_sink_11 (by decide) rfl (fun h11 => ?_) (fun h11 => ?_)
        · skip
          exact hret _ _ _ _ (by rw [← hr, sinkF, if_pos h11])
        · skip
          refine j_iconst (pc' := 15) C dX0_sink_14 rfl 0 (by decide) ?_
          refine j_istore_n (pc' := 16) C dX0_sink_15 rfl (by decide) rfl ?_
          refine j_iconst (pc' := 17) C dX0_sink_16 rfl 0 (by decide) ?_
          refine j_istore (pc' := 19) C dX0_sink_17 rfl (by decide) rfl ?_
          exact inner N 0 _ _ (by omega) (by rw [← hr, sinkF, if_neg h11, hN])
  refine j_iconst (pc' := 1) C dX0_sink_0 rfl 1 (by decide) ?_
  refine j_istore_n (pc' := 2) C dX0_sink_1 rfl (by decide) rfl ?_
  refine j_iconst (pc' := 3) C dX0_sink_2 rfl 0 (by decide) ?_
  refine j_istore_n (pc' := 4) C dX0_sink_3 rfl (by decide) rfl ?_
  have h0 := outer 66 0 (t.2 w) 1 none (by omega) rfl
  unfold wTW at h0
  rw [ua_self] at h0
  exact h0
/-! what climb and sink look at -/
def sameK (tt t : TS) : Prop := tt.1 0 = t.1 0 ∧ tt.1 1 = t.1 1 ∧ ∀ k, 3 ≤ k → k ≤ 7 → tt.2 k = t.2 k
theorem climbS_cong {tt t : TS} (h : sameK tt t) (s : Nat) (r : (Nat → Int32) × Int32) : climbS tt s r = climbS t s r := by
  unfold climbS
  rw [h.2.2 3 (by decide) (by decide), h.2.2 4 (by decide) (by decide), h.2.2 5 (by decide) (by decide), h.2.2 6 (by decide) (by decide), h.2.2 7 (by decide) (by decide)]
theorem climbIn_cong {tt t : TS} (h : sameK tt t) : ∀ (k s : Nat) (r : (Nat → Int32) × Int32), climbIn tt k s r = climbIn t k s r
  | 0, _, _ => rfl
  | k + 1, s, r => by rw [climbIn, climbIn, climbS_cong h, climbIn_cong h k]
theorem climbPass_cong {tt t : TS} (h : sameK tt t) (g : Nat → Int32) : climbPass tt g = climbPass t g := by
  unfold climbPass
  rw [h.1, h.2.1, climbIn_cong h]
theorem climbF_cong {tt t : TS} (h : sameK tt t) (fx : Nat) (ht : Int32) : ∀ (k : Nat) (g : Nat → Int32) (ch : Int32), climbF tt fx ht k g ch = climbF t fx ht k g ch
  | 0, _, _ => rfl
  | k + 1, g, ch => by rw [climbF, climbF, climbPass_cong h, climbF_cong h fx ht k]
theorem sinkS_cong {tt t : TS} (h : sameK tt t) (s : Nat) (r : (Nat → Int32) × Int32) : sinkS tt s r = sinkS t s r := by
  unfold sinkS
  rw [h.2.2 3 (by decide) (by decide), h.2.2 4 (by decide) (by decide), h.2.2 5 (by decide) (by decide), h.2.2 6 (by decide) (by decide), h.2.2 7 (by decide) (by decide)]
theorem sinkIn_cong {tt t : TS} (h : sameK tt t) : ∀ (k s : Nat) (r : (Nat → Int32) × Int32), sinkIn tt k s r = sinkIn t k s r
  | 0, _, _ => rfl
  | k + 1, s, r => by rw [sinkIn, sinkIn, sinkS_cong h, sinkIn_cong h k]
theorem sinkF_cong {tt t : TS} (h : sameK tt t) : ∀ (k : Nat) (g : Nat → Int32) (ch : Int32), sinkF tt k g ch = sinkF t k g ch
  | 0, _, _ => rfl
  | k + 1, g, ch => by rw [sinkF, sinkF, h.2.1, sinkIn_cong h, sinkF_cong h k]
theorem okT_cong {tt t : TS} (h : sameK tt t) (ho : okT t) : okT tt := by
  unfold okT at ho ⊢
  rw [h.2.1, h.2.2 3 (by decide) (by decide), h.2.2 4 (by decide) (by decide)]
  exact ho
theorem sameK.rf (t : TS) : sameK t t := ⟨rfl, rfl, fun _ _ _ => rfl⟩
theorem sameK_ua {tt t : TS} (h : sameK tt t) {w : Nat} (hw : 8 ≤ w) (g : Nat → Int32) : sameK (tt.1, ua tt.2 w g) t := ⟨h.1, h.2.1, fun k h1 h2 => by
  show ua tt.2 w g k = t.2 k
  rw [ua_n _ _ (by omega)]; exact h.2.2 k h1 h2⟩
theorem sameK.trans {a b c : TS} (h : sameK a b) (h2 : sameK b c) : sameK a c := ⟨h.1.trans h2.1, h.2.1.trans h2.2.1, fun k h1 h3 => (h.2.2 k h1 h3).trans (h2.2.2 k h1 h3)⟩
theorem c_climbG (l : Launch) (D : va_G) (cI cO : ClassId) (B : Nat → Nat) (tt t : TS) (hs : sameK tt t) (hok : okT t) (w : Nat) (hw : 9 ≤ w ∧ w ≤ 11) (x : Int32) (fx : Nat) (hx : x = nI fx) (hfx : fx ≤ 64) (ht : Int32) : Kt l yX0_climb wsX0_climb 1 (wT cI B) D cI cO (fun _ => True) [.ref (B 0), .ref (B w), .int x, .int ht] tt (fun r u => u = (tt.1, ua tt.2 w (climbF t fx ht 66 (tt.2 w) 1)) ∧ r = some (.int (if ht < climbF t fx ht 66 (tt.2 w) 1 fx then 0 else 1))) := by
  subst hx
  have := c_climb l D cI cO B tt (okT_cong hs hok) w hw fx hfx ht
  rw [climbF_cong hs] at this
  exact this
theorem c_sinkG (l : Launch) (D : va_G) (cI cO : ClassId) (B : Nat → Nat) (tt t : TS) (hs : sameK tt t) (hok : okT t) (w : Nat) (hw : 9 ≤ w ∧ w ≤ 11) : Kt l yX0_sink wsX0_sink 1 (wT cI B) D cI cO (fun _ => True) [.ref (B 0), .ref (B w)] tt (fun r u => r = none ∧ u = (tt.1, ua tt.2 w (sinkF t 66 (tt.2 w) 1))) := by
  have := c_sink l D cI cO B tt (okT_cong hs hok) w hw
  rw [sinkF_cong hs] at this
  exact this
