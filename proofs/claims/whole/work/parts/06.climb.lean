/-! climb and sink: raising and lowering marks until all bounds hold, pass by pass -/
def raiseAt (f : Nat → Int32) (i : Nat) (h : Int32) : (Nat → Int32) × Int32 := raiseF h (65 - i) i f 0
def lowerAt (f : Nat → Int32) (i : Nat) (h : Int32) : (Nat → Int32) × Int32 := lowerF h (i + 1) f 0
theorem c_raiseW (l : Launch) (D : va_G) (cI cO : ClassId) (a len : Nat) (hl : len = 65) (f : Nat → Int32) (x : Int32) (hx : vp_in x 65) (h : Int32) : Kt l yX0_raise wsX0_raise 0 (wA cI a len) D cI cO (fun _ => True) [.ref a, .int x, .int h] f (P_arr (raiseAt f x.toNatClampNeg h)) := by
  subst hl
  obtain ⟨e, hlt⟩ := vp_in_c hx (by decide)
  have := c_raise l D cI cO a f x.toNatClampNeg (by omega) h
  rw [← e] at this
  exact this
theorem c_lowerW (l : Launch) (D : va_G) (cI cO : ClassId) (a len : Nat) (hl : len = 65) (f : Nat → Int32) (x : Int32) (hx : vp_in x 65) (h : Int32) : Kt l yX0_lower wsX0_lower 0 (wA cI a len) D cI cO (fun _ => True) [.ref a, .int x, .int h] f (P_arr (lowerAt f x.toNatClampNeg h)) := by
  subst hl
  obtain ⟨e, hlt⟩ := vp_in_c hx (by decide)
  have := c_lower l D cI cO a f x.toNatClampNeg (by omega) h
  rw [← e] at this
  exact this
theorem c_raiseN (l : Launch) (D : va_G) (cI cO : ClassId) (a len : Nat) (hl : len = 65) (f : Nat → Int32) (x : Int32) (mk : Nat) (hx : x = nI mk) (hm : mk ≤ 64) (h : Int32) : Kt l yX0_raise wsX0_raise 0 (wA cI a len) D cI cO (fun _ => True) [.ref a, .int x, .int h] f (P_arr (raiseAt f mk h)) := by
  subst hl; subst hx
  exact c_raise l D cI cO a f mk (by omega) h
theorem c_lowerN (l : Launch) (D : va_G) (cI cO : ClassId) (a len : Nat) (hl : len = 65) (f : Nat → Int32) (x : Int32) (mk : Nat) (hx : x = nI mk) (hm : mk ≤ 64) (h : Int32) : Kt l yX0_lower wsX0_lower 0 (wA cI a len) D cI cO (fun _ => True) [.ref a, .int x, .int h] f (P_arr (lowerAt f mk h)) := by
  subst hl; subst hx
  exact c_lower l D cI cO a f mk hm h
def orI (a b : Int32) : Int32 := if a = 0 then b else 1
theorem orI_01 {a b : Int32} (h : b = 0 ∨ b = 1) : orI a b = 0 ∨ orI a b = 1 := by
  unfold orI; split
  · exact h
  · exact Or.inr rfl
def climbS (t : TS) (s : Nat) (r : (Nat → Int32) × Int32) : (Nat → Int32) × Int32 :=
  if t.2 7 s = 0 then
    ((raiseAt (raiseAt r.1 (t.2 4 s).toNatClampNeg (r.1 (t.2 3 s).toNatClampNeg + t.2 5 s)).1 (t.2 3 s).toNatClampNeg ((raiseAt r.1 (t.2 4 s).toNatClampNeg (r.1 (t.2 3 s).toNatClampNeg + t.2 5 s)).1 (t.2 4 s).toNatClampNeg - t.2 6 s)).1,
     orI (raiseAt (raiseAt r.1 (t.2 4 s).toNatClampNeg (r.1 (t.2 3 s).toNatClampNeg + t.2 5 s)).1 (t.2 3 s).toNatClampNeg ((raiseAt r.1 (t.2 4 s).toNatClampNeg (r.1 (t.2 3 s).toNatClampNeg + t.2 5 s)).1 (t.2 4 s).toNatClampNeg - t.2 6 s)).2 (orI (raiseAt r.1 (t.2 4 s).toNatClampNeg (r.1 (t.2 3 s).toNatClampNeg + t.2 5 s)).2 r.2))
  else r
def climbIn (t : TS) : Nat → Nat → (Nat → Int32) × Int32 → (Nat → Int32) × Int32
  | 0, _, r => r
  | k + 1, s, r => climbIn t k (s + 1) (climbS t s r)
def climbPass (t : TS) (g : Nat → Int32) : (Nat → Int32) × Int32 :=
  climbIn t (t.1 1).toNatClampNeg 0 ((raiseAt (raiseAt g 0 (g 64 - t.1 0)).1 64 ((raiseAt g 0 (g 64 - t.1 0)).1 0 + t.1 0)).1, orI (raiseAt (raiseAt g 0 (g 64 - t.1 0)).1 64 ((raiseAt g 0 (g 64 - t.1 0)).1 0 + t.1 0)).2 (raiseAt g 0 (g 64 - t.1 0)).2)
def climbF (t : TS) (fx : Nat) (ht : Int32) : Nat → (Nat → Int32) → Int32 → (Nat → Int32)
  | 0, g, _ => g
  | k + 1, g, ch => if ch = 0 then g else if ht < g fx then g else climbF t fx ht k (climbPass t g).1 (climbPass t g).2
def sinkS (t : TS) (s : Nat) (r : (Nat → Int32) × Int32) : (Nat → Int32) × Int32 :=
  if t.2 7 s = 0 then
    ((lowerAt (lowerAt r.1 (t.2 3 s).toNatClampNeg (r.1 (t.2 4 s).toNatClampNeg - t.2 5 s)).1 (t.2 4 s).toNatClampNeg ((lowerAt r.1 (t.2 3 s).toNatClampNeg (r.1 (t.2 4 s).toNatClampNeg - t.2 5 s)).1 (t.2 3 s).toNatClampNeg + t.2 6 s)).1,
     orI (lowerAt (lowerAt r.1 (t.2 3 s).toNatClampNeg (r.1 (t.2 4 s).toNatClampNeg - t.2 5 s)).1 (t.2 4 s).toNatClampNeg ((lowerAt r.1 (t.2 3 s).toNatClampNeg (r.1 (t.2 4 s).toNatClampNeg - t.2 5 s)).1 (t.2 3 s).toNatClampNeg + t.2 6 s)).2 (orI (lowerAt r.1 (t.2 3 s).toNatClampNeg (r.1 (t.2 4 s).toNatClampNeg - t.2 5 s)).2 r.2))
  else r
def sinkIn (t : TS) : Nat → Nat → (Nat → Int32) × Int32 → (Nat → Int32) × Int32
  | 0, _, r => r
  | k + 1, s, r => sinkIn t k (s + 1) (sinkS t s r)
def sinkF (t : TS) : Nat → (Nat → Int32) → Int32 → (Nat → Int32)
  | 0, g, _ => g
  | k + 1, g, ch => if ch = 0 then g else sinkF t k (sinkIn t (t.1 1).toNatClampNeg 0 (g, 0)).1 (sinkIn t (t.1 1).toNatClampNeg 0 (g, 0)).2
def okT (t : TS) : Prop := vp_in (t.1 1) 41 ∧ ∀ s, s < (t.1 1).toNatClampNeg → vp_in (t.2 3 s) 65 ∧ vp_in (t.2 4 s) 65
theorem b_if0 {x : Int32} (h : x = 0 ∨ x = 1) {ch : Int32} : (x = 0 → orI x ch = ch) ∧ (¬ x = 0 → orI x ch = 1) := ⟨fun e => by rw [orI, if_pos e], fun e => by rw [orI, if_neg e]⟩
set_option maxRecDepth 100000 in
set_option maxHeartbeats 4000000 in
theorem c_climb (l : Launch) (D : va_G) (cI cO : ClassId) (B : Nat → Nat) (t : TS) (hok : okT t) (w : Nat) (hw : 9 ≤ w ∧ w ≤ 11) (fx : Nat) (hfx : fx ≤ 64) (ht : Int32) : Kt l yX0_climb wsX0_climb 1 (wT cI B) D cI cO (fun _ => True) [.ref (B 0), .ref (B w), .int (nI fx), .int ht] t (fun r u => u = (t.1, ua t.2 w (climbF t fx ht 66 (t.2 w) 1)) ∧ r = some (.int (if ht < climbF t fx ht 66 (t.2 w) 1 fx then 0 else 1))) := by
  refine Kt_of (cc := cX0_climb) (n := 7) (ret := some .boolean) rfl (by decide +kernel) (Nat.le_of_ble_eq_true rfl) rfl [some (.ref (B 0)), some (.ref (B w)), some (.int (nI fx)), some (.int ht), none, none, none] rfl ?_
  intro p e s m args below meth c A C _ _
  have hinT : ∀ w ∈ wsX00, w ∈ wsX0_climb := by decide +kernel
  have hw3 : 3 ≤ w ∧ w ≤ 11 := by omega
  have hlw : lenT w = 65 := by unfold lenT; rw [if_neg (by omega), if_neg (by omega)]
  obtain ⟨hn, hft⟩ := hok
  obtain ⟨en, hn41⟩ := vp_in_c hn (by decide)
  generalize hN : (t.1 1).toNatClampNeg = N at en hn41 hft
  have hret : ∀ (g : Nat → Int32) (x4 x5 x6 : Option Value), g = climbF t fx ht 66 (t.2 w) 1 → J p l e (rmH 1) s m args below meth c 0 0 (RQ below args s D (wT cI B) (fun r u => u = (t.1, ua t.2 w (climbF t fx ht 66 (t.2 w) 1)) ∧ r = some (.int (if ht < climbF t fx ht 66 (t.2 w) 1 fx then 0 else 1))) A) 7 D A 166 [some (.ref (B 0)), some (.ref (B w)), some (.int (nI fx)), some (.int ht), x4, x5, x6] [] (wTW cI B t w g) := by
    intro g x4 x5 x6 hg
    refine j_aload_n (pc' := 167) C dX0_climb_166 rfl rfl ?_
    refine j_iload_n (pc' := 168) C dX0_climb_167 rfl rfl ?_
    refine jWgN (pc' := 169) C dX0_climb_168 rfl hw3 fx rfl (by rw [hlw]; omega) ?_
    refine j_iload_n (pc' := 170) C dX0_climb_169 rfl rfl ?_
    refine j_icmp_gt (tgt := 177) (pc' := 173) C dX0_climb_170 (by decide) rfl (fun h170 => ?_) (fun h170 => ?_)
    · skip
      refine j_iconst (pc' := 178) C dX0_climb_177 rfl 0 (by decide) ?_
      refine j_zreturn _ C dX0_climb_178 ?_ ?_
      · first | exact Or.inl rfl | exact Or.inr rfl
      · first | exact ⟨by rw [← hg], by rw [← hg, if_pos h170]⟩ | exact ⟨by rw [← hg], by rw [← hg, if_neg h170]⟩
    · skip
      refine j_iconst (pc' := 174) C dX0_climb_173 rfl 1 (by decide) ?_
      refine j_goto (pc' := 178) C dX0_climb_174 (by decide) ?_
      refine j_zreturn _ C dX0_climb_178 ?_ ?_
      · first | exact Or.inl rfl | exact Or.inr rfl
      · first | exact ⟨by rw [← hg], by rw [← hg, if_pos h170]⟩ | exact ⟨by rw [← hg], by rw [← hg, if_neg h170]⟩
  have outer : ∀ (k pas : Nat) (g : Nat → Int32) (ch : Int32) (x6 : Option Value), pas + k = 66 → (ch = 0 ∨ ch = 1) → climbF t fx ht k g ch = climbF t fx ht 66 (t.2 w) 1 → J p l e (rmH 1) s m args below meth c 0 0 (RQ below args s D (wT cI B) (fun r u => u = (t.1, ua t.2 w (climbF t fx ht 66 (t.2 w) 1)) ∧ r = some (.int (if ht < climbF t fx ht 66 (t.2 w) 1 fx then 0 else 1))) A) 7 D A 6 [some (.ref (B 0)), some (.ref (B w)), some (.int (nI fx)), some (.int ht), some (.int ch), some (.int (nI pas)), x6] [] (wTW cI B t w g) := by
    intro k
    induction k with
    | zero =>
      intro pas g ch x6 hk hc hr
      have hp2 : pas = 66 := by omega
      subst hp2
      refine j_iload (pc' := 8) C dX0_climb_6 rfl rfl ?_
      refine j_bipush (pc' := 10) C dX0_climb_8 rfl 66 (by decide) ?_
      refine j_icmp_ge (tgt := 166) (pc' := 13) C dX0_climb_10 (by decide) rfl (fun h10 => ?_) (fun h10 => ?_)
      · skip
        exact hret _ _ _ _ hr
      · skip
        exact absurd (by decide) h10 -- done
    | succ k ih =>
      intro pas g ch x6 hk hc hr
      have h160 : ∀ (g1 : Nat → Int32) (ch1 : Int32) (x6 : Option Value), (ch1 = 0 ∨ ch1 = 1) → climbF t fx ht k g1 ch1 = climbF t fx ht 66 (t.2 w) 1 → J p l e (rmH 1) s m args below meth c 0 0 (RQ below args s D (wT cI B) (fun r u => u = (t.1, ua t.2 w (climbF t fx ht 66 (t.2 w) 1)) ∧ r = some (.int (if ht < climbF t fx ht 66 (t.2 w) 1 fx then 0 else 1))) A) 7 D A 160 [some (.ref (B 0)), some (.ref (B w)), some (.int (nI fx)), some (.int ht), some (.int ch1), some (.int (nI pas)), x6] [] (wTW cI B t w g1) := by
        intro g1 ch1 x6 hc1 hr1
        refine j_iinc (pc' := 163) C dX0_climb_160 rfl 1 (by decide) rfl (by decide) rfl ?_
        refine j_goto (pc' := 6) C dX0_climb_163 (by decide) ?_
        rw [nI_1]
        exact ih (pas + 1) g1 ch1 x6 (by omega) hc1 hr1
      have inner : ∀ (j i : Nat) (g1 : Nat → Int32) (ch1 : Int32), i + j = N → (ch1 = 0 ∨ ch1 = 1) → climbF t fx ht k (climbIn t j i (g1, ch1)).1 (climbIn t j i (g1, ch1)).2 = climbF t fx ht 66 (t.2 w) 1 → J p l e (rmH 1) s m args below meth c 0 0 (RQ below args s D (wT cI B) (fun r u => u = (t.1, ua t.2 w (climbF t fx ht 66 (t.2 w) 1)) ∧ r = some (.int (if ht < climbF t fx ht 66 (t.2 w) 1 fx then 0 else 1))) A) 7 D A 64 [some (.ref (B 0)), some (.ref (B w)), some (.int (nI fx)), some (.int ht), some (.int ch1), some (.int (nI pas)), some (.int (nI i))] [] (wTW cI B t w g1) := by
        intro j
        induction j with
        | zero =>
          intro i g1 ch1 hij hc1 hr1
          have hi2 : i = N := by omega
          subst hi2
          refine j_iload (pc' := 66) C dX0_climb_64 rfl rfl ?_
          refine j_aload_n (pc' := 67) C dX0_climb_66 rfl rfl ?_
          refine jWi (pc' := 70) C dX0_climb_67 rfl 1 (by unfold isIT; decide) hinT (by decide +kernel) ?_
          refine j_icmp_ge (tgt := 160) (pc' := 73) C dX0_climb_70 (by decide) rfl (fun h70 => ?_) (fun h70 => ?_)
          · skip
            exact h160 _ _ _ hc1 hr1
          · skip
            exact absurd (by rw [en]; exact nI_le (Nat.le_refl _) (by omega)) h70 -- done
        | succ j jh =>
          intro i g1 ch1 hij hc1 hr1
          have hi1 : i < N := by omega
          have h154 : ∀ (g2 : Nat → Int32) (ch2 : Int32), (ch2 = 0 ∨ ch2 = 1) → (g2, ch2) = climbS t i (g1, ch1) → J p l e (rmH 1) s m args below meth c 0 0 (RQ below args s D (wT cI B) (fun r u => u = (t.1, ua t.2 w (climbF t fx ht 66 (t.2 w) 1)) ∧ r = some (.int (if ht < climbF t fx ht 66 (t.2 w) 1 fx then 0 else 1))) A) 7 D A 154 [some (.ref (B 0)), some (.ref (B w)), some (.int (nI fx)), some (.int ht), some (.int ch2), some (.int (nI pas)), some (.int (nI i))] [] (wTW cI B t w g2) := by
            intro g2 ch2 hc2 e2
            refine j_iinc (pc' := 157) C dX0_climb_154 rfl 1 (by decide) rfl (by decide) rfl ?_
            refine j_goto (pc' := 64) C dX0_climb_157 (by decide) ?_
            rw [nI_1]
            exact jh (i + 1) g2 ch2 (by omega) hc2 (by rw [e2]; exact hr1)
          have h7 : ∀ (x : Int32), x = t.2 7 i → x = x := fun _ _ => rfl
          refine j_iload (pc' := 66) C dX0_climb_64 rfl rfl ?_
          refine j_aload_n (pc' := 67) C dX0_climb_66 rfl rfl ?_
          refine jWi (pc' := 70) C dX0_climb_67 rfl 1 (by unfold isIT; decide) hinT (by decide +kernel) ?_
          refine j_icmp_ge (tgt := 160) (pc' := 73) C dX0_climb_70 (by decide) rfl (fun h70 => ?_) (fun h70 => ?_)
          · skip
            exact absurd h70 (by rw [en]; exact nI_ge hi1 (by omega)) -- done
          · skip
            refine j_aload_n (pc' := 74) C dX0_climb_73 rfl rfl ?_
            refine jWa (pc' := 77) C dX0_climb_74 rfl 7 (by decide) hinT (by decide +kernel) ?_
            refine j_iload (pc' := 79) C dX0_climb_77 rfl rfl ?_
            refine jWlN (pc' := 80) C dX0_climb_79 rfl 7 (by decide) (by omega) i rfl (by unfold lenT; simp; omega) ?_
            refine j_if_eq (tgt := 86) (pc' := 83) C dX0_climb_80 (by decide) rfl (fun h80 => ?_) (fun h80 => ?_)
            · skip
              refine j_aload_n (pc' := 87) C dX0_climb_86 rfl rfl ?_
              refine j_aload_n (pc' := 88) C dX0_climb_87 rfl rfl ?_
              refine jWa (pc' := 91) C dX0_climb_88 rfl 4 (by decide) hinT (by decide +kernel) ?_
              refine j_iload (pc' := 93) C dX0_climb_91 rfl rfl ?_
              refine jWlN (pc' := 94) C dX0_climb_93 rfl 4 (by decide) (by omega) i rfl (by unfold lenT; simp; omega) ?_
              refine j_aload_n (pc' := 95) C dX0_climb_94 rfl rfl ?_
              refine j_aload_n (pc' := 96) C dX0_climb_95 rfl rfl ?_
              refine jWa (pc' := 99) C dX0_climb_96 rfl 3 (by decide) hinT (by decide +kernel) ?_
              refine j_iload (pc' := 101) C dX0_climb_99 rfl rfl ?_
              refine jWlN (pc' := 102) C dX0_climb_101 rfl 3 (by decide) (by omega) i rfl (by unfold lenT; simp; omega) ?_
              refine jWg (pc' := 103) C dX0_climb_102 rfl hw3 (by rw [hlw]; exact (hft i hi1).1) ?_
              refine j_aload_n (pc' := 104) C dX0_climb_103 rfl rfl ?_
              refine jWa (pc' := 107) C dX0_climb_104 rfl 5 (by decide) hinT (by decide +kernel) ?_
              refine j_iload (pc' := 109) C dX0_climb_107 rfl rfl ?_
              refine jWlN (pc' := 110) C dX0_climb_109 rfl 5 (by decide) (by omega) i rfl (by unfold lenT; simp; omega) ?_
              refine j_iadd (pc' := 111) C dX0_climb_110 rfl ?_
              refine jW_call (pc' := 114) C hw3 (c_raiseW l D cI cO (B w) (lenT w) hlw g1 (t.2 4 i) (hft i hi1).2 _) 3 gX0_climb_X0_raise rfl (by decide +kernel) (by decide) rfl rfl (by decide) dX0_climb_111 rfl (fun v1 g1 hp1 => ?_)
              obtain ⟨rfl, rfl, h01⟩ := hp1
              show J p l e _ s m args below meth c 0 0 _ _ D A _ _ [_] _
              have h120 : ∀ (ch2 : Int32), ch2 = orI (raiseAt g1 (t.2 4 i).toNatClampNeg (g1 (t.2 3 i).toNatClampNeg + t.2 5 i)).2 ch1 → J p l e (rmH 1) s m args below meth c 0 0 (RQ below args s D (wT cI B) (fun r u => u = (t.1, ua t.2 w (climbF t fx ht 66 (t.2 w) 1)) ∧ r = some (.int (if ht < climbF t fx ht 66 (t.2 w) 1 fx then 0 else 1))) A) 7 D A 120 [some (.ref (B 0)), some (.ref (B w)), some (.int (nI fx)), some (.int ht), some (.int ch2), some (.int (nI pas)), some (.int (nI i))] [] (wTW cI B t w (raiseAt g1 (t.2 4 i).toNatClampNeg (g1 (t.2 3 i).toNatClampNeg + t.2 5 i)).1) := by
                intro ch2 ec2
                have hc2 : ch2 = 0 ∨ ch2 = 1 := by rw [ec2]; exact orI_01 hc1
                refine j_aload_n (pc' := 121) C dX0_climb_120 rfl rfl ?_
                refine j_aload_n (pc' := 122) C dX0_climb_121 rfl rfl ?_
                refine jWa (pc' := 125) C dX0_climb_122 rfl 3 (by decide) hinT (by decide +kernel) ?_
                refine j_iload (pc' := 127) C dX0_climb_125 rfl rfl ?_
                refine jWlN (pc' := 128) C dX0_climb_127 rfl 3 (by decide) (by omega) i rfl (by unfold lenT; simp; omega) ?_
                refine j_aload_n (pc' := 129) C dX0_climb_128 rfl rfl ?_
                refine j_aload_n (pc' := 130) C dX0_climb_129 rfl rfl ?_
                refine jWa (pc' := 133) C dX0_climb_130 rfl 4 (by decide) hinT (by decide +kernel) ?_
                refine j_iload (pc' := 135) C dX0_climb_133 rfl rfl ?_
                refine jWlN (pc' := 136) C dX0_climb_135 rfl 4 (by decide) (by omega) i rfl (by unfold lenT; simp; omega) ?_
                refine jWg (pc' := 137) C dX0_climb_136 rfl hw3 (by rw [hlw]; exact (hft i hi1).2) ?_
                refine j_aload_n (pc' := 138) C dX0_climb_137 rfl rfl ?_
                refine jWa (pc' := 141) C dX0_climb_138 rfl 6 (by decide) hinT (by decide +kernel) ?_
                refine j_iload (pc' := 143) C dX0_climb_141 rfl rfl ?_
                refine jWlN (pc' := 144) C dX0_climb_143 rfl 6 (by decide) (by omega) i rfl (by unfold lenT; simp; omega) ?_
                refine j_isub (pc' := 145) C dX0_climb_144 rfl ?_
                refine jW_call (pc' := 148) C hw3 (c_raiseW l D cI cO (B w) (lenT w) hlw _ (t.2 3 i) (hft i hi1).1 _) 3 gX0_climb_X0_raise rfl (by decide +kernel) (by decide) rfl rfl (by decide) dX0_climb_145 rfl (fun v1 g1 hp1 => ?_)
                obtain ⟨rfl, rfl, h02⟩ := hp1
                show J p l e _ s m args below meth c 0 0 _ _ D A _ _ [_] _
                refine j_if_eq (tgt := 154) (pc' := 151) C dX0_climb_148 (by decide) rfl (fun h148 => ?_) (fun h148 => ?_)
                · skip
                  first | exact h154 _ _ hc2 (by rw [climbS, if_pos h80, (b_if0 h02).1 h148, ← ec2]) | exact h154 _ _ (Or.inr rfl) (by rw [climbS, if_pos h80, (b_if0 h02).2 h148])
                · skip
                  refine j_iconst (pc' := 152) C dX0_climb_151 rfl 1 (by decide) ?_
                  refine j_istore (pc' := 154) C dX0_climb_152 rfl (by decide) rfl ?_
                  first | exact h154 _ _ hc2 (by rw [climbS, if_pos h80, (b_if0 h02).1 h148, ← ec2]) | exact h154 _ _ (Or.inr rfl) (by rw [climbS, if_pos h80, (b_if0 h02).2 h148])
                
              refine j_if_eq (tgt := 120) (pc' := 117) C dX0_climb_114 (by decide) rfl (fun h114 => ?_) (fun h114 => ?_)
              · skip
                first | exact h120 _ ((b_if0 h01).1 h114).symm | exact h120 _ ((b_if0 h01).2 h114).symm
              · skip
                refine j_iconst (pc' := 118) C dX0_climb_117 rfl 1 (by decide) ?_
                refine j_istore (pc' := 120) C dX0_climb_118 rfl (by decide) rfl ?_
                first | exact h120 _ ((b_if0 h01).1 h114).symm | exact h120 _ ((b_if0 h01).2 h114).symm
              
            · skip
              refine j_goto (pc' := 154) C dX0_climb_83 (by decide) ?_
              exact h154 _ _ hc1 (by rw [climbS, if_neg h80])
      refine j_iload (pc' := 8) C dX0_climb_6 rfl rfl ?_
      refine j_bipush (pc' := 10) C dX0_climb_8 rfl 66 (by decide) ?_
      refine j_icmp_ge (tgt := 166) (pc' := 13) C dX0_climb_10 (by decide) rfl (fun h10 => ?_) (fun h10 => ?_)
      · skip
        exact absurd h10 (nI_ge (b := 66) (by omega) (by decide)) -- done
      · skip
        refine j_iload (pc' := 15) C dX0_climb_13 rfl rfl ?_
        refine j_if_eq (tgt := 166) (pc' := 18) C dX0_climb_15 (by decide) rfl (fun h15 => ?_) (fun h15 => ?_)
        · skip
          first | exact hret _ _ _ _ (by rw [← hr, climbF, if_pos h15]) | exact hret _ _ _ _ (by rw [← hr, climbF, if_neg h15, if_pos h22])
        · skip
          refine j_aload_n (pc' := 19) C dX0_climb_18 rfl rfl ?_
          refine j_iload_n (pc' := 20) C dX0_climb_19 rfl rfl ?_
          refine jWgN (pc' := 21) C dX0_climb_20 rfl hw3 fx rfl (by rw [hlw]; omega) ?_
          refine j_iload_n (pc' := 22) C dX0_climb_21 rfl rfl ?_
          refine j_icmp_gt (tgt := 166) (pc' := 25) C dX0_climb_22 (by decide) rfl (fun h22 => ?_) (fun h22 => ?_)
          · skip
            first | exact hret _ _ _ _ (by rw [← hr, climbF, if_pos h15]) | exact hret _ _ _ _ (by rw [← hr, climbF, if_neg h15, if_pos h22])
          · skip
            refine j_aload_n (pc' := 26) C dX0_climb_25 rfl rfl ?_
            refine j_iconst (pc' := 27) C dX0_climb_26 rfl 0 (by decide) ?_
            refine j_aload_n (pc' := 28) C dX0_climb_27 rfl rfl ?_
            refine j_bipush (pc' := 30) C dX0_climb_28 rfl 64 (by decide) ?_
            refine jWgN (pc' := 31) C dX0_climb_30 rfl hw3 64 rfl (by rw [hlw]; decide) ?_
            refine j_aload_n (pc' := 32) C dX0_climb_31 rfl rfl ?_
            refine jWi (pc' := 35) C dX0_climb_32 rfl 0 (by unfold isIT; decide) hinT (by decide +kernel) ?_
            refine j_isub (pc' := 36) C dX0_climb_35 rfl ?_
            refine jW_call (pc' := 39) C hw3 (c_raiseN l D cI cO (B w) (lenT w) hlw g 0 0 rfl (by decide) _) 3 gX0_climb_X0_raise rfl (by decide +kernel) (by decide) rfl rfl (by decide) dX0_climb_36 rfl (fun v1 g1 hp1 => ?_)
            obtain ⟨rfl, rfl, h01⟩ := hp1
            show J p l e _ s m args below meth c 0 0 _ _ D A _ _ [_] _
            refine j_istore (pc' := 41) C dX0_climb_39 rfl (by decide) rfl ?_
            refine j_aload_n (pc' := 42) C dX0_climb_41 rfl rfl ?_
            refine j_bipush (pc' := 44) C dX0_climb_42 rfl 64 (by decide) ?_
            refine j_aload_n (pc' := 45) C dX0_climb_44 rfl rfl ?_
            refine j_iconst (pc' := 46) C dX0_climb_45 rfl 0 (by decide) ?_
            refine jWgN (pc' := 47) C dX0_climb_46 rfl hw3 0 rfl (by rw [hlw]; decide) ?_
            refine j_aload_n (pc' := 48) C dX0_climb_47 rfl rfl ?_
            refine jWi (pc' := 51) C dX0_climb_48 rfl 0 (by unfold isIT; decide) hinT (by decide +kernel) ?_
            refine j_iadd (pc' := 52) C dX0_climb_51 rfl ?_
            refine jW_call (pc' := 55) C hw3 (c_raiseN l D cI cO (B w) (lenT w) hlw _ 64 64 rfl (by decide) _) 3 gX0_climb_X0_raise rfl (by decide +kernel) (by decide) rfl rfl (by decide) dX0_climb_52 rfl (fun v1 g1 hp1 => ?_)
            obtain ⟨rfl, rfl, h02⟩ := hp1
            show J p l e _ s m args below meth c 0 0 _ _ D A _ _ [_] _
            have hr3 : climbF t fx ht k (climbPass t g).1 (climbPass t g).2 = climbF t fx ht 66 (t.2 w) 1 := by rw [← hr, climbF, if_neg h15, if_neg h22]
            unfold climbPass at hr3
            rw [hN] at hr3
            refine j_if_eq (tgt := 61) (pc' := 58) C dX0_climb_55 (by decide) rfl (fun h55 => ?_) (fun h55 => ?_)
            · skip
              refine j_iconst (pc' := 62) C dX0_climb_61 rfl 0 (by decide) ?_
              refine j_istore (pc' := 64) C dX0_climb_62 rfl (by decide) rfl ?_
              first | exact inner N 0 _ _ (by omega) h01 (by rw [(b_if0 h02).1 h55] at hr3; exact hr3) | exact inner N 0 _ _ (by omega) (Or.inr rfl) (by rw [(b_if0 h02).2 h55] at hr3; exact hr3)
            · skip
              refine j_iconst (pc' := 59) C dX0_climb_58 rfl 1 (by decide) ?_
              refine j_istore (pc' := 61) C dX0_climb_59 rfl (by decide) rfl ?_
              refine j_iconst (pc' := 62) C dX0_climb_61 rfl 0 (by decide) ?_
              refine j_istore (pc' := 64) C dX0_climb_62 rfl (by decide) rfl ?_
              first | exact inner N 0 _ _ (by omega) h01 (by rw [(b_if0 h02).1 h55] at hr3; exact hr3) | exact inner N 0 _ _ (by omega) (Or.inr rfl) (by rw [(b_if0 h02).2 h55] at hr3; exact hr3)
            
            
  refine j_iconst (pc' := 1) C dX0_climb_0 rfl 1 (by decide) ?_
  refine j_istore (pc' := 3) C dX0_climb_1 rfl (by decide) rfl ?_
  refine j_iconst (pc' := 4) C dX0_climb_3 rfl 0 (by decide) ?_
  refine j_istore (pc' := 6) C dX0_climb_4 rfl (by decide) rfl ?_
  have h0 := outer 66 0 (t.2 w) 1 none (by omega) (Or.inr rfl) rfl
  unfold wTW at h0
  rw [ua_self] at h0
  exact h0
