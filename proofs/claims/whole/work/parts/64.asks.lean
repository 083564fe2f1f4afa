/-! the asks: both sides answer the same -/
def Ok {α : Type} (x : α × (Nat → TS)) (m : α × TS) : Prop := x.1 = m.1 ∧ Rel x.2 m.2
theorem isInF_iff (v lo hi : Int32) : isInF v lo hi = 0 ↔ (v.toInt < lo.toInt ∨ hi.toInt < v.toInt) := by
  unfold isInF
  by_cases q1 : v < lo
  · rw [if_pos q1]; exact ⟨fun _ => Or.inl ((lt_iff _ _).mp q1), fun _ => rfl⟩
  · rw [if_neg q1]
    by_cases q2 : hi < v
    · rw [if_pos q2]; exact ⟨fun _ => Or.inr ((lt_iff _ _).mp q2), fun _ => rfl⟩
    · rw [if_neg q2]
      rw [lt_iff] at q1 q2
      exact ⟨fun z => absurd z (by decide), fun z => by omega⟩
theorem ok_least {T : Nat → TS} {t : TS} (h : Rel T t) (tb a b : Int32) : Ok (xLeast T tb a b) (mLeast t tb a b) := by
  unfold xLeast mLeast
  by_cases c : isInF tb 0 2 = 0 ∨ isSpanF a b = 0
  · rw [if_pos c, if_pos c]; exact ⟨rfl, h⟩
  · rw [if_neg c, if_neg c]
    obtain ⟨i, hi, rfl⟩ := isTb (fun z => c (Or.inl z))
    obtain ⟨x, y, hxy, hy, rfl, rfl⟩ := isSpanF_1 (fun z => c (Or.inr z))
    rw [nI_clamp (show i < 2 ^ 31 by omega), nI_clamp (show x < 2 ^ 31 by omega), nI_clamp (show y < 2 ^ 31 by omega)]
    obtain ⟨b1, d, b2, b3, b4⟩ := both (h i hi)
    have hs := (h i hi).settle
    have hl := least_spec hs.1.2.1.1.1 b2 (st := x) (by omega) (j := y) hy
    have hb := b2.ler (EdT_base _ _) (i := y) (j := x) hy (by omega)
    have hr := hs.1.2.1.1.1.2.1
    have e9 : ((closF t i).2 9 (65 * y + x)).toInt = d y x := b4 y x hy (by omega)
    refine ⟨Int32.toInt_inj.mp ?_, (h.clos hi).1.tab (((h.clos hi).1 i hi).settle.1.w11 _)⟩
    show (leastW (T i) x y).toInt = (- (closF t i).2 9 (65 * y + x)).toInt
    rw [fb_negI (by omega), e9]
    exact hl
theorem ok_greatest {T : Nat → TS} {t : TS} (h : Rel T t) (tb a b : Int32) : Ok (xGreatest T tb a b) (mGreatest t tb a b) := by
  unfold xGreatest mGreatest
  by_cases c : isInF tb 0 2 = 0 ∨ isSpanF a b = 0
  · rw [if_pos c, if_pos c]; exact ⟨rfl, h⟩
  · rw [if_neg c, if_neg c]
    obtain ⟨i, hi, rfl⟩ := isTb (fun z => c (Or.inl z))
    obtain ⟨x, y, hxy, hy, rfl, rfl⟩ := isSpanF_1 (fun z => c (Or.inr z))
    rw [nI_clamp (show i < 2 ^ 31 by omega), nI_clamp (show x < 2 ^ 31 by omega), nI_clamp (show y < 2 ^ 31 by omega)]
    obtain ⟨b1, d, b2, b3, b4⟩ := both (h i hi)
    have hs := (h i hi).settle
    have hl : (leastW (T i) y x).toInt = - d x y := least_spec hs.1.2.1.1.1 b2 (st := y) hy (j := x) (by omega)
    have hb := b2.ler (EdT_base _ _) (i := x) (j := y) (by omega) hy
    have hr := hs.1.2.1.1.1.2.1
    have e9 : ((closF t i).2 9 (65 * x + y)).toInt = d x y := b4 x y (by omega) hy
    refine ⟨Int32.toInt_inj.mp ?_, (h.clos hi).1.tab (((h.clos hi).1 i hi).settle.1.w11 _)⟩
    show (- leastW (T i) y x).toInt = ((closF t i).2 9 (65 * x + y)).toInt
    rw [fb_negI (by omega), e9, hl]
    omega
theorem ok_sightOf {T : Nat → TS} {t : TS} (h : Rel T t) (tb sg w : Int32) : Ok (xSightOf T tb sg w) (mSightOf t tb sg w) := by
  unfold xSightOf mSightOf
  by_cases c : isInF tb 0 2 = 0
  · rw [if_pos (Or.inl c), if_pos (Or.inl c)]; exact ⟨rfl, h⟩
  · obtain ⟨i, hi, rfl⟩ := isTb c
    rw [nI_clamp (show i < 2 ^ 31 by omega)]
    have hR := h i hi
    obtain ⟨en, hn⟩ := vp_in_c hR.2.1.1.1.1.1 (by decide)
    have e1 : (T i).1 1 = t.2 1 i := hR.1.1.2.1
    have en1 : ((T i).1 1).toInt = nT (T i) := by rw [en, nI_toInt (by omega)]; rfl
    have z0 : (0 : Int32).toInt = 0 := rfl
    have hc : (isInF sg 0 (t.2 1 i - 1) = 0) ↔ (sg < 0 ∨ ¬ sg < (T i).1 1) := by
      have e2 : (t.2 1 i - 1).toInt = nT (T i) - 1 := by
        rw [← e1, fb_subI (by rw [en1]; show _ ≤ _ - 1; omega) (by rw [en1]; show _ - 1 < _; unfold nT; omega), en1]
        rfl
      rw [isInF_iff, lt_iff, lt_iff, e2, en1, z0]
      omega
    by_cases c2 : sg < 0 ∨ ¬ sg < (T i).1 1
    · rw [if_pos (Or.inr c2), if_pos (Or.inr (hc.mpr c2))]; exact ⟨rfl, h⟩
    · rw [if_neg (fun z => z.elim c c2), if_neg (fun z => z.elim c (fun z => c2 (hc.mp z)))]
      obtain ⟨j, hj, rfl⟩ : ∃ j : Nat, j < nT (T i) ∧ sg = nI j := by
        rw [lt_iff, lt_iff, en1, z0] at c2
        refine ⟨sg.toInt.toNat, by omega, ?_⟩
        rw [← Int32.toInt_inj, nI_toInt (by unfold nT at c2; omega)]
        omega
      have hj40 : j < 2 ^ 31 := by unfold nT at hj; omega
      rw [nI_clamp hj40]
      obtain ⟨k1, k2, k3, k4⟩ := hR.1.2.1 j hj
      have hcl := h.clos hi
      have hm := hcl.2.1
      unfold xSightVal mSightVal
      rw [hm 3 (by decide) (by decide), hm 4 (by decide) (by decide), hm 5 (by decide) (by decide), hm 6 (by decide) (by decide)]
      by_cases w0 : w = 0
      · rw [if_pos w0, if_pos w0]; exact ⟨k1, hcl.1⟩
      rw [if_neg w0, if_neg w0]
      by_cases w1 : w = 1
      · rw [if_pos w1, if_pos w1]; exact ⟨k2, hcl.1⟩
      rw [if_neg w1, if_neg w1]
      by_cases w2 : w = 2
      · rw [if_pos w2, if_pos w2]; exact ⟨k3, hcl.1⟩
      rw [if_neg w2, if_neg w2]
      by_cases w3 : w = 3
      · rw [if_pos w3, if_pos w3]; exact ⟨k4, hcl.1⟩
      rw [if_neg w3, if_neg w3]
      by_cases w4 : w = 4
      · rw [if_pos w4, if_pos w4]
        exact ⟨((both hR).1 j hj).symm, hcl.1.tab (hcl.1 i hi).settle.1⟩
      rw [if_neg w4, if_neg w4]
      exact ⟨rfl, hcl.1⟩
theorem cnt_eq (f g : Nat → Int32) (st : Int32) (lo : Nat) : ∀ (n : Nat), (∀ s, s < n → g (lo + s) = f s) → cntF f st n = cntR g st lo n
  | 0, _ => rfl
  | n + 1, h => by
    unfold cntF cntR
    rw [h n (by omega), cnt_eq f g st lo n (fun s hs => h s (by omega))]
    by_cases q : f n = st
    · rw [if_pos q, if_pos q]
    · rw [if_neg q, if_neg q]; simp
theorem ok_many {T : Nat → TS} {t : TS} (h : Rel T t) {i : Nat} (hi : i < 3) (st : Int32) : Ok (xMany T i st) (manyF t i st, closF t i) := by
  have hR := h i hi
  refine ⟨?_, (h.clos hi).1.tab ((h.clos hi).1 i hi).settle.1⟩
  show cntF ((settleF (T i)).2 7) st ((T i).1 1).toNatClampNeg = manyF t i st
  unfold manyF
  rw [← hR.1.1.2.1]
  exact cnt_eq _ _ st (40 * i) _ (fun s hs => (both hR).1 s hs)
theorem ok_table {T : Nat → TS} {t : TS} (h : Rel T t) (tb w : Int32) : Ok (xTable T tb w) (mTable t tb w) := by
  unfold xTable mTable
  by_cases c : isInF tb 0 2 = 0
  · rw [if_pos c, if_pos c]; exact ⟨rfl, h⟩
  · rw [if_neg c, if_neg c]
    obtain ⟨i, hi, rfl⟩ := isTb c
    rw [nI_clamp (show i < 2 ^ 31 by omega)]
    have hR := h i hi
    by_cases w0 : w = 0
    · rw [if_pos w0, if_pos w0]; exact ⟨hR.1.1.1, h⟩
    rw [if_neg w0, if_neg w0]
    by_cases w1 : w = 1
    · rw [if_pos w1, if_pos w1]; exact ⟨hR.1.1.2.1, h⟩
    rw [if_neg w1, if_neg w1]
    by_cases w2 : w = 2
    · rw [if_pos w2, if_pos w2]; exact ok_many h hi 0
    rw [if_neg w2, if_neg w2]
    by_cases w3 : w = 3
    · rw [if_pos w3, if_pos w3]; exact ok_many h hi 1
    rw [if_neg w3, if_neg w3]
    by_cases w4 : w = 4
    · rw [if_pos w4, if_pos w4]; exact ok_many h hi 2
    rw [if_neg w4, if_neg w4]
    by_cases w5 : w = 5
    · rw [if_pos w5, if_pos w5]; exact ⟨hR.1.1.2.2, h⟩
    rw [if_neg w5, if_neg w5]
    exact ⟨rfl, h⟩
