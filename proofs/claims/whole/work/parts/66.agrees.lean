/-! agrees: both sides answer the same -/
def sumZ (f : Nat → Int32) (lo : Nat) : Nat → Int
  | 0 => 0
  | n + 1 => sumZ f lo n + (f (lo + n)).toInt
theorem sumZ_b {f : Nat → Int32} (h : ∀ v, v < 64 → 0 ≤ (f v).toInt ∧ (f v).toInt ≤ 100000) (lo : Nat) : ∀ (n : Nat), lo + n ≤ 64 → 0 ≤ sumZ f lo n ∧ sumZ f lo n ≤ 100000 * n
  | 0, _ => by unfold sumZ; omega
  | n + 1, hn => by
    have h1 := sumZ_b h lo n (by omega)
    have h2 := h (lo + n) (by omega)
    unfold sumZ
    omega
theorem sumZ_add (f : Nat → Int32) (lo a : Nat) : ∀ (k : Nat), sumZ f lo (a + k) = sumZ f lo a + sumZ f (lo + a) k
  | 0 => by
    show sumZ f lo a = sumZ f lo a + 0
    omega
  | k + 1 => by
    show sumZ f lo (a + k) + (f (lo + (a + k))).toInt = sumZ f lo a + (sumZ f (lo + a) k + (f (lo + a + k)).toInt)
    rw [sumZ_add f lo a k, show lo + (a + k) = lo + a + k by omega]
    omega
theorem sumF_Z {f : Nat → Int32} (h : ∀ v, v < 64 → 0 ≤ (f v).toInt ∧ (f v).toInt ≤ 100000) : ∀ (n : Nat), n ≤ 64 → (sumF f n).toInt = sumZ f 0 n
  | 0, _ => rfl
  | n + 1, hn => by
    have h1 := sumF_Z h n (by omega)
    have h2 := h n (by omega)
    have h3 := sumZ_b h 0 n (by omega)
    show (sumF f n + f n).toInt = sumZ f 0 n + (f (0 + n)).toInt
    rw [fb_addI (by omega) (by omega), h1, Nat.zero_add]
theorem fb_l (x : Int32) : x.toInt64.toInt = x.toInt := Int32.toInt_toInt64 x
theorem fb_addL {x y : Int64} (h1 : -9223372036854775808 ≤ x.toInt + y.toInt) (h2 : x.toInt + y.toInt < 9223372036854775808) : (x + y).toInt = x.toInt + y.toInt := by
  rw [Int64.toInt_add, Int.bmod_eq_of_le (by omega) (by omega)]
theorem sumT_Z {f g : Nat → Int32} {B : Nat} (h : ∀ v, v < 64 → 0 ≤ (g v).toInt ∧ (g v).toInt ≤ 100000) (hf : ∀ v, v < 64 → g v = f (B + v)) (a : Nat) : ∀ (n : Nat), a + n ≤ 64 → (sumT f (B + a) n).toInt = sumZ g a n
  | 0, _ => rfl
  | n + 1, hn => by
    have h1 := sumT_Z h hf a n (by omega)
    have h2 := h (a + n) (by omega)
    have h3 := sumZ_b h a n (by omega)
    have e : (f (B + a + n)).toInt64.toInt = (g (a + n)).toInt := by rw [fb_l, hf (a + n) (by omega), show B + a + n = B + (a + n) by omega]
    show (sumT f (B + a) n + (f (B + a + n)).toInt64).toInt = sumZ g a n + (g (a + n)).toInt
    rw [fb_addL (by omega) (by omega), h1, e]
theorem cmp_lt (x y : Int64) : lg_cmp x y < 0 ↔ x.toInt < y.toInt := by
  unfold lg_cmp
  by_cases h : x > y
  · rw [if_pos h]
    have := Int64.lt_iff_toInt_lt.mp h
    exact ⟨fun z => absurd z (by decide), fun z => by omega⟩
  · rw [if_neg h]
    have h' : ¬ y.toInt < x.toInt := fun z => h (Int64.lt_iff_toInt_lt.mpr z)
    by_cases q : x = y
    · rw [if_pos q, q]
      exact ⟨fun z => absurd z (by decide), fun z => by omega⟩
    · rw [if_neg q]
      have q' : x.toInt ≠ y.toInt := fun z => q (Int64.toInt_inj.mp z)
      exact ⟨fun _ => by omega, fun _ => by decide⟩
theorem cmp_gt (x y : Int64) : 0 < lg_cmp x y ↔ y.toInt < x.toInt := by
  unfold lg_cmp
  by_cases h : x > y
  · rw [if_pos h]
    exact ⟨fun _ => Int64.lt_iff_toInt_lt.mp h, fun _ => by decide⟩
  · rw [if_neg h]
    have h' : ¬ y.toInt < x.toInt := fun z => h (Int64.lt_iff_toInt_lt.mpr z)
    by_cases q : x = y
    · rw [if_pos q]
      exact ⟨fun z => absurd z (by decide), fun z => absurd z h'⟩
    · rw [if_neg q]
      exact ⟨fun z => absurd z (by decide), fun z => absurd z h'⟩
theorem cmp_eq (x y : Int64) : lg_cmp x y = 0 ↔ x.toInt = y.toInt := by
  unfold lg_cmp
  by_cases h : x > y
  · rw [if_pos h]
    have := Int64.lt_iff_toInt_lt.mp h
    exact ⟨fun z => absurd z (by decide), fun z => by omega⟩
  · rw [if_neg h]
    by_cases q : x = y
    · rw [if_pos q, q]
      exact ⟨fun _ => rfl, fun _ => rfl⟩
    · rw [if_neg q]
      exact ⟨fun z => absurd z (by decide), fun z => absurd (Int64.toInt_inj.mp z) q⟩
theorem magL_0 (t : TS) (i : Nat) : ∀ (k c : Nat), magL t i k c 0 = 0
  | 0, _ => rfl
  | k + 1, c => by
    unfold magL
    have : agV 0 t i (40 * i + c) = 0 := by unfold agV; rw [if_pos rfl]
    rw [this]
    exact magL_0 t i k (c + 1)
theorem magL_1 {s tt : TS} {i n : Nat} {W : Nat → Int32} (h : ∀ c, c < n → agV 1 tt i (40 * i + c) = if s.2 7 c = 0 ∧ (W (s.2 4 c).toNatClampNeg - W (s.2 3 c).toNatClampNeg < s.2 5 c ∨ s.2 6 c < W (s.2 4 c).toNatClampNeg - W (s.2 3 c).toNatClampNeg) then 0 else 1) : ∀ (k c : Nat), c + k = n → magL tt i k c 1 = agL s W k c
  | 0, _, _ => rfl
  | k + 1, c, hc => by
    unfold magL agL
    rw [h c (by omega)]
    by_cases q : s.2 7 c = 0 ∧ (W (s.2 4 c).toNatClampNeg - W (s.2 3 c).toNatClampNeg < s.2 5 c ∨ s.2 6 c < W (s.2 4 c).toNatClampNeg - W (s.2 3 c).toNatClampNeg)
    · rw [if_pos q, if_pos q]
      exact magL_0 tt i k (c + 1)
    · rw [if_neg q, if_neg q]
      exact magL_1 h k (c + 1) (by omega)
theorem agree_eq {u t : TS} {i : Nat} (h : R1 u t i) : (agreeF u).1 = magF t i := by
  obtain ⟨s1, s2, s3, s4, s5⟩ := h.settle
  obtain ⟨c1, c2, c3⟩ := closF_MI h.gM h.2.2
  have hst := (both h).1
  have hB : ∀ v, v < 64 → 0 ≤ ((settleF u).2 8 v).toInt ∧ ((settleF u).2 8 v).toInt ≤ 100000 := s1.2.1.1.2.2.2
  have e8 : (closF t i).2 8 = t.2 8 := c1.1 8 (by decide) (by decide)
  have hf : ∀ v, v < 64 → (settleF u).2 8 v = (closF t i).2 8 (64 * i + v) := fun v hv => by rw [e8]; exact s1.1.2.2 v hv
  have hr := s1.2.1.1.1.2.1
  have e0 : (closF t i).2 0 i = (settleF u).1 0 := by rw [c1.1 0 (by decide) (by decide)]; exact s1.1.1.1.symm
  have hW : ∀ j, j ≤ 64 → (agW (settleF u) 64 j).toInt = sumZ ((settleF u).2 8) 0 j := fun j hj => by
    unfold agW
    rw [if_pos hj]
    exact sumF_Z hB j hj
  have hT : (sumT ((closF t i).2 8) (64 * i) 64).toInt = sumZ ((settleF u).2 8) 0 64 := sumT_Z hB hf 0 64 (by omega)
  have hb64 := sumZ_b hB 0 64 (by omega)
  have hc : (agW (settleF u) 64 64 = (settleF u).1 0) ↔ lg_cmp (sumT ((closF t i).2 8) (64 * i) 64) ((closF t i).2 0 i).toInt64 = 0 := by
    rw [cmp_eq, hT, fb_l, e0, ← hW 64 (by omega)]
    exact Int32.toInt_inj.symm
  unfold agreeF magF
  show (if agW (settleF u) 64 64 = (settleF u).1 0 then agL (settleF u) (agW (settleF u) 64) (u.1 1).toNatClampNeg 0 else 0) = _
  by_cases q : agW (settleF u) 64 64 = (settleF u).1 0
  · rw [if_pos q, if_pos (hc.mp q), ← h.1.1.2.1]
    have hq : sumZ ((settleF u).2 8) 0 64 = ((settleF u).1 0).toInt := by rw [← hW 64 (by omega), q]
    refine (magL_1 (n := (u.1 1).toNatClampNeg) (fun c hcn => ?_) _ 0 (by omega)).symm
    have hcn' : c < nT (settleF u) := by rw [s3]; exact hcn
    obtain ⟨k3, k4, k5, k6⟩ := s1.1.2.1 c hcn'
    have hab := (s1.2.1.1.2.2.1 c hcn').2
    have ha := s1.2.1.1.1.a hcn'
    have hb := s1.2.1.1.1.b hcn'
    have e7 : (closF t i).2 7 (40 * i + c) = (settleF u).2 7 c := hst c hcn
    unfold agV
    rw [if_neg (show ¬ (1 : Int32) = 0 by decide), e7, c1.1 3 (by decide) (by decide), c1.1 4 (by decide) (by decide), c1.1 5 (by decide) (by decide), c1.1 6 (by decide) (by decide), ← k3, ← k4, ← k5, ← k6]
    show (if ¬ (settleF u).2 7 c = 0 then (1 : Int32) else if lg_cmp (sumT ((closF t i).2 8) (64 * i + aT (settleF u) c) (bT (settleF u) c - aT (settleF u) c)) ((settleF u).2 5 c).toInt64 < 0 then 0 else if (settleF u).2 6 c = 1000001 then 1 else if 0 < lg_cmp (sumT ((closF t i).2 8) (64 * i + aT (settleF u) c) (bT (settleF u) c - aT (settleF u) c)) ((settleF u).2 6 c).toInt64 then 0 else 1) = if (settleF u).2 7 c = 0 ∧ (agW (settleF u) 64 (bT (settleF u) c) - agW (settleF u) 64 (aT (settleF u) c) < (settleF u).2 5 c ∨ (settleF u).2 6 c < agW (settleF u) 64 (bT (settleF u) c) - agW (settleF u) 64 (aT (settleF u) c)) then 0 else 1
    have hS : (sumT ((closF t i).2 8) (64 * i + aT (settleF u) c) (bT (settleF u) c - aT (settleF u) c)).toInt = sumZ ((settleF u).2 8) (aT (settleF u) c) (bT (settleF u) c - aT (settleF u) c) := sumT_Z hB hf _ _ (by omega)
    have d1 := sumZ_add ((settleF u).2 8) 0 (aT (settleF u) c) (bT (settleF u) c - aT (settleF u) c)
    have d2 := sumZ_add ((settleF u).2 8) 0 (bT (settleF u) c) (64 - bT (settleF u) c)
    rw [show aT (settleF u) c + (bT (settleF u) c - aT (settleF u) c) = bT (settleF u) c by omega, Nat.zero_add] at d1
    rw [show bT (settleF u) c + (64 - bT (settleF u) c) = 64 by omega, Nat.zero_add] at d2
    have f1 := sumZ_b hB 0 (aT (settleF u) c) (by omega)
    have f2 := sumZ_b hB (bT (settleF u) c) (64 - bT (settleF u) c) (by omega)
    have f3 := sumZ_b hB (aT (settleF u) c) (bT (settleF u) c - aT (settleF u) c) (by omega)
    have w1 := hW (aT (settleF u) c) ha
    have w2 := hW (bT (settleF u) c) hb
    have hD : (agW (settleF u) 64 (bT (settleF u) c) - agW (settleF u) 64 (aT (settleF u) c)).toInt = sumZ ((settleF u).2 8) (aT (settleF u) c) (bT (settleF u) c - aT (settleF u) c) := by
      rw [fb_subI (by omega) (by omega), w1, w2]
      omega
    generalize agW (settleF u) 64 (bT (settleF u) c) - agW (settleF u) 64 (aT (settleF u) c) = X at hD ⊢
    generalize sumT ((closF t i).2 8) (64 * i + aT (settleF u) c) (bT (settleF u) c - aT (settleF u) c) = Y at hS ⊢
    have hXY : Y.toInt = X.toInt := by rw [hS, hD]
    have hX6 : X.toInt ≤ 1000000 := by omega
    have g1 : lg_cmp Y ((settleF u).2 5 c).toInt64 < 0 ↔ X < (settleF u).2 5 c := by rw [cmp_lt, fb_l, lt_iff, hXY]
    have g2 : 0 < lg_cmp Y ((settleF u).2 6 c).toInt64 ↔ (settleF u).2 6 c < X := by rw [cmp_gt, fb_l, lt_iff, hXY]
    by_cases p7 : (settleF u).2 7 c = 0
    · rw [if_neg (fun z => z p7)]
      by_cases p5 : X < (settleF u).2 5 c
      · rw [if_pos (g1.mpr p5), if_pos ⟨p7, Or.inl p5⟩]
      · rw [if_neg (fun z => p5 (g1.mp z))]
        by_cases p6 : (settleF u).2 6 c = 1000001
        · rw [if_pos p6, if_neg]
          rintro ⟨_, z | z⟩
          · exact p5 z
          · rw [lt_iff, p6] at z
            have e : (1000001 : Int32).toInt = 1000001 := rfl
            omega
        · rw [if_neg p6]
          by_cases p8 : (settleF u).2 6 c < X
          · rw [if_pos (g2.mpr p8), if_pos ⟨p7, Or.inr p8⟩]
          · rw [if_neg (fun z => p8 (g2.mp z)), if_neg]
            rintro ⟨_, z | z⟩
            · exact p5 z
            · exact p8 z
    · rw [if_pos p7, if_neg (fun z => p7 z.1)]
  · rw [if_neg q, if_neg (fun z => q (hc.mpr z))]
    exact (magL_0 _ _ _ _).symm
theorem ok_agrees {T : Nat → TS} {t : TS} (h : Rel T t) (tb : Int32) : Ok (xAgrees T tb) (mAgrees t tb) := by
  unfold xAgrees mAgrees
  by_cases c : isInF tb 0 2 = 0
  · rw [if_pos c, if_pos c]; exact ⟨rfl, h⟩
  · rw [if_neg c, if_neg c]
    obtain ⟨i, hi, rfl⟩ := isTb c
    rw [nI_clamp (show i < 2 ^ 31 by omega)]
    refine ⟨?_, (h.clos hi).1.tab (((h.clos hi).1 i hi).settle.1.w11 _)⟩
    show (if (agreeF (T i)).1 = 0 then (0 : Int32) else 1) = if magF t i = 0 then 0 else 1
    rw [agree_eq (h i hi)]
