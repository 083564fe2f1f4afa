/-! the reference's row far: binds keeps the closure -/
def bTv (f : Nat → Int32) (a b : Nat) (by_ : Int32) (p q : Nat) : Int32 := if f (65 * p + a) + by_ + f (65 * b + q) < f (65 * p + q) then f (65 * p + a) + by_ + f (65 * b + q) else f (65 * p + q)
theorem bindsJ_spec (b i : Nat) (bef : Int32) : ∀ (k j : Nat) (f : Nat → Int32), j + k = 65 → ∀ p q, q ≤ 64 → bindsJ b i bef k j f (65 * p + q) = if p = i ∧ j ≤ q then (if bef + f (65 * b + q) < f (65 * i + q) then bef + f (65 * b + q) else f (65 * i + q)) else f (65 * p + q)
  | 0, j, f, hj, p, q, hq => by
    rw [if_neg (by omega)]
    rfl
  | k + 1, j, f, hj, p, q, hq => by
    unfold bindsJ
    rw [bindsJ_spec b i bef k (j + 1) _ (by omega) p q hq]
    by_cases h1 : p = i ∧ j + 1 ≤ q
    · rw [if_pos h1, if_pos (show p = i ∧ j ≤ q from ⟨h1.1, by omega⟩), pk_un (show 65 * b + q ≠ 65 * i + j by omega), pk_un (show 65 * i + q ≠ 65 * i + j by omega)]
    · rw [if_neg h1]
      by_cases h2 : p = i ∧ j ≤ q
      · rw [if_pos h2]
        have e : q = j := by omega
        rw [h2.1, e, pk_us]
      · rw [if_neg h2, pk_un (by omega)]
theorem bindsI_spec (a b : Nat) (ha : a ≤ 64) (by_ : Int32) : ∀ (k i : Nat) (f : Nat → Int32), i + k = 65 → (∀ q, q ≤ 64 → bTv f a b by_ b q = f (65 * b + q)) → ∀ p q, p ≤ 64 → q ≤ 64 → bindsI a b by_ k i f (65 * p + q) = if i ≤ p then bTv f a b by_ p q else f (65 * p + q)
  | 0, i, f, hi, hs, p, q, hp, hq => by
    rw [if_neg (by omega)]
    rfl
  | k + 1, i, f, hi, hs, p, q, hp, hq => by
    have key : ∀ p q, q ≤ 64 → bindsJ b i (f (65 * i + a) + by_) 65 0 f (65 * p + q) = if p = i then bTv f a b by_ i q else f (65 * p + q) := by
      intro p q hq
      rw [bindsJ_spec b i _ 65 0 f (by omega) p q hq]
      by_cases h : p = i
      · rw [if_pos ⟨h, by omega⟩, if_pos h]; rfl
      · rw [if_neg (fun z => h z.1), if_neg h]
    have hb : ∀ q, q ≤ 64 → bindsJ b i (f (65 * i + a) + by_) 65 0 f (65 * b + q) = f (65 * b + q) := by
      intro q hq
      rw [key b q hq]
      by_cases h : b = i
      · rw [if_pos h, ← h]; exact hs q hq
      · rw [if_neg h]
    have hT : ∀ p q, q ≤ 64 → p ≠ i → bTv (bindsJ b i (f (65 * i + a) + by_) 65 0 f) a b by_ p q = bTv f a b by_ p q := by
      intro p q hq hpi
      unfold bTv
      rw [hb q hq, key p a ha, if_neg hpi, key p q hq, if_neg hpi]
    unfold bindsI
    rw [bindsI_spec a b ha by_ k (i + 1) _ (by omega) (fun q hq => ?_) p q hp hq]
    · by_cases h1 : i + 1 ≤ p
      · rw [if_pos h1, if_pos (by omega), hT p q hq (by omega)]
      · rw [if_neg h1, key p q hq]
        by_cases h2 : p = i
        · rw [if_pos h2, if_pos (by omega), h2]
        · rw [if_neg h2, if_neg (by omega)]
    · rw [hb q hq]
      by_cases h : b = i
      · have e1 := hs q hq
        unfold bTv at e1 ⊢
        rw [hb q hq, hb a ha]
        exact e1
      · rw [hT b q hq h]
        exact hs q hq
def far2 (f : Nat → Int32) (p q : Nat) : Int := ii f (65 * p + q)
theorem bindsF_cl {E : Nat → Nat → Int → Prop} {f : Nat → Int32} (hC : Cl E (far2 f)) (hbd : ∀ p q, p ≤ 64 → q ≤ 64 → -1000000 ≤ far2 f p q ∧ far2 f p q ≤ 1000000) {a b : Nat} (ha : a ≤ 64) (hb : b ≤ 64) {y : Int32} (hyb : -2000000 ≤ y.toInt ∧ y.toInt ≤ 2000000) (hy : 0 ≤ y.toInt + far2 f b a) : Cl (fun u v w => E u v w ∨ (u = b ∧ v = a ∧ w = - y.toInt)) (far2 (bindsF f a b y)) ∧ ∀ p q, p ≤ 64 → q ≤ 64 → far2 (bindsF f a b y) p q = bd (far2 f) a b y.toInt p q := by
  have hsum : ∀ p q, p ≤ 64 → q ≤ 64 → (f (65 * p + a) + y + f (65 * b + q)).toInt = far2 f p a + y.toInt + far2 f b q := by
    intro p q hp hq
    have b1 := hbd p a hp ha
    have b2 := hbd b q hb hq
    have e1 : (f (65 * p + a) + y).toInt = far2 f p a + y.toInt := fb_addI (by show -2147483648 ≤ far2 f p a + _; omega) (by show far2 f p a + _ < 2147483648; omega)
    rw [fb_addI (by rw [e1]; show -2147483648 ≤ _ + far2 f b q; omega) (by rw [e1]; show _ + far2 f b q < 2147483648; omega), e1]
    rfl
  have hT : ∀ p q, p ≤ 64 → q ≤ 64 → (bTv f a b y p q).toInt = bd (far2 f) a b y.toInt p q := by
    intro p q hp hq
    have e := hsum p q hp hq
    unfold bTv bd
    by_cases h : f (65 * p + a) + y + f (65 * b + q) < f (65 * p + q)
    · rw [if_pos h, e]
      have := (lt_iff _ _).mp h
      rw [e] at this
      have t2 : far2 f p a + y.toInt + far2 f b q < far2 f p q := this
      omega
    · rw [if_neg h]
      have : ¬ (f (65 * p + a) + y + f (65 * b + q)).toInt < (f (65 * p + q)).toInt := fun z => h ((lt_iff _ _).mpr z)
      rw [e] at this
      have t2 : ¬ far2 f p a + y.toInt + far2 f b q < far2 f p q := this
      show far2 f p q = _
      omega
  have hval : ∀ p q, p ≤ 64 → q ≤ 64 → far2 (bindsF f a b y) p q = bd (far2 f) a b y.toInt p q := by
    intro p q hp hq
    unfold bindsF
    by_cases h : y < f (65 * a + b)
    · rw [if_pos h]
      show (bindsI a b y 65 0 f (65 * p + q)).toInt = _
      rw [bindsI_spec a b ha y 65 0 f (by omega) (fun q hq => ?_) p q hp hq, if_pos (by omega)]
      · exact hT p q hp hq
      · unfold bTv
        rw [if_neg]
        rw [lt_iff, hsum b q hb hq]
        show ¬ _ < far2 f b q
        omega
    · rw [if_neg h]
      have h2 : ¬ y.toInt < far2 f a b := fun z => h ((lt_iff _ _).mpr z)
      have t1 := hC.2.1 p a q hp ha hq
      have t2 := hC.2.1 a b q ha hb hq
      show far2 f p q = bd (far2 f) a b y.toInt p q
      unfold bd
      omega
  exact ⟨(hC.bind ha hb hy).ext hval, hval⟩
