/-! climbing and sinking over ints: what a pass does -/
theorem fb_rng (x : Int32) : -2147483648 ≤ x.toInt ∧ x.toInt < 2147483648 := by
  have h1 := Int32.le_toInt x
  have h2 := Int32.toInt_lt x
  omega
theorem fb_bmod {z : Int} (h1 : -2147483648 ≤ z) (h2 : z < 2147483648) : z.bmod (2 ^ 32) = z := by
  rw [Int.bmod_eq_of_le (by omega) (by omega)]
theorem fb_addI {x y : Int32} (h1 : -2147483648 ≤ x.toInt + y.toInt) (h2 : x.toInt + y.toInt < 2147483648) : (x + y).toInt = x.toInt + y.toInt := by
  rw [Int32.toInt_add, fb_bmod h1 h2]
theorem fb_subI {x y : Int32} (h1 : -2147483648 ≤ x.toInt - y.toInt) (h2 : x.toInt - y.toInt < 2147483648) : (x - y).toInt = x.toInt - y.toInt := by
  rw [Int32.toInt_sub, fb_bmod h1 h2]
theorem fb_negI {x : Int32} (h : x.toInt ≠ -2147483648) : (-x).toInt = -x.toInt := by
  have := fb_rng x
  rw [Int32.toInt_neg, fb_bmod (by omega) (by omega)]
def ii (g : Nat → Int32) : Nat → Int := fun j => (g j).toInt
def mono (g : Nat → Int) : Prop := ∀ j, j < 64 → g j ≤ g (j + 1)
theorem mono_le {g : Nat → Int} (h : mono g) : ∀ (k i : Nat), i + k ≤ 64 → g i ≤ g (i + k)
  | 0, _, _ => Int.le_refl _
  | k + 1, i, hk => Int.le_trans (mono_le h k i (by omega)) (h (i + k) (by omega))
theorem mono_le2 {g : Nat → Int} (h : mono g) {i j : Nat} (hij : i ≤ j) (hj : j ≤ 64) : g i ≤ g j := by
  have := mono_le h (j - i) i (by omega)
  rwa [show i + (j - i) = j by omega] at this
theorem lt_iff (x y : Int32) : x < y ↔ x.toInt < y.toInt := Int32.lt_iff_toInt_lt
theorem le_iff (x y : Int32) : x ≤ y ↔ x.toInt ≤ y.toInt := Int32.le_iff_toInt_le
theorem raiseF_char (h : Int32) : ∀ (k i : Nat) (g : Nat → Int32) (c : Int32), i + k = 65 → (∀ j, i ≤ j → j < 64 → ii g j ≤ ii g (j + 1)) →
    (∀ j, j ≤ 64 → ii (raiseF h k i g c).1 j = if i ≤ j then max (ii g j) h.toInt else ii g j) ∧ ((k = 0 ∨ ¬ ii g i < h.toInt) → (raiseF h k i g c).2 = c) ∧ (¬ (k = 0 ∨ ¬ ii g i < h.toInt) → (raiseF h k i g c).2 = 1)
  | 0, i, g, c, hk, hm => by
    refine ⟨fun j hj => ?_, fun _ => rfl, fun q => absurd (Or.inl rfl) q⟩
    rw [if_neg (by omega)]
    rfl
  | k + 1, i, g, c, hk, hm => by
    by_cases hlt : g i < h
    · have ih := raiseF_char h k (i + 1) (upd g i h) 1 (by omega) (fun j h1 h2 => by
        show (upd g i h j).toInt ≤ (upd g i h (j + 1)).toInt
        rw [pk_un (by omega), pk_un (by omega)]
        exact hm j (by omega) h2)
      have e : raiseF h (k + 1) i g c = raiseF h k (i + 1) (upd g i h) 1 := by rw [raiseF, if_pos hlt]
      have hlt2 : (g i).toInt < h.toInt := (lt_iff _ _).mp hlt
      rw [e]
      refine ⟨fun j hj => ?_, fun q => ?_, fun _ => ?_⟩
      · rw [ih.1 j hj]
        by_cases hij : j = i
        · subst hij
          rw [if_neg (by omega), if_pos (Nat.le_refl _)]
          show (upd g j h j).toInt = max (g j).toInt h.toInt
          rw [pk_us]
          omega
        · have : ii (upd g i h) j = ii g j := by show (upd g i h j).toInt = _; rw [pk_un hij]; rfl
          rw [this]
          by_cases h3 : i ≤ j
          · rw [if_pos h3, if_pos (by omega)]
          · rw [if_neg h3, if_neg (by omega)]
      · exact absurd q (fun q => q.elim (by omega) (fun q => q hlt2))
      · by_cases h4 : k = 0 ∨ ¬ ii (upd g i h) (i + 1) < h.toInt
        · exact ih.2.1 h4
        · exact ih.2.2 h4
    · have e : raiseF h (k + 1) i g c = (g, c) := by rw [raiseF, if_neg hlt]
      have hlt2 : ¬ (g i).toInt < h.toInt := fun q => hlt ((lt_iff _ _).mpr q)
      rw [e]
      refine ⟨fun j hj => ?_, fun _ => rfl, fun q => absurd (Or.inr hlt2) q⟩
      by_cases h3 : i ≤ j
      · rw [if_pos h3]
        have hmj : ∀ q, i + q ≤ 64 → ii g i ≤ ii g (i + q) := by
          intro q
          induction q with
          | zero => intro _; exact Int.le_refl _
          | succ q ihq => intro hq; exact Int.le_trans (ihq (by omega)) (hm (i + q) (by omega) (by omega))
        have h5 := hmj (j - i) (by omega)
        rw [show i + (j - i) = j by omega] at h5
        show ii g j = max (ii g j) h.toInt
        have h6 : ¬ ii g i < h.toInt := hlt2
        omega
      · rw [if_neg h3]
theorem raiseAt_char {g : Nat → Int32} (hm : mono (ii g)) {i : Nat} (hi : i ≤ 64) (h : Int32) : (∀ j, j ≤ 64 → ii (raiseAt g i h).1 j = if i ≤ j then max (ii g j) h.toInt else ii g j) ∧ ((raiseAt g i h).2 = 0 → ¬ ii g i < h.toInt) ∧ mono (ii (raiseAt g i h).1) := by
  obtain ⟨h1, h2, h3⟩ := raiseF_char h (65 - i) i g 0 (by omega) (fun j _ hj => hm j hj)
  refine ⟨h1, fun e => ?_, fun j hj => ?_⟩
  · intro q
    have := h3 (fun z => z.elim (by omega) (fun z => z q))
    unfold raiseAt at e
    rw [e] at this
    exact absurd this (by decide)
  · have a := h1 j (by omega)
    have b := h1 (j + 1) (by omega)
    have c := hm j hj
    unfold raiseAt
    rw [a, b]
    split <;> split <;> omega
theorem lowerF_one (h : Int32) : ∀ (i : Nat) (g : Nat → Int32), (lowerF h i g 1).2 = 1
  | 0, _ => rfl
  | i + 1, g => by
    unfold lowerF
    split
    · exact lowerF_one h i _
    · rfl
theorem lowerF_char (h : Int32) : ∀ (i : Nat) (g : Nat → Int32) (c : Int32), i ≤ 65 → (∀ j, j + 1 < i → ii g j ≤ ii g (j + 1)) →
    (∀ j, j ≤ 64 → ii (lowerF h i g c).1 j = if j < i then min (ii g j) h.toInt else ii g j) ∧ (∀ q, i = q + 1 → h.toInt < ii g q → (lowerF h i g c).2 = 1)
  | 0, g, c, hk, hm => ⟨fun j hj => by rw [if_neg (by omega)]; rfl, fun q e => by omega⟩
  | i + 1, g, c, hk, hm => by
    by_cases hlt : h < g i
    · have ih := lowerF_char h i (upd g i h) 1 (by omega) (fun j h1 => by
        show (upd g i h j).toInt ≤ (upd g i h (j + 1)).toInt
        rw [pk_un (by omega), pk_un (by omega)]
        exact hm j (by omega))
      have e : lowerF h (i + 1) g c = lowerF h i (upd g i h) 1 := by rw [lowerF, if_pos hlt]
      have hlt2 : h.toInt < (g i).toInt := (lt_iff _ _).mp hlt
      rw [e]
      refine ⟨fun j hj => ?_, fun q e1 e2 => ?_⟩
      · rw [ih.1 j hj]
        by_cases hij : j = i
        · subst hij
          rw [if_neg (by omega), if_pos (by omega)]
          show (upd g j h j).toInt = min (g j).toInt h.toInt
          rw [pk_us]
          omega
        · have : ii (upd g i h) j = ii g j := by show (upd g i h j).toInt = _; rw [pk_un hij]; rfl
          rw [this]
          by_cases h3 : j < i
          · rw [if_pos h3, if_pos (by omega)]
          · rw [if_neg h3, if_neg (by omega)]
      · exact lowerF_one h i _
    · have e : lowerF h (i + 1) g c = (g, c) := by rw [lowerF, if_neg hlt]
      have hlt2 : ¬ h.toInt < (g i).toInt := fun q => hlt ((lt_iff _ _).mpr q)
      rw [e]
      refine ⟨fun j hj => ?_, fun q e1 e2 => ?_⟩
      · by_cases h3 : j < i + 1
        · rw [if_pos h3]
          have hmj : ∀ q, j + q ≤ i → ii g j ≤ ii g (j + q) := by
            intro q
            induction q with
            | zero => intro _; exact Int.le_refl _
            | succ q ihq => intro hq; exact Int.le_trans (ihq (by omega)) (hm (j + q) (by omega))
          have h5 := hmj (i - j) (by omega)
          rw [show j + (i - j) = i by omega] at h5
          show ii g j = min (ii g j) h.toInt
          have h6 : ¬ h.toInt < ii g i := hlt2
          omega
        · rw [if_neg h3]
      · have : q = i := by omega
        subst this
        exact absurd e2 hlt2
theorem lowerAt_char {g : Nat → Int32} (hm : mono (ii g)) {i : Nat} (hi : i ≤ 64) (h : Int32) : (∀ j, j ≤ 64 → ii (lowerAt g i h).1 j = if j ≤ i then min (ii g j) h.toInt else ii g j) ∧ ((lowerAt g i h).2 = 0 → ¬ h.toInt < ii g i) ∧ mono (ii (lowerAt g i h).1) := by
  obtain ⟨h1, h2⟩ := lowerF_char h (i + 1) g 0 (by omega) (fun j hj => hm j (by omega))
  have h3 : ∀ j, j ≤ 64 → ii (lowerAt g i h).1 j = if j ≤ i then min (ii g j) h.toInt else ii g j := by
    intro j hj
    unfold lowerAt
    rw [h1 j hj]
    by_cases q : j ≤ i
    · rw [if_pos q, if_pos (by omega)]
    · rw [if_neg q, if_neg (by omega)]
  refine ⟨h3, fun e q => ?_, fun j hj => ?_⟩
  · have := h2 i rfl q
    unfold lowerAt at e
    rw [e] at this
    exact absurd this (by decide)
  · have a := h3 j (by omega)
    have b := h3 (j + 1) (by omega)
    have c := hm j hj
    rw [a, b]
    split <;> split <;> omega
