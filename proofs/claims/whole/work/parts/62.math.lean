/-! guesses: the reference's give the same -/
theorem gsJ_loop {f g : Nat → Int32} {lo v : Nat} {d : Nat → Nat → Int} {Gc : Nat → Int32} (hv : v < 64) (hf : ∀ p q, p ≤ 64 → q ≤ 64 → far2 f p q = d p q) (hd : ∀ p q, p ≤ 64 → q ≤ 64 → -1000000 ≤ d p q ∧ d p q ≤ 1000000) (hG : ∀ j, j ≤ 64 → 0 ≤ ii Gc j ∧ ii Gc j ≤ 1000000) (hg : ∀ i, i ≤ v → g (lo + i) = Gc i) : ∀ (k j : Nat) (p : Int32 × Int32), j + k = v → p.1.toInt = mx (fun i => ii Gc i - d (v + 1) i) j → p.2.toInt = mn (fun i => ii Gc i + d i (v + 1)) j →
    (gsJ f g lo v k (j + 1) p).1.toInt = mx (fun i => ii Gc i - d (v + 1) i) v ∧ (gsJ f g lo v k (j + 1) p).2.toInt = mn (fun i => ii Gc i + d i (v + 1)) v
  | 0, j, p, hj, h1, h2 => by
    have : j = v := by omega
    subst this
    exact ⟨h1, h2⟩
  | k + 1, j, p, hj, h1, h2 => by
    unfold gsJ
    have b1 := hG (j + 1) (by omega)
    have b2 := hd (v + 1) (j + 1) (by omega) (by omega)
    have b3 := hd (j + 1) (v + 1) (by omega) (by omega)
    have e1 : (f (65 * (v + 1) + (j + 1))).toInt = d (v + 1) (j + 1) := hf (v + 1) (j + 1) (by omega) (by omega)
    have e2 : (f (65 * (j + 1) + (v + 1))).toInt = d (j + 1) (v + 1) := hf (j + 1) (v + 1) (by omega) (by omega)
    have e3 : (g (lo + (j + 1))).toInt = ii Gc (j + 1) := by rw [hg (j + 1) (by omega)]; rfl
    have s1 : (g (lo + (j + 1)) - f (65 * (v + 1) + (j + 1))).toInt = ii Gc (j + 1) - d (v + 1) (j + 1) := by
      rw [fb_subI (by omega) (by omega), e1, e3]
    have s2 : (g (lo + (j + 1)) + f (65 * (j + 1) + (v + 1))).toInt = ii Gc (j + 1) + d (j + 1) (v + 1) := by
      rw [fb_addI (by omega) (by omega), e2, e3]
    refine gsJ_loop hv hf hd hG hg k (j + 1) _ (by omega) ?_ ?_
    · rw [mx_s, ← h1]
      show (if p.1 < g (lo + (j + 1)) - f (65 * (v + 1) + (j + 1)) then g (lo + (j + 1)) - f (65 * (v + 1) + (j + 1)) else p.1).toInt = max p.1.toInt (ii Gc (j + 1) - d (v + 1) (j + 1))
      by_cases q : p.1 < g (lo + (j + 1)) - f (65 * (v + 1) + (j + 1))
      · rw [if_pos q, s1]; rw [lt_iff, s1] at q; omega
      · rw [if_neg q]; rw [lt_iff, s1] at q; omega
    · rw [mn_s, ← h2]
      show (if g (lo + (j + 1)) + f (65 * (j + 1) + (v + 1)) < p.2 then g (lo + (j + 1)) + f (65 * (j + 1) + (v + 1)) else p.2).toInt = min p.2.toInt (ii Gc (j + 1) + d (j + 1) (v + 1))
      by_cases q : g (lo + (j + 1)) + f (65 * (j + 1) + (v + 1)) < p.2
      · rw [if_pos q, s2]; rw [lt_iff, s2] at q; omega
      · rw [if_neg q]; rw [lt_iff, s2] at q; omega
theorem gsV_spec {f g : Nat → Int32} {lo v : Nat} {d : Nat → Nat → Int} {Gc : Nat → Int32} {r : Int32} (hr : 0 ≤ r.toInt ∧ r.toInt ≤ 1000000) (hv : v < 64) (hf : ∀ p q, p ≤ 64 → q ≤ 64 → far2 f p q = d p q) (hd : ∀ p q, p ≤ 64 → q ≤ 64 → -r.toInt ≤ d p q ∧ d p q ≤ r.toInt) (hd0 : d (v + 1) 0 ≤ 0) (hG : ∀ j, j ≤ 64 → 0 ≤ ii Gc j ∧ ii Gc j ≤ 1000000) (hgd : Gd d r Gc 64) (hg : ∀ i, i ≤ v → g (lo + i) = Gc i) : gsV f g r lo v = Gc (v + 1) := by
  have hd' : ∀ p q, p ≤ 64 → q ≤ 64 → -1000000 ≤ d p q ∧ d p q ≤ 1000000 := fun p q hp hq => by have := hd p q hp hq; omega
  have g0 : ii Gc 0 = 0 := by unfold ii; rw [hgd.1]; rfl
  have b2 := hd (v + 1) 0 (by omega) (by omega)
  have b3 := hd 0 (v + 1) (by omega) (by omega)
  have e1 : (f (65 * (v + 1) + 0)).toInt = d (v + 1) 0 := hf (v + 1) 0 (by omega) (by omega)
  have e2 : (f (65 * 0 + (v + 1))).toInt = d 0 (v + 1) := hf 0 (v + 1) (by omega) (by omega)
  have e3 : (g (lo + 0)).toInt = 0 := by rw [hg 0 (by omega)]; exact g0
  have s1 : (g (lo + 0) - f (65 * (v + 1) + 0)).toInt = - d (v + 1) 0 := by
    rw [fb_subI (by omega) (by omega), e1, e3]; omega
  have s2 : (g (lo + 0) + f (65 * 0 + (v + 1))).toInt = d 0 (v + 1) := by
    rw [fb_addI (by omega) (by omega), e2, e3]; omega
  have z0 : (0 : Int32).toInt = 0 := rfl
  obtain ⟨h1, h2⟩ : (gsJ f g lo v (v + 1) 0 (0, r)).1.toInt = mx (fun i => ii Gc i - d (v + 1) i) v ∧ (gsJ f g lo v (v + 1) 0 (0, r)).2.toInt = mn (fun i => ii Gc i + d i (v + 1)) v := by
    unfold gsJ
    refine gsJ_loop hv hf hd' hG hg v 0 _ (by omega) ?_ ?_
    · show (if (0 : Int32) < g (lo + 0) - f (65 * (v + 1) + 0) then g (lo + 0) - f (65 * (v + 1) + 0) else 0).toInt = ii Gc 0 - d (v + 1) 0
      by_cases q : (0 : Int32) < g (lo + 0) - f (65 * (v + 1) + 0)
      · rw [if_pos q, s1]; omega
      · rw [if_neg q]; rw [lt_iff, s1] at q; omega
    · rw [mn_0]
      show (if g (lo + 0) + f (65 * 0 + (v + 1)) < r then g (lo + 0) + f (65 * 0 + (v + 1)) else r).toInt = ii Gc 0 + d 0 (v + 1)
      by_cases q : g (lo + 0) + f (65 * 0 + (v + 1)) < r
      · rw [if_pos q, s2]; omega
      · rw [if_neg q]; rw [lt_iff, s2] at q; omega
  refine Int32.toInt_inj.mp ?_
  rw [hgd.2 v hv]
  unfold gsV clampF gdV
  rw [← h1, ← h2, hg v (Nat.le_refl _)]
  generalize (gsJ f g lo v (v + 1) 0 (0, r)).1 = a
  generalize (gsJ f g lo v (v + 1) 0 (0, r)).2 = b
  generalize evenF r (Gc v) v = x
  by_cases q1 : x < b
  · rw [if_pos q1]
    rw [lt_iff] at q1
    by_cases q2 : a < x
    · rw [if_pos q2]; rw [lt_iff] at q2; omega
    · rw [if_neg q2]; rw [lt_iff] at q2; omega
  · rw [if_neg q1]
    rw [lt_iff] at q1
    by_cases q2 : a < b
    · rw [if_pos q2]; rw [lt_iff] at q2; omega
    · rw [if_neg q2]; rw [lt_iff] at q2; omega
theorem gsL_spec {f : Nat → Int32} {lo : Nat} {d : Nat → Nat → Int} {Gc : Nat → Int32} {r : Int32} (hr : 0 ≤ r.toInt ∧ r.toInt ≤ 1000000) (hf : ∀ p q, p ≤ 64 → q ≤ 64 → far2 f p q = d p q) (hd : ∀ p q, p ≤ 64 → q ≤ 64 → -r.toInt ≤ d p q ∧ d p q ≤ r.toInt) (hd0 : ∀ v, v < 64 → d (v + 1) 0 ≤ 0) (hG : ∀ j, j ≤ 64 → 0 ≤ ii Gc j ∧ ii Gc j ≤ 1000000) (hgd : Gd d r Gc 64) : ∀ (k v : Nat) (g : Nat → Int32), v + k = 64 → (∀ i, i ≤ v → g (lo + i) = Gc i) → (∀ j, j ≤ 64 → gsL f r lo k v g (lo + j) = Gc j) ∧ ∀ q, (q < lo ∨ lo + 64 < q) → gsL f r lo k v g q = g q
  | 0, v, g, hv, hg => ⟨fun j hj => hg j (by omega), fun _ _ => rfl⟩
  | k + 1, v, g, hv, hg => by
    unfold gsL
    have hV := gsV_spec hr (show v < 64 by omega) hf hd (hd0 v (by omega)) hG hgd hg
    obtain ⟨h1, h2⟩ := gsL_spec hr hf hd hd0 hG hgd k (v + 1) (upd g (lo + v + 1) (gsV f g r lo v)) (by omega) (fun i hi => by
      by_cases q : i = v + 1
      · subst q
        rw [show lo + (v + 1) = lo + v + 1 by omega, pk_us, hV]
      · rw [pk_un (by omega)]
        exact hg i (by omega))
    exact ⟨h1, fun q hq => by rw [h2 q hq, pk_un (by omega)]⟩
theorem gsL_out {f : Nat → Int32} {r : Int32} {lo : Nat} : ∀ (k v : Nat) (g : Nat → Int32), v + k = 64 → ∀ q, (q < lo ∨ lo + 64 < q) → gsL f r lo k v g q = g q
  | 0, _, _, _, _, _ => rfl
  | k + 1, v, g, hv, q, hq => by
    unfold gsL
    rw [gsL_out k (v + 1) _ (by omega) q hq, pk_un (by omega)]
