/-! the changes: both sides keep the same -/
theorem nI_m1 : ∀ j, j < 3 → ¬ (-1 : Int32) = nI j := by decide
theorem Rel.chg {T : Nat → TS} {t u' t' : TS} {i : Nat} (h : Rel T t) (hc : t'.1 10 = -1) (hr : ∀ j, j < 3 → j ≠ i → (∀ k, k ≤ 2 → t'.2 k j = t.2 k j) ∧ (∀ k, 3 ≤ k → k ≤ 6 → ∀ s, s < 40 → t'.2 k (40 * j + s) = t.2 k (40 * j + s)) ∧ ∀ v, v < 64 → t'.2 8 (64 * j + v) = t.2 8 (64 * j + v)) (hk : Rk u' t' i) (hb : Gb u') (h12 : u'.1 12 = 0) (h13 : u'.1 13 = 0) : Rel (uT T i u') t' := fun j hj => by
  have hm : t'.1 10 = nI j → MI t' j t' 0 := fun z => absurd (hc.symm.trans z) (nI_m1 j hj)
  by_cases q : j = i
  · rw [q, uT_s]
    exact ⟨hk, ⟨hb, fun z => absurd h12 z, fun z => absurd h13 z⟩, q ▸ hm⟩
  · rw [uT_n _ _ q]
    obtain ⟨r1, r2, r3⟩ := hr j hj q
    exact (h j hj).frM r1 r2 r3 hm
theorem ok_rows {T : Nat → TS} {t : TS} (h : Rel T t) (tb many : Int32) : Ok (xRows T tb many) (mRows t tb many) := by
  have z0 : (0 : Int32).toInt = 0 := rfl
  have zM : (1000000 : Int32).toInt = 1000000 := rfl
  have hc0 : isInF many 0 1000000 = 0 ↔ (many < 0 ∨ ¬ many ≤ 1000000) := by
    rw [isInF_iff, lt_iff, le_iff, z0, zM]; omega
  unfold xRows mRows
  have hc : (isInF tb 0 2 = 0 ∨ isInF many 0 1000000 = 0) ↔ (isInF tb 0 2 = 0 ∨ many < 0 ∨ ¬ many ≤ 1000000) := or_congr Iff.rfl hc0
  by_cases c : isInF tb 0 2 = 0 ∨ many < 0 ∨ ¬ many ≤ 1000000
  · rw [if_pos c, if_pos (hc.mpr c)]; exact ⟨rfl, h⟩
  · rw [if_neg c, if_neg (fun z => c (hc.mp z))]
    obtain ⟨i, hi, rfl⟩ := isTb (fun z => c (Or.inl z))
    rw [nI_clamp (show i < 2 ^ 31 by omega)]
    have hm : 0 ≤ many.toInt ∧ many.toInt ≤ 1000000 := by
      have c2 : ¬ (many < 0 ∨ ¬ many ≤ 1000000) := fun z => c (Or.inr z)
      rw [lt_iff, le_iff, z0, zM] at c2
      omega
    have hR := h i hi
    refine ⟨rfl, h.chg (by show upd t.1 10 (-1) 10 = -1; exact pk_us) (fun j hj hji => ⟨fun k hk => ?_, fun k h3 h6 s hs => ?_, fun v hv => rfl⟩) ⟨⟨?_, ?_, hR.1.1.2.2⟩, fun s hs => absurd hs (Nat.not_lt_zero s), hR.1.2.2⟩ ⟨⟨⟨show vp_in 0 41 from vp_in_nI (n := 0) (by decide) (by decide), fun s hs => absurd hs (Nat.not_lt_zero s)⟩, hm, fun s hs => absurd hs (Nat.not_lt_zero s)⟩, hR.2.1.1.2.1, fun s hs => absurd hs (Nat.not_lt_zero s), hR.2.1.1.2.2.2⟩ rfl rfl⟩
    · have : k = 0 ∨ k = 1 ∨ k = 2 := by omega
      rcases this with rfl | rfl | rfl
      · show upd (t.2 0) i many j = t.2 0 j
        exact pk_un hji
      · show upd (t.2 1) i 0 j = t.2 1 j
        exact pk_un hji
      · rfl
    · show ua (ua t.2 0 _) 1 _ k _ = _
      rw [ua_n _ _ (show k ≠ 1 by omega), ua_n _ _ (show k ≠ 0 by omega)]
    · show many = upd (t.2 0) i many i
      exact pk_us.symm
    · show (0 : Int32) = upd (t.2 1) i 0 i
      exact pk_us.symm
theorem ok_room {T : Nat → TS} {t : TS} (h : Rel T t) (tb many : Int32) : Ok (xRoom T tb many) (mRoom t tb many) := by
  have z1 : (1 : Int32).toInt = 1 := rfl
  have zM : (40 : Int32).toInt = 40 := rfl
  have hc0 : isInF many 1 40 = 0 ↔ (many < 1 ∨ ¬ many ≤ 40) := by
    rw [isInF_iff, lt_iff, le_iff, z1, zM]; omega
  unfold xRoom mRoom
  have hc : (isInF tb 0 2 = 0 ∨ isInF many 1 40 = 0) ↔ (isInF tb 0 2 = 0 ∨ many < 1 ∨ ¬ many ≤ 40) := or_congr Iff.rfl hc0
  by_cases c : isInF tb 0 2 = 0 ∨ many < 1 ∨ ¬ many ≤ 40
  · rw [if_pos c, if_pos (hc.mpr c)]; exact ⟨rfl, h⟩
  · rw [if_neg c, if_neg (fun z => c (hc.mp z))]
    obtain ⟨i, hi, rfl⟩ := isTb (fun z => c (Or.inl z))
    rw [nI_clamp (show i < 2 ^ 31 by omega)]
    have hm : vp_in many 41 := by
      have c2 : ¬ (many < 1 ∨ ¬ many ≤ 40) := fun z => c (Or.inr z)
      rw [lt_iff, le_iff, z1, zM] at c2
      rw [vp_in_iff]
      omega
    have hR := h i hi
    refine ⟨rfl, h.chg (by show upd t.1 10 (-1) 10 = -1; exact pk_us) (fun j hj hji => ⟨fun k hk => ?_, fun k h3 h6 s hs => ?_, fun v hv => rfl⟩) ⟨⟨hR.1.1.1, hR.1.1.2.1, ?_⟩, hR.1.2.1, hR.1.2.2⟩ ⟨hR.2.1.1.1, hm, hR.2.1.1.2.2.1, hR.2.1.1.2.2.2⟩ rfl rfl⟩
    · have : k = 0 ∨ k = 1 ∨ k = 2 := by omega
      rcases this with rfl | rfl | rfl
      · rfl
      · rfl
      · show upd (t.2 2) i many j = t.2 2 j
        exact pk_un hji
    · show ua t.2 2 _ k _ = _
      rw [ua_n _ _ (show k ≠ 2 by omega)]
    · show many = upd (t.2 2) i many i
      exact pk_us.symm
theorem ok_truth {T : Nat → TS} {t : TS} (h : Rel T t) (tb v many : Int32) : Ok (xTruth T tb v many) (mTruth t tb v many) := by
  have z0 : (0 : Int32).toInt = 0 := rfl
  have z3 : (63 : Int32).toInt = 63 := rfl
  have z4 : (64 : Int32).toInt = 64 := rfl
  have zM : (100000 : Int32).toInt = 100000 := rfl
  have hc : (isInF tb 0 2 = 0 ∨ isInF v 0 63 = 0 ∨ isInF many 0 100000 = 0) ↔ (isInF tb 0 2 = 0 ∨ v < 0 ∨ 64 ≤ v ∨ many < 0 ∨ ¬ many ≤ 100000) := by
    rw [isInF_iff v, isInF_iff many, lt_iff, le_iff, lt_iff, le_iff, z0, zM, z3, z4]
    constructor
    · rintro (z | z | z)
      · exact Or.inl z
      · exact Or.inr (by omega)
      · exact Or.inr (by omega)
    · rintro (z | z)
      · exact Or.inl z
      · exact Or.inr (by omega)
  unfold xTruth mTruth
  by_cases c : isInF tb 0 2 = 0 ∨ v < 0 ∨ 64 ≤ v ∨ many < 0 ∨ ¬ many ≤ 100000
  · rw [if_pos c, if_pos (hc.mpr c)]; exact ⟨rfl, h⟩
  · rw [if_neg c, if_neg (fun z => c (hc.mp z))]
    obtain ⟨i, hi, rfl⟩ := isTb (fun z => c (Or.inl z))
    obtain ⟨x, hx, rfl⟩ := isInF_nI 63 (by decide) (v := v) (fun z => c (hc.mp (Or.inr (Or.inl z))))
    rw [nI_clamp (show i < 2 ^ 31 by omega), nI_clamp (show x < 2 ^ 31 by omega)]
    have hm : 0 ≤ many.toInt ∧ many.toInt ≤ 100000 := by
      have c2 : ¬ (many < 0 ∨ ¬ many ≤ 100000) := fun z => c (Or.inr (Or.inr (Or.inr z)))
      rw [lt_iff, le_iff, z0, zM] at c2
      omega
    refine ⟨rfl, fun j hj => ?_⟩
    have hR := h j hj
    have hmi : t.1 10 = nI j → MI (t.1, ua t.2 8 (upd (t.2 8) (64 * i + x) many)) j (t.1, ua t.2 8 (upd (t.2 8) (64 * i + x) many)) 0 := fun z => MI_fr (t := t) (fun k h8 h11 => ua_n _ _ h8) (hR.2.2 z)
    show R1 (uT T i ((T i).1, ua (T i).2 8 (upd ((T i).2 8) x many)) j) (t.1, ua t.2 8 (upd (t.2 8) (64 * i + x) many)) j
    have k6 : ∀ (f : Nat → Nat → Int32) (g : Nat → Int32) (k : Nat), k ≤ 7 → ua f 8 g k = f k := fun f g k hk => ua_n _ _ (by omega)
    by_cases q : j = i
    · subst q
      rw [uT_s]
      refine ⟨⟨hR.1.1, hR.1.2.1, fun v hv => ?_⟩, ⟨⟨hR.2.1.1.1, hR.2.1.1.2.1, hR.2.1.1.2.2.1, fun v hv => ?_⟩, ?_⟩, hmi⟩
      · show upd ((T j).2 8) x many v = upd (t.2 8) (64 * j + x) many (64 * j + v)
        by_cases qv : v = x
        · rw [qv, pk_us, pk_us]
        · rw [pk_un qv, pk_un (by omega)]
          exact hR.1.2.2 v hv
      · show 0 ≤ (upd ((T j).2 8) x many v).toInt ∧ (upd ((T j).2 8) x many v).toInt ≤ 100000
        by_cases qv : v = x
        · rw [qv, pk_us]; exact hm
        · rw [pk_un qv]; exact hR.2.1.1.2.2.2 v hv
      · exact ⟨fun z => Settled.fr (u := T j) ⟨rfl, rfl, fun k h3 h7 => k6 _ _ k h7⟩ rfl (hR.2.1.2.1 z), hR.2.1.2.2⟩
    · rw [uT_n _ _ q]
      refine R1.frM (t := t) (fun k hk => ?_) (fun k h3 h6 s hs => ?_) (fun v hv => ?_) hmi hR
      · show ua t.2 8 _ k j = _
        rw [k6 _ _ k (by omega)]
      · show ua t.2 8 _ k _ = _
        rw [k6 _ _ k (by omega)]
      · show upd (t.2 8) (64 * i + x) many (64 * j + v) = _
        exact pk_un (by omega)
theorem growV_eq {x many : Int32} (h1 : 0 ≤ x.toInt ∧ x.toInt ≤ 1000001) (h2 : 1 ≤ many.toInt ∧ many.toInt ≤ 1000000) : growV x many = mgrowV x many ∧ 0 ≤ (growV x many).toInt ∧ (growV x many).toInt ≤ 1000001 ∧ ∀ y : Int, y ≤ 1000000 → y ≤ x.toInt → y ≤ (growV x many).toInt := by
  have e1 : (1000001 : Int32).toInt = 1000001 := rfl
  have e0 : (1000000 : Int32).toInt = 1000000 := rfl
  have es : (x + many).toInt = x.toInt + many.toInt := fb_addI (by omega) (by omega)
  unfold growV mgrowV
  by_cases q : x = 1000001
  · rw [if_pos q, if_pos q]
    exact ⟨rfl, by omega, by omega, fun y _ h => h⟩
  · rw [if_neg q, if_neg q]
    by_cases q2 : 1000000 < x + many
    · rw [if_pos q2]
      rw [lt_iff, es, e0] at q2
      rw [if_neg (by rw [lt_iff, es, e0]; omega)]
      exact ⟨rfl, by omega, by omega, fun y h _ => by omega⟩
    · rw [if_neg q2]
      rw [lt_iff, es, e0] at q2
      by_cases q3 : x + many < 1000000
      · rw [if_pos q3]
        exact ⟨rfl, by omega, by omega, fun y _ h => by omega⟩
      · rw [if_neg q3]
        rw [lt_iff, es, e0] at q3
        have e : x + many = 1000000 := Int32.toInt_inj.mp (by omega)
        rw [e]
        exact ⟨rfl, by omega, by omega, fun y h _ => by omega⟩
theorem shrV_eq {x many : Int32} (h1 : 0 ≤ x.toInt ∧ x.toInt ≤ 1000001) (h2 : 1 ≤ many.toInt ∧ many.toInt ≤ 1000000) : shrV x many = mshrV x many ∧ 0 ≤ (shrV x many).toInt ∧ (shrV x many).toInt ≤ x.toInt := by
  have e0 : (0 : Int32).toInt = 0 := rfl
  have es : (x - many).toInt = x.toInt - many.toInt := fb_subI (by omega) (by omega)
  unfold shrV mshrV
  by_cases q : x - many < 0
  · rw [if_pos q]
    rw [lt_iff, es, e0] at q
    rw [if_neg (by rw [lt_iff, es, e0]; omega)]
    exact ⟨rfl, by omega, by omega⟩
  · rw [if_neg q]
    rw [lt_iff, es, e0] at q
    by_cases q2 : 0 < x - many
    · rw [if_pos q2]
      exact ⟨rfl, by omega, by omega⟩
    · rw [if_neg q2]
      rw [lt_iff, es, e0] at q2
      have e : x - many = 0 := Int32.toInt_inj.mp (by omega)
      rw [e]
      exact ⟨rfl, by omega, by omega⟩
theorem ok_put {T : Nat → TS} {t : TS} (h : Rel T t) (tb many : Int32) : Ok (xPut T tb many) (mPut t tb many) := by
  have z1 : (1 : Int32).toInt = 1 := rfl
  have zM : (1000000 : Int32).toInt = 1000000 := rfl
  unfold xPut mPut
  by_cases c0 : isInF tb 0 2 = 0
  · rw [if_pos (Or.inl c0), if_pos (Or.inl c0)]; exact ⟨rfl, h⟩
  obtain ⟨i, hi, rfl⟩ := isTb c0
  rw [nI_clamp (show i < 2 ^ 31 by omega)]
  have hR := h i hi
  have hr := hR.2.1.1.1.2.1
  have e0 := hR.1.1.1
  have es : (1000000 - (T i).1 0).toInt = 1000000 - ((T i).1 0).toInt := by rw [fb_subI (by omega) (by omega), zM]
  have hc : isInF many 1 (1000000 - t.2 0 i) = 0 ↔ (many < 1 ∨ ¬ many ≤ 1000000 - (T i).1 0) := by
    rw [← e0, isInF_iff, lt_iff, le_iff, z1, es]; omega
  by_cases c : many < 1 ∨ ¬ many ≤ 1000000 - (T i).1 0
  · rw [if_pos (Or.inr c), if_pos (Or.inr (hc.mpr c))]; exact ⟨rfl, h⟩
  rw [if_neg (fun z => z.elim c0 c), if_neg (fun z => z.elim c0 (fun z => c (hc.mp z)))]
  rw [lt_iff, le_iff, z1, es] at c
  have hn := hR.2.1.1.n40
  have ep : ((T i).1 0 + many).toInt = ((T i).1 0).toInt + many.toInt := fb_addI (by omega) (by omega)
  have e1 := hR.1.1.2.1
  have hnM : (t.2 1 i).toNatClampNeg ≤ 40 := by rw [← e1]; exact hn
  have hg : ∀ s, s < nT (T i) → growV ((T i).2 6 s) many = mgrowV ((T i).2 6 s) many ∧ 0 ≤ (growV ((T i).2 6 s) many).toInt ∧ (growV ((T i).2 6 s) many).toInt ≤ 1000001 ∧ ∀ y : Int, y ≤ 1000000 → y ≤ ((T i).2 6 s).toInt → y ≤ (growV ((T i).2 6 s) many).toInt := fun s hs => by
    have := hR.2.1.1.1.2.2 s hs
    exact growV_eq (by unfold loT hiT at this; omega) (by omega)
  have hu6 : ∀ s, s < nT (T i) → (growF (T i) many).2 6 s = growV ((T i).2 6 s) many := fun s hs => by
    show (if s < ((T i).1 1).toNatClampNeg then growV ((T i).2 6 s) many else (T i).2 6 s) = _
    exact if_pos hs
  refine ⟨?_, h.chg (by show upd t.1 10 (-1) 10 = -1; exact pk_us) (fun j hj hji => ⟨fun k hk => ?_, fun k h3 h6 s hs => ?_, fun v hv => rfl⟩) ⟨⟨?_, e1, hR.1.1.2.2⟩, fun s hs => ?_, hR.1.2.2⟩ ⟨⟨hR.2.1.1.1.1, ?_, fun s hs => ?_⟩, hR.2.1.1.2.1, hR.2.1.1.2.2.1, hR.2.1.1.2.2.2⟩ rfl rfl⟩
  · show (T i).1 0 + many = t.2 0 i + many
    rw [e0]
  · have : k = 0 ∨ k = 1 ∨ k = 2 := by omega
    rcases this with rfl | rfl | rfl
    · show upd (t.2 0) i _ j = t.2 0 j
      exact pk_un hji
    · rfl
    · rfl
  · by_cases q6 : k = 6
    · subst q6
      show (if 40 * i ≤ 40 * j + s ∧ 40 * j + s < 40 * i + (t.2 1 i).toNatClampNeg then _ else t.2 6 (40 * j + s)) = _
      exact if_neg (by omega)
    · show ua (ua t.2 0 _) 6 _ k _ = _
      rw [ua_n _ _ q6, ua_n _ _ (show k ≠ 0 by omega)]
  · show (T i).1 0 + many = upd (t.2 0) i (t.2 0 i + many) i
    rw [pk_us, e0]
  · have hs' : s < nT (T i) := hs
    obtain ⟨k3, k4, k5, k6⟩ := hR.1.2.1 s hs'
    refine ⟨k3, k4, k5, ?_⟩
    rw [hu6 s hs', (hg s hs').1, k6]
    show _ = (if 40 * i ≤ 40 * i + s ∧ 40 * i + s < 40 * i + (t.2 1 i).toNatClampNeg then mgrowV (t.2 6 (40 * i + s)) many else t.2 6 (40 * i + s))
    rw [if_pos]
    rw [← e1]
    unfold nT at hs'
    omega
  · show 0 ≤ ((T i).1 0 + many).toInt ∧ ((T i).1 0 + many).toInt ≤ 1000000
    omega
  · have hs' : s < nT (T i) := hs
    have q1 := hR.2.1.1.1.2.2 s hs'
    have q2 := (hR.2.1.1.2.2.1 s hs').1
    obtain ⟨g1, g2, g3, g4⟩ := hg s hs'
    show 0 ≤ loT (T i) s ∧ loT (T i) s ≤ ((growF (T i) many).2 6 s).toInt ∧ ((growF (T i) many).2 6 s).toInt ≤ 1000001
    rw [hu6 s hs']
    exact ⟨q1.1, g4 _ q2 q1.2.1, g3⟩
theorem ok_strike {T : Nat → TS} {t : TS} (h : Rel T t) (tb many : Int32) : Ok (xStrike T tb many) (mStrike t tb many) := by
  have z1 : (1 : Int32).toInt = 1 := rfl
  unfold xStrike mStrike
  by_cases c0 : isInF tb 0 2 = 0
  · rw [if_pos (Or.inl c0), if_pos (Or.inl c0)]; exact ⟨rfl, h⟩
  obtain ⟨i, hi, rfl⟩ := isTb c0
  rw [nI_clamp (show i < 2 ^ 31 by omega)]
  have hR := h i hi
  have hr := hR.2.1.1.1.2.1
  have e0 := hR.1.1.1
  have hc : isInF many 1 (t.2 0 i) = 0 ↔ (many < 1 ∨ ¬ many ≤ (T i).1 0) := by
    rw [← e0, isInF_iff, lt_iff, le_iff, z1]; omega
  by_cases c : many < 1 ∨ ¬ many ≤ (T i).1 0
  · rw [if_pos (Or.inr c), if_pos (Or.inr (hc.mpr c))]; exact ⟨rfl, h⟩
  rw [if_neg (fun z => z.elim c0 c), if_neg (fun z => z.elim c0 (fun z => c (hc.mp z)))]
  rw [lt_iff, le_iff, z1] at c
  have hn := hR.2.1.1.n40
  have ep : ((T i).1 0 - many).toInt = ((T i).1 0).toInt - many.toInt := fb_subI (by omega) (by omega)
  have e1 := hR.1.1.2.1
  have hnM : (t.2 1 i).toNatClampNeg ≤ 40 := by rw [← e1]; exact hn
  have hg : ∀ s, s < nT (T i) → shrV ((T i).2 5 s) many = mshrV ((T i).2 5 s) many ∧ 0 ≤ (shrV ((T i).2 5 s) many).toInt ∧ (shrV ((T i).2 5 s) many).toInt ≤ ((T i).2 5 s).toInt := fun s hs => by
    have := hR.2.1.1.1.2.2 s hs
    exact shrV_eq (by unfold loT hiT at this; omega) (by omega)
  have hu6 : ∀ s, s < nT (T i) → (shrF (T i) many).2 5 s = shrV ((T i).2 5 s) many := fun s hs => by
    show (if s < ((T i).1 1).toNatClampNeg then shrV ((T i).2 5 s) many else (T i).2 5 s) = _
    exact if_pos hs
  refine ⟨?_, h.chg (by show upd t.1 10 (-1) 10 = -1; exact pk_us) (fun j hj hji => ⟨fun k hk => ?_, fun k h3 h6 s hs => ?_, fun v hv => rfl⟩) ⟨⟨?_, e1, hR.1.1.2.2⟩, fun s hs => ?_, hR.1.2.2⟩ ⟨⟨hR.2.1.1.1.1, ?_, fun s hs => ?_⟩, hR.2.1.1.2.1, fun s hs => ?_, hR.2.1.1.2.2.2⟩ rfl rfl⟩
  · show (T i).1 0 - many = t.2 0 i - many
    rw [e0]
  · have : k = 0 ∨ k = 1 ∨ k = 2 := by omega
    rcases this with rfl | rfl | rfl
    · show upd (t.2 0) i _ j = t.2 0 j
      exact pk_un hji
    · rfl
    · rfl
  · by_cases q6 : k = 5
    · subst q6
      show (if 40 * i ≤ 40 * j + s ∧ 40 * j + s < 40 * i + (t.2 1 i).toNatClampNeg then _ else t.2 5 (40 * j + s)) = _
      exact if_neg (by omega)
    · show ua (ua t.2 0 _) 5 _ k _ = _
      rw [ua_n _ _ q6, ua_n _ _ (show k ≠ 0 by omega)]
  · show (T i).1 0 - many = upd (t.2 0) i (t.2 0 i - many) i
    rw [pk_us, e0]
  · have hs' : s < nT (T i) := hs
    obtain ⟨k3, k4, k5, k6⟩ := hR.1.2.1 s hs'
    refine ⟨k3, k4, ?_, k6⟩
    rw [hu6 s hs', (hg s hs').1, k5]
    show _ = (if 40 * i ≤ 40 * i + s ∧ 40 * i + s < 40 * i + (t.2 1 i).toNatClampNeg then mshrV (t.2 5 (40 * i + s)) many else t.2 5 (40 * i + s))
    rw [if_pos]
    rw [← e1]
    unfold nT at hs'
    omega
  · show 0 ≤ ((T i).1 0 - many).toInt ∧ ((T i).1 0 - many).toInt ≤ 1000000
    omega
  · have hs' : s < nT (T i) := hs
    have q1 := hR.2.1.1.1.2.2 s hs'
    obtain ⟨g1, g2, g3⟩ := hg s hs'
    show 0 ≤ ((shrF (T i) many).2 5 s).toInt ∧ ((shrF (T i) many).2 5 s).toInt ≤ hiT (T i) s ∧ hiT (T i) s ≤ 1000001
    rw [hu6 s hs']
    unfold loT at q1
    exact ⟨g2, by omega, q1.2.2⟩
  · have hs' : s < nT (T i) := hs
    have q2 := hR.2.1.1.2.2.1 s hs'
    obtain ⟨g1, g2, g3⟩ := hg s hs'
    show ((shrF (T i) many).2 5 s).toInt ≤ 1000000 ∧ aT (T i) s ≤ bT (T i) s
    rw [hu6 s hs']
    unfold loT at q2
    exact ⟨by omega, q2.2⟩
