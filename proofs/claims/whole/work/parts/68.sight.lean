/-! sight and begins: both sides keep the same -/
theorem ok_sight {T : Nat → TS} {t : TS} (h : Rel T t) (tb a b ct al : Int32) : Ok (xSight T tb a b ct al) (mSight t tb a b ct al) := by
  have z0 : (0 : Int32).toInt = 0 := rfl
  have z40 : (40 : Int32).toInt = 40 := rfl
  unfold xSight mSight
  by_cases c0 : isInF tb 0 2 = 0
  · rw [if_pos (Or.inl c0), if_pos (Or.inl c0)]; exact ⟨rfl, h⟩
  by_cases c1 : isSpanF a b = 0
  · rw [if_pos (Or.inr (Or.inl c1)), if_pos (Or.inr (Or.inl c1))]; exact ⟨rfl, h⟩
  obtain ⟨i, hi, rfl⟩ := isTb c0
  rw [nI_clamp (show i < 2 ^ 31 by omega)]
  have hR := h i hi
  have hr := hR.2.1.1.1.2.1
  have e0 := hR.1.1.1
  have e1 := hR.1.1.2.1
  have hc : isInF ct 0 (t.2 0 i) = 0 ↔ (ct < 0 ∨ ¬ ct ≤ (T i).1 0) := by
    rw [← e0, isInF_iff, lt_iff, le_iff, z0]; omega
  by_cases c2 : ct < 0 ∨ ¬ ct ≤ (T i).1 0
  · rw [if_pos (Or.inr (Or.inr c2)), if_pos (Or.inr (Or.inr (Or.inl (hc.mpr c2))))]; exact ⟨rfl, h⟩
  rw [if_neg (show ¬ (isInF (nI i) 0 2 = 0 ∨ isSpanF a b = 0 ∨ ct < 0 ∨ ¬ ct ≤ (T i).1 0) from fun z => z.elim c0 (fun z => z.elim c1 c2))]
  obtain ⟨en, hn⟩ := vp_in_c hR.2.1.1.1.1.1 (by decide)
  have en1 : ((T i).1 1).toInt = nT (T i) := by rw [en, nI_toInt (by omega)]; rfl
  have hn' : nT (T i) < 41 := hn
  by_cases c3 : (T i).1 1 < 40
  · rw [if_pos c3]
    rw [lt_iff, en1, z40] at c3
    have hneg : ¬ (isInF (nI i) 0 2 = 0 ∨ isSpanF a b = 0 ∨ isInF ct 0 (t.2 0 i) = 0 ∨ t.2 1 i = 40) := fun z => z.elim c0 (fun z => z.elim c1 (fun z => z.elim (fun z => c2 (hc.mp z)) (fun z => by
      rw [← e1] at z
      have := congrArg Int32.toInt z
      rw [en1, z40] at this
      omega)))
    rw [if_neg hneg]
    clear hneg
    rw [← e1]
    rw [lt_iff, le_iff, z0] at c2
    obtain ⟨x, y, hxy, hy, rfl, rfl⟩ := isSpanF_1 c1
    have hnN : ((T i).1 1).toNatClampNeg = nT (T i) := rfl
    rw [hnN]
    have en2 : (T i).1 1 + 1 = nI (nT (T i) + 1) := by rw [en]; exact nI_1 _
    have hal : 0 ≤ (if al = 0 then ct else (1000001 : Int32)).toInt ∧ (if al = 0 then ct else (1000001 : Int32)).toInt ≤ 1000001 ∧ ct.toInt ≤ (if al = 0 then ct else (1000001 : Int32)).toInt := by
      have e : (1000001 : Int32).toInt = 1000001 := rfl
      split <;> omega
    generalize (if al = 0 then ct else (1000001 : Int32)) = hi' at hal ⊢
    have hns : nT (addF (T i) (nI x) (nI y) ct hi') = nT (T i) + 1 := by
      show ((T i).1 1 + 1).toNatClampNeg = _
      rw [en2, nI_clamp (by omega)]
    have u3 : (addF (T i) (nI x) (nI y) ct hi').2 3 = upd ((T i).2 3) (nT (T i)) (nI x) := rfl
    have u4 : (addF (T i) (nI x) (nI y) ct hi').2 4 = upd ((T i).2 4) (nT (T i)) (nI y) := rfl
    have u5 : (addF (T i) (nI x) (nI y) ct hi').2 5 = upd ((T i).2 5) (nT (T i)) ct := rfl
    have u6 : (addF (T i) (nI x) (nI y) ct hi').2 6 = upd ((T i).2 6) (nT (T i)) hi' := rfl
    refine ⟨?_, h.chg (by show upd t.1 10 (-1) 10 = -1; exact pk_us) (fun j hj hji => ⟨fun k hk => ?_, fun k h3 h6 s hs => ?_, fun v hv => rfl⟩) ⟨⟨e0, ?_, hR.1.1.2.2⟩, fun s hs => ?_, hR.1.2.2⟩ ⟨⟨⟨?_, fun s hs => ?_⟩, hr, fun s hs => ?_⟩, hR.2.1.1.2.1, fun s hs => ?_, hR.2.1.1.2.2.2⟩ rfl rfl⟩
    · show (T i).1 1 = (T i).1 1 + 1 - 1
      rw [en, nI_1, nI_pred]
    · have : k = 0 ∨ k = 1 ∨ k = 2 := by omega
      rcases this with rfl | rfl | rfl
      · rfl
      · show upd (t.2 1) i _ j = t.2 1 j
        exact pk_un hji
      · rfl
    · have : k = 3 ∨ k = 4 ∨ k = 5 ∨ k = 6 := by omega
      rcases this with rfl | rfl | rfl | rfl
      · show upd (t.2 3) (40 * i + nT (T i)) _ (40 * j + s) = _
        exact pk_un (by omega)
      · show upd (t.2 4) (40 * i + nT (T i)) _ (40 * j + s) = _
        exact pk_un (by omega)
      · show upd (t.2 5) (40 * i + nT (T i)) _ (40 * j + s) = _
        exact pk_un (by omega)
      · show upd (t.2 6) (40 * i + nT (T i)) _ (40 * j + s) = _
        exact pk_un (by omega)
    · show (T i).1 1 + 1 = upd (t.2 1) i ((T i).1 1 + 1) i
      exact pk_us.symm
    · rw [hns] at hs
      rw [u3, u4, u5, u6]
      show upd ((T i).2 3) (nT (T i)) (nI x) s = upd (t.2 3) (40 * i + nT (T i)) (nI x) (40 * i + s) ∧ upd ((T i).2 4) (nT (T i)) (nI y) s = upd (t.2 4) (40 * i + nT (T i)) (nI y) (40 * i + s) ∧ upd ((T i).2 5) (nT (T i)) ct s = upd (t.2 5) (40 * i + nT (T i)) ct (40 * i + s) ∧ upd ((T i).2 6) (nT (T i)) hi' s = upd (t.2 6) (40 * i + nT (T i)) hi' (40 * i + s)
      by_cases q : s = nT (T i)
      · rw [q, pk_us, pk_us, pk_us, pk_us, pk_us, pk_us, pk_us, pk_us]
        exact ⟨rfl, rfl, rfl, rfl⟩
      · rw [pk_un q, pk_un q, pk_un q, pk_un q, pk_un (show 40 * i + s ≠ 40 * i + nT (T i) by omega), pk_un (show 40 * i + s ≠ 40 * i + nT (T i) by omega), pk_un (show 40 * i + s ≠ 40 * i + nT (T i) by omega), pk_un (show 40 * i + s ≠ 40 * i + nT (T i) by omega)]
        exact hR.1.2.1 s (by omega)
    · show vp_in ((T i).1 1 + 1) 41
      rw [en2]
      exact vp_in_nI (by omega) (by decide)
    · have hs' : s < nT (T i) + 1 := hns ▸ hs
      rw [u3, u4]
      by_cases q : s = nT (T i)
      · rw [q, pk_us, pk_us]
        exact ⟨vp_in_nI (by omega) (by decide), vp_in_nI (by omega) (by decide)⟩
      · rw [pk_un q, pk_un q]
        exact hR.2.1.1.1.1.2 s (show s < nT (T i) by omega)
    · have hs' : s < nT (T i) + 1 := hns ▸ hs
      unfold loT hiT
      rw [u5, u6]
      by_cases q : s = nT (T i)
      · rw [q, pk_us, pk_us]
        omega
      · rw [pk_un q, pk_un q]
        exact hR.2.1.1.1.2.2 s (by omega)
    · have hs' : s < nT (T i) + 1 := hns ▸ hs
      unfold loT aT bT
      rw [u3, u4, u5]
      by_cases q : s = nT (T i)
      · rw [q, pk_us, pk_us, pk_us, nI_clamp (by omega), nI_clamp (by omega)]
        omega
      · rw [pk_un q, pk_un q, pk_un q]
        exact hR.2.1.1.2.2.1 s (by omega)
  · rw [if_neg c3]
    rw [lt_iff, en1, z40] at c3
    have e40 : t.2 1 i = 40 := by
      rw [← e1]
      refine Int32.toInt_inj.mp ?_
      rw [en1, z40]
      omega
    rw [if_pos (Or.inr (Or.inr (Or.inr e40)))]
    exact ⟨rfl, h⟩
theorem beg4 : ∀ n : Nat, n < 4 → wideF (nI n) = textsF (3 - nI n) ∧ 64 / wideF (nI n) - 1 = textsF (nI n) - 1 ∧ (textsF (nI n) - 1).toInt = (textsF (nI n)).toInt - 1 := by decide
theorem ok_begins {T : Nat → TS} {t : TS} (h : Rel T t) (tb n v ct : Int32) : Ok (xBegins T tb n v ct) (mBegins t tb n v ct) := by
  have z0 : (0 : Int32).toInt = 0 := rfl
  have z3 : (3 : Int32).toInt = 3 := rfl
  have hc : isInF n 0 3 = 0 ↔ (n < 0 ∨ 3 < n) := by
    rw [isInF_iff, lt_iff, lt_iff]
  unfold xBegins mBegins
  by_cases c : isInF n 0 3 = 0
  · rw [if_pos c]
    have c' : n < 0 ∨ 3 < n ∨ v < 0 ∨ ¬ v < textsF n := (hc.mp c).elim Or.inl (fun z => Or.inr (Or.inl z))
    rw [if_pos c']
    exact ⟨rfl, h⟩
  · rw [if_neg c]
    have c2 : ¬ (n < 0 ∨ 3 < n) := fun z => c (hc.mpr z)
    obtain ⟨k, hk, rfl⟩ := isInF_nI 3 (by decide) (v := n) c
    obtain ⟨b1, b2, b3⟩ := beg4 k (by omega)
    have hd : isInF v 0 (64 / wideF (nI k) - 1) = 0 ↔ (v < 0 ∨ ¬ v < textsF (nI k)) := by
      rw [b2, isInF_iff, lt_iff, lt_iff, b3, z0]; omega
    by_cases c3 : v < 0 ∨ ¬ v < textsF (nI k)
    · rw [if_pos (Or.inr (Or.inr c3)), if_pos (hd.mpr c3)]
      exact ⟨rfl, h⟩
    · rw [if_neg (fun z => z.elim (fun z => c2 (Or.inl z)) (fun z => z.elim (fun z => c2 (Or.inr z)) c3)), if_neg (fun z => c3 (hd.mp z)), b1]
      exact ok_sight h _ _ _ _ _
