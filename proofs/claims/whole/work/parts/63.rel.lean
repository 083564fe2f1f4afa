/-! the whole relation -/
def Gb (u : TS) : Prop := gT u ∧ vp_in (u.1 2) 41 ∧ (∀ s, s < nT u → loT u s ≤ 1000000 ∧ aT u s ≤ bT u s) ∧ ∀ v, v < 64 → 0 ≤ (u.2 8 v).toInt ∧ (u.2 8 v).toInt ≤ 100000
def Gss (u : TS) : Prop := (∃ d, Cl (EdT u (kpT u)) d ∧ Gd d (u.1 0) (u.2 9) 64) ∧ ∀ j, j ≤ 64 → 0 ≤ ii (u.2 9) j ∧ ii (u.2 9) j ≤ (u.1 0).toInt
def Fb (u : TS) : Prop := (¬ u.1 12 = 0 → Settled u (nT u - pT u)) ∧ (¬ u.1 13 = 0 → ¬ u.1 12 = 0 ∧ Gss u)
def R1 (u t : TS) (i : Nat) : Prop := Rk u t i ∧ (Gb u ∧ Fb u) ∧ (t.1 10 = nI i → MI t i t 0)
def Rel (T : Nat → TS) (t : TS) : Prop := ∀ i, i < 3 → R1 (T i) t i
theorem R1.gM {u t : TS} {i : Nat} (h : R1 u t i) : gM t i := by
  obtain ⟨hk, ⟨⟨hg, h2, _⟩, _⟩, _⟩ := h
  refine ⟨hk.1.2.1 ▸ hg.1.1, hk.1.2.2 ▸ h2, fun s hs => ?_, hk.1.1 ▸ hg.2.1, fun s hs => ?_⟩
  · rw [← hk.n] at hs
    obtain ⟨e1, e2, _⟩ := hk.2.1 s hs
    rw [← e1, ← e2]
    exact hg.1.2 s hs
  · rw [← hk.n] at hs
    obtain ⟨e1, e2, e3, e4⟩ := hk.ab s hs
    rw [← e3, ← e4]
    exact hg.2.2 s hs
theorem Rel.okX {T : Nat → TS} {t : TS} (h : Rel T t) : okX T := fun i hi => (h i hi).2.1.1.1.1
theorem Rel.okM {T : Nat → TS} {t : TS} (h : Rel T t) : okM t := fun i hi => ⟨(h i hi).gM.1, (h i hi).gM.2.2.1⟩
def sameF (u' u : TS) : Prop := (u'.1 0 = u.1 0 ∧ u'.1 1 = u.1 1 ∧ u'.1 2 = u.1 2) ∧ (∀ k, 3 ≤ k → k ≤ 6 → u'.2 k = u.2 k) ∧ u'.2 8 = u.2 8
theorem sameF_n {u' u : TS} (h : sameF u' u) : nT u' = nT u := by unfold nT; rw [h.1.2.1]
theorem sameF_p {u' u : TS} (h : sameF u' u) : pT u' = pT u := by unfold pT; rw [h.1.2.2]
theorem sameF_E {u' u : TS} (h : sameF u' u) (kp : Nat → Prop) : EdT u' kp = EdT u kp := by
  unfold EdT nT aT bT loT hiT
  rw [h.1.1, h.1.2.1, h.2.1 3 (by decide) (by decide), h.2.1 4 (by decide) (by decide), h.2.1 5 (by decide) (by decide), h.2.1 6 (by decide) (by decide)]
theorem Rk.fr {u u' t : TS} {i : Nat} (h : sameF u' u) (hk : Rk u t i) : Rk u' t i := by
  unfold Rk
  rw [sameF_n h, h.1.1, h.1.2.1, h.1.2.2, h.2.1 3 (by decide) (by decide), h.2.1 4 (by decide) (by decide), h.2.1 5 (by decide) (by decide), h.2.1 6 (by decide) (by decide), h.2.2]
  exact hk
theorem Gb.fr {u u' : TS} (h : sameF u' u) (hk : Gb u) : Gb u' := by
  unfold Gb gT okT nT aT bT loT hiT at hk ⊢
  rw [h.1.1, h.1.2.1, h.1.2.2, h.2.1 3 (by decide) (by decide), h.2.1 4 (by decide) (by decide), h.2.1 5 (by decide) (by decide), h.2.1 6 (by decide) (by decide), h.2.2]
  exact hk
theorem Fb.fr {u u' : TS} (h : sameF u' u) (h12 : u'.1 12 = u.1 12) (h13 : u'.1 13 = u.1 13) (h7 : u'.2 7 = u.2 7) (h9 : u'.2 9 = u.2 9) (h10 : u'.2 10 = u.2 10) (hk : Fb u) : Fb u' := by
  refine ⟨fun z => ?_, fun z => ?_⟩
  · rw [sameF_n h, sameF_p h]
    refine Settled.fr ⟨h.1.1, h.1.2.1, fun k h3 h4 => ?_⟩ h10 (hk.1 (h12 ▸ z))
    by_cases q : k = 7
    · subst q; exact h7
    · exact h.2.1 k h3 (by omega)
  · have := hk.2 (h13 ▸ z)
    unfold Gss kpT at this ⊢
    rw [h12, sameF_E h, h7, h9, h.1.1]
    exact this
theorem R1.fr {u u' t : TS} {i : Nat} (h : sameF u' u) (h12 : u'.1 12 = u.1 12) (h13 : u'.1 13 = u.1 13) (h7 : u'.2 7 = u.2 7) (h9 : u'.2 9 = u.2 9) (h10 : u'.2 10 = u.2 10) (hk : R1 u t i) : R1 u' t i := ⟨hk.1.fr h, ⟨hk.2.1.1.fr h, hk.2.1.2.fr h h12 h13 h7 h9 h10⟩, hk.2.2⟩
theorem R1.w11 {u t : TS} {i : Nat} (h : R1 u t i) (w : Nat → Int32) : R1 (u.1, ua u.2 11 w) t i := R1.fr (u := u) (u' := (u.1, ua u.2 11 w)) ⟨⟨rfl, rfl, rfl⟩, fun k h1 h2 => ua_n _ _ (show k ≠ 11 by omega), rfl⟩ rfl rfl rfl rfl rfl h
theorem sameS.F {u' u : TS} (h : sameS u' u) : sameF u' u := ⟨⟨h.1 0 (by decide), h.1 1 (by decide), h.1 2 (by decide)⟩, fun k h1 h2 => h.2 k (by omega) (by omega) (by omega), h.2 8 (by decide) (by decide) (by decide)⟩
theorem R1.settle {u t : TS} {i : Nat} (h : R1 u t i) : R1 (settleF u) t i ∧ Settled (settleF u) (nT (settleF u) - pT (settleF u)) ∧ nT (settleF u) = nT u ∧ sameS (settleF u) u ∧ ¬ (settleF u).1 12 = 0 := by
  obtain ⟨hk, ⟨hb, hf⟩, hm⟩ := h
  obtain ⟨s1, s2, s3⟩ := settle_spec hb.1 hb.2.1 hf.1
  have sF := s2.F
  have s1' : Settled (settleF u) (nT (settleF u) - pT (settleF u)) := by rw [sameF_n sF, sameF_p sF]; exact s1
  refine ⟨⟨hk.fr sF, ⟨hb.fr sF, fun _ => s1', fun z => ?_⟩, hm⟩, s1', sameF_n sF, s2, s3⟩
  rw [s2.1 13 (by decide)] at z
  obtain ⟨z1, z2⟩ := hf.2 z
  refine ⟨s3, ?_⟩
  have : settleF u = u := by unfold settleF; rw [if_neg z1]
  rw [this]
  exact z2
theorem MI_fr {t t' : TS} {i c : Nat} (h : ∀ k, k ≠ 8 → k ≠ 11 → t'.2 k = t.2 k) (hM : MI t i t c) : MI t' i t' c := by
  refine ⟨sameM.rf t', ?_, ?_⟩
  · have := hM.2.1
    unfold nM pM aM bM loM hiM stM at this ⊢
    rw [h 0 (by decide) (by decide), h 1 (by decide) (by decide), h 2 (by decide) (by decide), h 3 (by decide) (by decide), h 4 (by decide) (by decide), h 5 (by decide) (by decide), h 6 (by decide) (by decide), h 7 (by decide) (by decide)]
    exact this
  · have := hM.2.2
    unfold EdM nM aM bM loM hiM stM at this ⊢
    rw [h 0 (by decide) (by decide), h 1 (by decide) (by decide), h 3 (by decide) (by decide), h 4 (by decide) (by decide), h 5 (by decide) (by decide), h 6 (by decide) (by decide), h 7 (by decide) (by decide), h 9 (by decide) (by decide)]
    exact this
theorem Rk.frM {u t t' : TS} {i : Nat} (hn : nT u ≤ 40) (h0 : ∀ k, k ≤ 2 → t'.2 k i = t.2 k i) (h3 : ∀ k, 3 ≤ k → k ≤ 6 → ∀ s, s < 40 → t'.2 k (40 * i + s) = t.2 k (40 * i + s)) (h8 : ∀ v, v < 64 → t'.2 8 (64 * i + v) = t.2 8 (64 * i + v)) (h : Rk u t i) : Rk u t' i := by
  refine ⟨?_, fun s hs => ?_, fun v hv => ?_⟩
  · rw [h0 0 (by decide), h0 1 (by decide), h0 2 (by decide)]
    exact h.1
  · rw [h3 3 (by decide) (by decide) s (by omega), h3 4 (by decide) (by decide) s (by omega), h3 5 (by decide) (by decide) s (by omega), h3 6 (by decide) (by decide) s (by omega)]
    exact h.2.1 s hs
  · rw [h8 v hv]
    exact h.2.2 v hv
theorem Gb.n40 {u : TS} (h : Gb u) : nT u ≤ 40 := by
  have := (vp_in_c h.1.1.1 (by decide)).2
  unfold nT
  omega
theorem R1.frM {u t t' : TS} {i : Nat} (h0 : ∀ k, k ≤ 2 → t'.2 k i = t.2 k i) (h3 : ∀ k, 3 ≤ k → k ≤ 6 → ∀ s, s < 40 → t'.2 k (40 * i + s) = t.2 k (40 * i + s)) (h8 : ∀ v, v < 64 → t'.2 8 (64 * i + v) = t.2 8 (64 * i + v)) (hc : t'.1 10 = nI i → MI t' i t' 0) (h : R1 u t i) : R1 u t' i := ⟨h.1.frM h.2.1.1.n40 h0 h3 h8, h.2.1, hc⟩
theorem Rel.tab {T : Nat → TS} {t u : TS} {i : Nat} (h : Rel T t) (hu : R1 u t i) : Rel (uT T i u) t := fun j hj => by
  unfold uT
  by_cases q : j = i
  · rw [if_pos q, q]; exact hu
  · rw [if_neg q]; exact h j hj
theorem nI_ne3 {i j : Nat} (hi : i < 3) (hj : j < 3) (h : nI i = nI j) : i = j := (nI_eq (by omega) (by omega)).mp h
theorem Rel.clos {T : Nat → TS} {t : TS} {i : Nat} (hi : i < 3) (h : Rel T t) : Rel T (closF t i) ∧ MI t i (closF t i) 0 := by
  obtain ⟨c1, c2, c3⟩ := closF_MI (h i hi).gM (h i hi).2.2
  refine ⟨fun j hj => (h j hj).frM (fun k hk => by rw [c1.1 k (by omega) (by omega)]) (fun k h3 h6 s hs => by rw [c1.1 k (by omega) (by omega)]) (fun v hv => by rw [c1.1 8 (by decide) (by decide)]) (fun z => ?_), c1⟩
  rw [c2] at z
  have := nI_ne3 hi hj z
  subst this
  exact MI_base c1.1 c1
theorem Rel.w11M {T : Nat → TS} {t : TS} (h : Rel T t) (g : Nat → Int32) : Rel T (t.1, ua t.2 11 g) := fun j hj => R1.frM (t := t) (t' := (t.1, ua t.2 11 g)) (fun k hk => by show ua t.2 11 g k j = _; rw [ua_n _ _ (show k ≠ 11 by omega)]) (fun k h3 h6 s hs => by show ua t.2 11 g k _ = _; rw [ua_n _ _ (show k ≠ 11 by omega)]) (fun v hv => rfl) (fun z => MI_fr (t := t) (fun k h8 h11 => ua_n _ _ h11) ((h j hj).2.2 z)) (h j hj)
theorem Rel.gues {T : Nat → TS} {t : TS} {i : Nat} (hi : i < 3) (h : Rel T t) : Rel T (guessF t i) := (h.clos hi).1.w11M _
/-- both sides settled, at one table -/
theorem both {u t : TS} {i : Nat} (h : R1 u t i) : (∀ s, s < nT u → stM (closF t i) i s = (settleF u).2 7 s) ∧ ∃ d, Cl (EdT (settleF u) (kpT (settleF u))) d ∧ (∀ j, j ≤ 64 → ii ((settleF u).2 10) j = - d j 0) ∧ ∀ p q, p ≤ 64 → q ≤ 64 → far2 ((closF t i).2 9) p q = d p q := by
  obtain ⟨s1, s2, s3, s4, s5⟩ := h.settle
  obtain ⟨c1, c2, c3⟩ := closF_MI h.gM h.2.2
  have := pair s1.1 s2 c1
  rw [s3] at this
  exact this
