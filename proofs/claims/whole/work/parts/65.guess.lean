/-! guesses, joins, costs: both sides answer the same -/
theorem sp13 (u : TS) : ¬ (spreadF u).1 13 = 0 := by
  unfold spreadF
  by_cases h : u.1 13 = 0
  · rw [if_pos h]
    show ¬ upd (settleF u).1 13 1 13 = 0
    rw [pk_us]
    decide
  · rw [if_neg h]; exact h
theorem gs_eq {u t : TS} {i : Nat} {d : Nat → Nat → Int} {Gc : Nat → Int32} (hr : 0 ≤ (u.1 0).toInt ∧ (u.1 0).toInt ≤ 1000000) (hC : Cl (EdT u (kpT u)) d) (hf : ∀ p q, p ≤ 64 → q ≤ 64 → far2 ((closF t i).2 9) p q = d p q) (hgd : Gd d (u.1 0) Gc 64) (hG : ∀ j, j ≤ 64 → 0 ≤ ii Gc j ∧ ii Gc j ≤ (u.1 0).toInt) (h0 : u.1 0 = (closF t i).2 0 i) : ∀ x, x ≤ 64 → (guessF t i).2 11 (65 * i + x) = Gc x := by
  have hb := EdT_base u (kpT u)
  have := gsL_spec (f := (closF t i).2 9) (lo := 65 * i) (d := d) (Gc := Gc) (r := u.1 0) hr hf (fun p q hp hq => (fun z => ⟨z.2, z.1⟩) (hC.ler hb hp hq)) (fun v hv => hC.le0 hb (by omega) (by omega)) (fun j hj => by have := hG j hj; omega) hgd 64 0 (upd ((closF t i).2 11) (65 * i) 0) (by omega) (fun q hq => by
    have : q = 0 := by omega
    subst this
    rw [hgd.1]
    exact pk_us)
  rw [h0] at this
  exact this.1
theorem R1.spA {s t : TS} {i : Nat} (h : R1 s t i) (hS : Settled s (nT s - pT s)) (h12 : ¬ s.1 12 = 0) {d : Nat → Nat → Int} {G H : Nat → Int32} (hC : Cl (EdT s (kpT s)) d) (hG : Gd d (s.1 0) G 64) (hb : ∀ j, j ≤ 64 → 0 ≤ ii G j ∧ ii G j ≤ (s.1 0).toInt) : R1 (upd s.1 13 1, ua (ua s.2 9 G) 11 H) t i := by
  have hF : sameF (upd s.1 13 1, ua (ua s.2 9 G) 11 H) s := ⟨⟨rfl, rfl, rfl⟩, fun k h1 h2 => by
    show ua (ua s.2 9 G) 11 H k = _
    rw [ua_n _ _ (show k ≠ 11 by omega), ua_n _ _ (show k ≠ 9 by omega)], rfl⟩
  refine ⟨h.1.fr hF, ⟨h.2.1.1.fr hF, fun _ => ?_, fun _ => ⟨h12, ⟨d, ?_, hG⟩, hb⟩⟩, h.2.2⟩
  · rw [sameF_n hF, sameF_p hF]
    exact Settled.fr (u := s) ⟨rfl, rfl, fun k h1 h2 => by
      show ua (ua s.2 9 G) 11 H k = _
      rw [ua_n _ _ (show k ≠ 11 by omega), ua_n _ _ (show k ≠ 9 by omega)]⟩ rfl hS
  · rw [sameF_E hF]
    exact hC
theorem R1.spread {u t : TS} {i : Nat} (h : R1 u t i) : R1 (spreadF u) t i ∧ ∀ x, x ≤ 64 → (guessF t i).2 11 (65 * i + x) = (spreadF u).2 9 x := by
  obtain ⟨b1, d, b2, b3, b4⟩ := both h
  obtain ⟨s1, s2, s3, s4, s5⟩ := h.settle
  obtain ⟨c1, c2, c3⟩ := closF_MI h.gM h.2.2
  have e0 : (closF t i).2 0 i = t.2 0 i := by rw [c1.1 0 (by decide) (by decide)]
  unfold spreadF
  by_cases q : u.1 13 = 0
  · rw [if_pos q]
    obtain ⟨g1, g2⟩ := spread_gd s1.2.1.1.1 b2 b3
    revert g1 g2
    generalize (sprL (settleF u) 64 (spr0 (settleF u))).1 = G
    generalize (sprL (settleF u) 64 (spr0 (settleF u))).2 = H
    intro g1 g2
    refine ⟨s1.spA s2 s5 b2 g1 g2, fun x hx => ?_⟩
    show _ = ua (ua (settleF u).2 9 G) 11 H 9 x
    rw [ua_n _ _ (by decide), ua_s]
    exact gs_eq s1.2.1.1.1.2.1 b2 b4 g1 g2 (s1.1.1.1.trans e0.symm) x hx
  · rw [if_neg q]
    obtain ⟨q1, ⟨d', q2, q3⟩, q4⟩ := h.2.1.2.2 q
    have hs : settleF u = u := by unfold settleF; rw [if_neg q1]
    rw [hs] at b2
    exact ⟨h, gs_eq h.2.1.1.1.2.1 q2 (fun p q hp hq => (b4 p q hp hq).trans (b2.uniq q2 hp hq)) q3 q4 (h.1.1.1.trans e0.symm)⟩
def GR (u t : TS) (i : Nat) : Prop := ∀ x, x ≤ 64 → t.2 11 (65 * i + x) = u.2 9 x
theorem sp1_s (T : Nat → TS) (i : Nat) : sp1 T i i = spreadF (T i) := uT_s _ _ _
theorem sp1_n (T : Nat → TS) {i j : Nat} (h : j ≠ i) : sp1 T i j = T j := uT_n _ _ h
theorem Rel.sp {T : Nat → TS} {t : TS} {i : Nat} (hi : i < 3) (h : Rel T t) : Rel (sp1 T i) (guessF t i) ∧ GR (sp1 T i i) (guessF t i) i ∧ ∀ j, j < 3 → j ≠ i → GR (T j) t j → GR (sp1 T i j) (guessF t i) j := by
  refine ⟨(h.gues hi).tab ((h.gues hi) i hi).spread.1, ?_, fun j hj hji hg => ?_⟩
  · rw [sp1_s]
    exact (h i hi).spread.2
  · rw [sp1_n T hji]
    intro x hx
    show gs0 t i (65 * j + x) = _
    unfold gs0
    have ho : 65 * j + x < 65 * i ∨ 65 * i + 64 < 65 * j + x := by omega
    rw [gsL_out 64 0 _ (by omega) _ ho, pk_un (by omega), (h.clos hi).2.1 11 (by decide) (by decide)]
    exact hg x hx
theorem ok_guess {T : Nat → TS} {t : TS} (h : Rel T t) (tb a b : Int32) : Ok (xGuess T tb a b) (mGuess t tb a b) := by
  unfold xGuess mGuess
  by_cases c : isInF tb 0 2 = 0 ∨ isSpanF a b = 0
  · rw [if_pos c, if_pos c]; exact ⟨rfl, h⟩
  · rw [if_neg c, if_neg c]
    obtain ⟨i, hi, rfl⟩ := isTb (fun z => c (Or.inl z))
    obtain ⟨x, y, hxy, hy, rfl, rfl⟩ := isSpanF_1 (fun z => c (Or.inr z))
    rw [nI_clamp (show i < 2 ^ 31 by omega), nI_clamp (show x < 2 ^ 31 by omega), nI_clamp (show y < 2 ^ 31 by omega)]
    obtain ⟨h1, h2, _⟩ := h.sp hi
    rw [sp1_s] at h2
    refine ⟨?_, h1⟩
    show (spreadF (T i)).2 9 y - (spreadF (T i)).2 9 x = (guessF t i).2 11 (65 * i + y) - (guessF t i).2 11 (65 * i + x)
    rw [h2 y hy, h2 x (by omega)]
theorem guessOf_eq {u t : TS} {i v : Nat} (h : GR u t i) (hv : v < 64) : rowsOfF u v 0 = guessOfF t i v := by
  unfold rowsOfF guessOfF
  rw [if_pos rfl, show 65 * i + v + 1 = 65 * i + (v + 1) by omega, h (v + 1) (by omega), h v (by omega)]
theorem join_eq {T : Nat → TS} {t : TS} {i j lo : Nat} (h1 : GR (T i) t i) (h2 : GR (T j) t j) : ∀ (n : Nat), lo + n ≤ 64 → xjoinS T i j lo n = joinS t i j lo n
  | 0, _ => rfl
  | n + 1, hn => by
    unfold xjoinS joinS
    rw [join_eq h1 h2 n (by omega), guessOf_eq h1 (by omega), guessOf_eq h2 (by omega)]
theorem ok_join {T : Nat → TS} {t : TS} (h : Rel T t) (tb ub a b : Int32) : Ok (xJoin T tb ub a b) (mJoin t tb ub a b) := by
  unfold xJoin mJoin
  by_cases c : isInF tb 0 2 = 0 ∨ isInF ub 0 2 = 0 ∨ isSpanF a b = 0
  · rw [if_pos c, if_pos c]; exact ⟨rfl, h⟩
  · rw [if_neg c, if_neg c]
    obtain ⟨i, hi, rfl⟩ := isTb (fun z => c (Or.inl z))
    obtain ⟨j, hj, rfl⟩ := isTb (fun z => c (Or.inr (Or.inl z)))
    obtain ⟨x, y, hxy, hy, rfl, rfl⟩ := isSpanF_1 (fun z => c (Or.inr (Or.inr z)))
    rw [nI_clamp (show i < 2 ^ 31 by omega), nI_clamp (show j < 2 ^ 31 by omega), nI_clamp (show x < 2 ^ 31 by omega), nI_clamp (show y < 2 ^ 31 by omega)]
    obtain ⟨h1, h2, _⟩ := h.sp hi
    obtain ⟨k1, k2, k3⟩ := h1.sp hj
    refine ⟨?_, k1⟩
    have hgi : GR (sp1 (sp1 T i) j i) (guessF (guessF t i) j) i := by
      by_cases q : i = j
      · subst q; exact k2
      · exact k3 i hi q h2
    exact join_eq hgi k2 (y - x) (by omega)
theorem Rel.gAll {T : Nat → TS} {t : TS} (h : Rel T t) : Rel T (allG t) := ((h.gues (by decide)).gues (by decide)).gues (by decide)
theorem Rel.spA {T : Nat → TS} {t : TS} (h : Rel T t) : Rel (spAll T) (allG t) ∧ ∀ i, i < 3 → GR (spAll T i) (allG t) i := by
  obtain ⟨a1, a2, a3⟩ := h.sp (show 0 < 3 by decide)
  obtain ⟨b1, b2, b3⟩ := a1.sp (show 1 < 3 by decide)
  obtain ⟨c1, c2, c3⟩ := b1.sp (show 2 < 3 by decide)
  refine ⟨c1, fun i hi => ?_⟩
  have : i = 0 ∨ i = 1 ∨ i = 2 := by omega
  rcases this with rfl | rfl | rfl
  · exact c3 0 (by decide) (by decide) (b3 0 (by decide) (by decide) a2)
  · exact c3 1 (by decide) (by decide) b2
  · exact c2
theorem rowsOf_eq {T : Nat → TS} {t : TS} (h : Rel T t) {by_ : Int32} (hg : by_ = 0 → ∀ i, i < 3 → GR (T i) t i) {i v : Nat} (hi : i < 3) (hv : v < 64) : rowsOfF (T i) v by_ = mRowsOf t i v by_ := by
  unfold mRowsOf
  by_cases q : by_ = 0
  · rw [if_pos q, ← guessOf_eq (hg q i hi) hv, q]
  · rw [if_neg q]
    unfold rowsOfF
    rw [if_neg q, (h i hi).1.2.2 v hv]
theorem ord3 : ∀ o, o < 6 → ordX o < 3 ∧ ordY o < 3 ∧ ordZ o < 3 := by decide
theorem cost_eq {T : Nat → TS} {t : TS} (h : Rel T t) {by_ : Int32} (hg : by_ = 0 → ∀ i, i < 3 → GR (T i) t i) {o : Nat} (ho : o < 6) : ∀ (v : Nat), v ≤ 64 → xcostS T o by_ v = costS t o by_ v
  | 0, _ => rfl
  | v + 1, hv => by
    obtain ⟨o1, o2, o3⟩ := ord3 o ho
    unfold xcostS costS xTwo mTwo
    rw [cost_eq h hg ho v (by omega), rowsOf_eq h hg o1 (by omega), rowsOf_eq h hg o2 (by omega), rowsOf_eq h hg o3 (by omega)]
theorem costOf_eq {T : Nat → TS} {t : TS} (h : Rel T t) {by_ : Int32} (hg : by_ = 0 → ∀ i, i < 3 → GR (T i) t i) {o : Nat} (ho : o < 6) : xCostOf T o by_ = mCostOf t o by_ := cost_eq h hg ho 64 (by omega)
theorem planL_eq {T : Nat → TS} {t : TS} (h : Rel T t) {by_ : Int32} (hg : by_ = 0 → ∀ i, i < 3 → GR (T i) t i) : ∀ (k o b : Nat), o + k = 6 → b < 6 → xplanL T by_ k o b = planL t by_ k o b ∧ planL t by_ k o b < 6
  | 0, _, _, _, hb => ⟨rfl, hb⟩
  | k + 1, o, b, ho, hb => by
    unfold xplanL planL
    rw [costOf_eq h hg (show o < 6 by omega), costOf_eq h hg hb]
    exact planL_eq h hg k (o + 1) _ (by omega) (by split <;> omega)
theorem ok_cost {T : Nat → TS} {t : TS} (h : Rel T t) (od by_ : Int32) : Ok (xCost T od by_) (mCost t od by_) := by
  have e5 : (5 : Int32).toInt = 5 := rfl
  have e6 : (6 : Int32).toInt = 6 := rfl
  have e0 : (0 : Int32).toInt = 0 := rfl
  have hc : isInF od 0 5 = 0 ↔ (od < 0 ∨ ¬ od < 6) := by
    rw [isInF_iff, lt_iff, lt_iff, e5, e6, e0]
    omega
  unfold xCost mCost
  by_cases c : od < 0 ∨ ¬ od < 6
  · rw [if_pos c, if_pos (hc.mpr c)]; exact ⟨rfl, h⟩
  · rw [if_neg c, if_neg (fun z => c (hc.mp z))]
    have hod : od.toNatClampNeg < 6 := by
      obtain ⟨o, ho, rfl⟩ := isInF_nI 5 (by decide) (v := od) (fun z => c (hc.mp z))
      rw [nI_clamp (by omega)]
      omega
    obtain ⟨h1, h2⟩ := h.spA
    refine ⟨?_, h1⟩
    show xCostOf (spAll T) od.toNatClampNeg by_ = mCostOf (allG t) od.toNatClampNeg by_
    exact costOf_eq h1 (fun _ => h2) hod
theorem ok_plan {T : Nat → TS} {t : TS} (h : Rel T t) (by_ : Int32) : xplanN (spAll T) by_ = planN t by_ ∧ planN t by_ < 6 ∧ Rel (spAll T) (allG t) := by
  obtain ⟨h1, h2⟩ := h.spA
  obtain ⟨k1, k2⟩ := planL_eq h1 (by_ := by_) (fun _ => h2) 5 1 0 (by omega) (by omega)
  unfold xplanN planN
  exact ⟨k1, k2, h1⟩
theorem ok_lost {T : Nat → TS} {t : TS} (h : Rel T t) : xCostOf (spAll T) (xplanN (spAll T) 0) 1 - xCostOf (spAll T) (xplanN (spAll T) 1) 1 = mCostOf (allG (allG t)) (planN t 0) 1 - mCostOf (allG (allG t)) (planN (allG t) 1) 1 ∧ Rel (spAll T) (allG (allG t)) := by
  obtain ⟨a1, a2, a3⟩ := ok_plan h 0
  have h4 : Rel (spAll T) (allG (allG t)) := a3.gAll
  have n1 : ¬ (1 : Int32) = 0 := by decide
  obtain ⟨k1, k2⟩ := planL_eq h4 (by_ := 1) (fun z => absurd z n1) 5 1 0 (by omega) (by omega)
  have k1' : xplanN (spAll T) 1 = planN (allG t) 1 := by unfold xplanN planN; exact k1
  have k2' : planN (allG t) 1 < 6 := by unfold planN; exact k2
  rw [a1, k1', costOf_eq h4 (fun z => absurd z n1) a2, costOf_eq h4 (fun z => absurd z n1) k2']
  exact ⟨rfl, h4⟩
