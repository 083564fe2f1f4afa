/-! sinking -/
theorem lower_step {E : Nat → Nat → Int → Prop} (hEm : ∀ j, j < 64 → E j (j + 1) 0) {g : Nat → Int32} (hm : mono (ii g)) {u v : Nat} {w : Int} (hE : E u v w) (hu : u ≤ 64) (hv : v ≤ 64) (h : Int32) (hh : h.toInt = ii g v - w) :
    mono (ii (lowerAt g u h).1) ∧ Dn E (ii g) (ii (lowerAt g u h).1) ∧ ii (lowerAt g u h).1 u + w ≤ ii g v ∧ ((lowerAt g u h).2 = 0 → ∀ j, j ≤ 64 → ii (lowerAt g u h).1 j = ii g j) := by
  obtain ⟨h1, h2, h3⟩ := lowerAt_char hm hu h
  refine ⟨h3, ⟨fun j hj => ?_, fun x hx hg j hj => ?_⟩, ?_, fun e j hj => ?_⟩
  · rw [h1 j hj]; split <;> omega
  · rw [h1 j hj]
    have a1 := hg j hj
    have a2 := hg v hv
    have a3 := hx u v w hE
    split
    · next hvj =>
      have a4 := mono_le2 (DS.mono hEm hx) hvj hu
      omega
    · exact a1
  · rw [h1 u hu, if_pos (Nat.le_refl _)]
    omega
  · have a1 := h2 e
    rw [h1 j hj]
    split
    · next hvj =>
      have a4 := mono_le2 hm hvj hu
      omega
    · rfl
def inD (E : Nat → Nat → Int → Prop) (x0 : Nat → Int) (g : Nat → Int32) : Prop := mono (ii g) ∧ DS E x0 ∧ (∀ j, j ≤ 64 → -3000000 ≤ x0 j) ∧ (∀ j, j ≤ 64 → x0 j ≤ ii g j) ∧ ∀ j, j ≤ 64 → ii g j ≤ 5000000
theorem inD.dn {E : Nat → Nat → Int → Prop} {x0 : Nat → Int} {g g' : Nat → Int32} (h : inD E x0 g) (hm : mono (ii g')) (hU : Dn E (ii g) (ii g')) : inD E x0 g' := ⟨hm, h.2.1, h.2.2.1, hU.2 x0 h.2.1 h.2.2.2.1, fun j hj => Int.le_trans (hU.1 j hj) (h.2.2.2.2 j hj)⟩
theorem sinkS_spec {t : TS} (hg : gT t) {E : Nat → Nat → Int → Prop} (hEm : ∀ j, j < 64 → E j (j + 1) 0) {x0 : Nat → Int} {s : Nat} (hs : s < nT t) (hE : t.2 7 s = 0 → E (aT t s) (bT t s) (loT t s) ∧ E (bT t s) (aT t s) (- hiT t s)) {r : (Nat → Int32) × Int32} (hB : inD E x0 r.1) :
    mono (ii (sinkS t s r).1) ∧ Dn E (ii r.1) (ii (sinkS t s r).1) ∧ (t.2 7 s = 0 → ii (sinkS t s r).1 (aT t s) + loT t s ≤ ii r.1 (bT t s) ∧ ii (sinkS t s r).1 (bT t s) - hiT t s ≤ ii r.1 (aT t s)) ∧ ((sinkS t s r).2 = 0 → r.2 = 0 ∧ ∀ j, j ≤ 64 → ii (sinkS t s r).1 j = ii r.1 j) := by
  have ha := hg.a hs
  have hb := hg.b hs
  obtain ⟨l1, l2, l3⟩ := hg.2.2 s hs
  by_cases hk : t.2 7 s = 0
  · obtain ⟨hE1, hE2⟩ := hE hk
    have q1 := hB.2.2.1 _ hb
    have q2 := hB.2.2.2.1 _ hb
    have q3 := hB.2.2.2.2 _ hb
    have e1 : (r.1 (bT t s) - t.2 5 s).toInt = ii r.1 (bT t s) - loT t s := fb_subI (by show -2147483648 ≤ ii r.1 (bT t s) - loT t s; omega) (by show ii r.1 (bT t s) - loT t s < 2147483648; omega)
    obtain ⟨m1, u1, c1, f1⟩ := lower_step hEm hB.1 hE1 ha hb _ e1
    have hB1 := hB.dn m1 u1
    have q4 := hB1.2.2.1 _ ha
    have q5 := hB1.2.2.2.1 _ ha
    have q6 := hB1.2.2.2.2 _ ha
    have e2 : ((lowerAt r.1 (aT t s) (r.1 (bT t s) - t.2 5 s)).1 (aT t s) + t.2 6 s).toInt = ii (lowerAt r.1 (aT t s) (r.1 (bT t s) - t.2 5 s)).1 (aT t s) - - hiT t s := by
      rw [fb_addI (by show -2147483648 ≤ ii (lowerAt r.1 (aT t s) (r.1 (bT t s) - t.2 5 s)).1 (aT t s) + hiT t s; omega) (by show ii (lowerAt r.1 (aT t s) (r.1 (bT t s) - t.2 5 s)).1 (aT t s) + hiT t s < 2147483648; omega)]
      show ii _ _ + hiT t s = _
      omega
    obtain ⟨m2, u2, c2, f2⟩ := lower_step hEm hB1.1 hE2 hb ha _ e2
    have e : sinkS t s r = ((lowerAt (lowerAt r.1 (aT t s) (r.1 (bT t s) - t.2 5 s)).1 (bT t s) ((lowerAt r.1 (aT t s) (r.1 (bT t s) - t.2 5 s)).1 (aT t s) + t.2 6 s)).1, orI (lowerAt (lowerAt r.1 (aT t s) (r.1 (bT t s) - t.2 5 s)).1 (bT t s) ((lowerAt r.1 (aT t s) (r.1 (bT t s) - t.2 5 s)).1 (aT t s) + t.2 6 s)).2 (orI (lowerAt r.1 (aT t s) (r.1 (bT t s) - t.2 5 s)).2 r.2)) := by
      rw [sinkS, if_pos hk]
      rfl
    rw [e]
    refine ⟨m2, u1.trans u2, fun _ => ⟨?_, ?_⟩, fun h0 => ?_⟩
    · have z1 := u2.1 _ ha
      exact Int.le_trans (Int.add_le_add_right z1 _) c1
    · have z1 := u1.1 _ ha
      exact Int.le_trans c2 z1
    · obtain ⟨h1, h2⟩ := orI_0 h0
      obtain ⟨h3, h4⟩ := orI_0 h2
      exact ⟨h4, fun j hj => (f2 h1 j hj).trans (f1 h3 j hj)⟩
  · have e : sinkS t s r = r := by rw [sinkS, if_neg hk]
    rw [e]
    exact ⟨hB.1, Dn.rf _ _, fun q => absurd q hk, fun h0 => ⟨h0, fun _ _ => rfl⟩⟩
theorem sinkIn_spec {t : TS} (hg : gT t) {E : Nat → Nat → Int → Prop} (hEm : ∀ j, j < 64 → E j (j + 1) 0) {x0 : Nat → Int} (hE : ∀ s, s < nT t → t.2 7 s = 0 → E (aT t s) (bT t s) (loT t s) ∧ E (bT t s) (aT t s) (- hiT t s)) : ∀ (k s : Nat) (r : (Nat → Int32) × Int32), s + k ≤ nT t → inD E x0 r.1 →
    mono (ii (sinkIn t k s r).1) ∧ Dn E (ii r.1) (ii (sinkIn t k s r).1) ∧ (∀ q, s ≤ q → q < s + k → t.2 7 q = 0 → ii (sinkIn t k s r).1 (aT t q) + loT t q ≤ ii r.1 (bT t q) ∧ ii (sinkIn t k s r).1 (bT t q) - hiT t q ≤ ii r.1 (aT t q)) ∧ ((sinkIn t k s r).2 = 0 → r.2 = 0 ∧ ∀ j, j ≤ 64 → ii (sinkIn t k s r).1 j = ii r.1 j)
  | 0, s, r, hk, hB => ⟨hB.1, Dn.rf _ _, fun q h1 h2 => by omega, fun h0 => ⟨h0, fun _ _ => rfl⟩⟩
  | k + 1, s, r, hk, hB => by
    obtain ⟨m1, u1, c1, f1⟩ := sinkS_spec hg hEm (s := s) (by omega) (hE s (by omega)) hB
    obtain ⟨m2, u2, c2, f2⟩ := sinkIn_spec hg hEm hE k (s + 1) (sinkS t s r) (by omega) (hB.dn m1 u1)
    show mono (ii (sinkIn t k (s + 1) (sinkS t s r)).1) ∧ Dn E (ii r.1) (ii (sinkIn t k (s + 1) (sinkS t s r)).1) ∧ _ ∧ _
    refine ⟨m2, u1.trans u2, fun q h1 h2 h3 => ?_, fun h0 => ?_⟩
    · by_cases hq : q = s
      · subst hq
        obtain ⟨d1, d2⟩ := c1 h3
        have := u2.1 _ (hg.b (s := q) (by omega))
        have := u2.1 _ (hg.a (s := q) (by omega))
        show ii (sinkIn t k (q + 1) (sinkS t q r)).1 _ + _ ≤ _ ∧ ii (sinkIn t k (q + 1) (sinkS t q r)).1 _ - _ ≤ _
        omega
      · obtain ⟨d1, d2⟩ := c2 q (by omega) (by omega) h3
        have := u1.1 _ (hg.b (s := q) (by omega))
        have := u1.1 _ (hg.a (s := q) (by omega))
        show ii (sinkIn t k (s + 1) (sinkS t s r)).1 _ + _ ≤ _ ∧ ii (sinkIn t k (s + 1) (sinkS t s r)).1 _ - _ ≤ _
        omega
    · obtain ⟨h1, h2⟩ := f2 h0
      obtain ⟨h3, h4⟩ := f1 h1
      exact ⟨h3, fun j hj => (h2 j hj).trans (h4 j hj)⟩
theorem sinkP_spec {t : TS} (hg : gT t) {x0 : Nat → Int} {g : Nat → Int32} (hB : inD (EdT t (kpT t)) x0 g) (h64 : ii g 64 = ii g 0 + (t.1 0).toInt) :
    mono (ii (sinkIn t (nT t) 0 (g, 0)).1) ∧ Dn (EdT t (kpT t)) (ii g) (ii (sinkIn t (nT t) 0 (g, 0)).1) ∧ (∀ u v w, EdT t (kpT t) u v w → ii (sinkIn t (nT t) 0 (g, 0)).1 u + w ≤ ii g v) ∧ ((sinkIn t (nT t) 0 (g, 0)).2 = 0 → ∀ j, j ≤ 64 → ii (sinkIn t (nT t) 0 (g, 0)).1 j = ii g j) := by
  have hEm := EdT_mono t (kpT t)
  obtain ⟨m3, u3, c3, f3⟩ := sinkIn_spec (E := EdT t (kpT t)) (x0 := x0) hg hEm (fun s hs hk => ⟨Or.inr (Or.inr (Or.inr (Or.inl ⟨s, hs, hk, rfl, rfl, rfl⟩))), Or.inr (Or.inr (Or.inr (Or.inr ⟨s, hs, hk, rfl, rfl, rfl⟩)))⟩) (nT t) 0 (g, 0) (by omega) hB
  refine ⟨m3, u3, fun u v w hE => ?_, fun h0 => (f3 h0).2⟩
  rcases hE with ⟨rfl, h1, rfl⟩ | ⟨rfl, rfl, rfl⟩ | ⟨rfl, rfl, rfl⟩ | ⟨s, h1, h2, rfl, rfl, rfl⟩ | ⟨s, h1, h2, rfl, rfl, rfl⟩
  · have a1 := hB.1 u h1
    have a2 : ii (sinkIn t (nT t) 0 (g, 0)).1 u ≤ ii g u := u3.1 u (by omega)
    omega
  · have a2 : ii (sinkIn t (nT t) 0 (g, 0)).1 0 ≤ ii g 0 := u3.1 0 (by decide)
    omega
  · have a2 : ii (sinkIn t (nT t) 0 (g, 0)).1 64 ≤ ii g 64 := u3.1 64 (by decide)
    omega
  · exact (c3 s (by omega) (by omega) h2).1
  · have a0 : ii (sinkIn t (nT t) 0 (g, 0)).1 (bT t s) - hiT t s ≤ ii g (aT t s) := (c3 s (by omega) (by omega) h2).2
    omega
theorem sinkF_spec {t : TS} (hg : gT t) {d : Nat → Nat → Int} (hC : Cl (EdT t (kpT t)) d) {g0 : Nat → Int32} (he0 : Gl d (ii g0) 0 = ii g0 0) (he64 : Gl d (ii g0) 64 = ii g0 64) : ∀ (k : Nat) (g : Nat → Int32) (ch : Int32), inD (EdT t (kpT t)) (Gl d (ii g0)) g → (∀ j, j ≤ 64 → ii g j ≤ ii g0 j) → (ch = 0 → DS (EdT t (kpT t)) (ii g)) → 65 ≤ ctN (fun j => decide (ii g j = Gl d (ii g0) j)) 65 + k →
    mono (ii (sinkF t k g ch)) ∧ ∀ j, j ≤ 64 → ii (sinkF t k g ch) j = Gl d (ii g0) j
  | 0, g, ch, hB, hg0, hch, hct => by
    have hall := ctN_all (p := fun j => decide (ii g j = Gl d (ii g0) j)) (n := 65) (by omega)
    refine ⟨hB.1, fun j hj => ?_⟩
    have := hall j (by omega)
    have e9 : ii g j = Gl d (ii g0) j := by simpa using this
    exact e9
  | k + 1, g, ch, hB, hg0, hch, hct => by
    unfold sinkF
    by_cases h1 : ch = 0
    · rw [if_pos h1]
      refine ⟨hB.1, fun j hj => ?_⟩
      have a1 := Gl_most hC (ii g0) (ii g) (hch h1) hg0 hj
      have a2 := hB.2.2.2.1 j hj
      omega
    · rw [if_neg h1]
      have b0 := hB.2.2.2.1 0 (by decide)
      have b1 := hg0 0 (by decide)
      have b2 := hB.2.2.2.1 64 (by decide)
      have b3 := hg0 64 (by decide)
      have d1 := Gl_ds hC (ii g0) 0 64 (t.1 0).toInt (Or.inr (Or.inl ⟨rfl, rfl, rfl⟩))
      have d2 := Gl_ds hC (ii g0) 64 0 (-(t.1 0).toInt) (Or.inr (Or.inr (Or.inl ⟨rfl, rfl, rfl⟩)))
      obtain ⟨m1, u1, c1, f1⟩ := sinkP_spec hg hB (by omega)
      have hB' := hB.dn m1 u1
      show mono (ii (sinkF t k (sinkIn t (nT t) 0 (g, 0)).1 (sinkIn t (nT t) 0 (g, 0)).2)) ∧ ∀ j, j ≤ 64 → ii (sinkF t k (sinkIn t (nT t) 0 (g, 0)).1 (sinkIn t (nT t) 0 (g, 0)).2) j = Gl d (ii g0) j
      refine sinkF_spec hg hC he0 he64 k _ _ hB' (fun j hj => Int.le_trans (u1.1 j hj) (hg0 j hj)) (fun h0 => ?_) ?_
      · intro u v w hE
        obtain ⟨hu, hv, -⟩ := hC.2.2.2 u v w hE
        rw [f1 h0 v hv]
        exact c1 u v w hE
      · have hsub : ∀ q, q < 65 → (fun j => decide (ii g j = Gl d (ii g0) j)) q = true → (fun j => decide (ii (sinkIn t (nT t) 0 (g, 0)).1 j = Gl d (ii g0) j)) q = true := by
          intro q hq hq2
          have a1 : ii g q = Gl d (ii g0) q := by simpa using hq2
          have a2 := u1.1 q (by omega)
          have a3 := hB'.2.2.2.1 q (by omega)
          have : ii (sinkIn t (nT t) 0 (g, 0)).1 q = Gl d (ii g0) q := by omega
          simpa using this
        rcases dn_grow hC hg0 hB.2.2.2.1 u1 c1 with hall | ⟨j, hj, e1, e2⟩
        · have : ∀ n, n ≤ 65 → n ≤ ctN (fun j => decide (ii (sinkIn t (nT t) 0 (g, 0)).1 j = Gl d (ii g0) j)) n := by
            intro n
            induction n with
            | zero => intro _; exact Nat.zero_le _
            | succ n ihn =>
              intro hn
              have a1 := ihn (by omega)
              unfold ctN
              rw [if_pos (by simpa using hall n (by omega))]
              omega
          have := this 65 (Nat.le_refl _)
          omega
        · have := ctN_lt hsub ⟨j, by omega, by simpa using e1, by simpa using e2⟩
          omega
