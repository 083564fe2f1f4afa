/-! the bounds of a Table; a step, a pass, and all passes of climbing -/
def Ed (r : Int) (n : Nat) (kp : Nat → Prop) (a b : Nat → Nat) (lo hi : Nat → Int) (u v : Nat) (w : Int) : Prop := (v = u + 1 ∧ u < 64 ∧ w = 0) ∨ (u = 0 ∧ v = 64 ∧ w = r) ∨ (u = 64 ∧ v = 0 ∧ w = -r) ∨ (∃ s, s < n ∧ kp s ∧ u = a s ∧ v = b s ∧ w = lo s) ∨ (∃ s, s < n ∧ kp s ∧ u = b s ∧ v = a s ∧ w = - hi s)
def nT (t : TS) : Nat := (t.1 1).toNatClampNeg
def aT (t : TS) (s : Nat) : Nat := (t.2 3 s).toNatClampNeg
def bT (t : TS) (s : Nat) : Nat := (t.2 4 s).toNatClampNeg
def loT (t : TS) (s : Nat) : Int := (t.2 5 s).toInt
def hiT (t : TS) (s : Nat) : Int := (t.2 6 s).toInt
def EdT (t : TS) (kp : Nat → Prop) : Nat → Nat → Int → Prop := Ed (t.1 0).toInt (nT t) kp (aT t) (bT t) (loT t) (hiT t)
def kpT (t : TS) : Nat → Prop := fun s => t.2 7 s = 0
def gT (t : TS) : Prop := okT t ∧ (0 ≤ (t.1 0).toInt ∧ (t.1 0).toInt ≤ 1000000) ∧ ∀ s, s < nT t → 0 ≤ loT t s ∧ loT t s ≤ hiT t s ∧ hiT t s ≤ 1000001
theorem gT.a {t : TS} (h : gT t) {s : Nat} (hs : s < nT t) : aT t s ≤ 64 := by
  have := (vp_in_c (h.1.2 s hs).1 (by decide)).2
  unfold aT
  omega
theorem gT.b {t : TS} (h : gT t) {s : Nat} (hs : s < nT t) : bT t s ≤ 64 := by
  have := (vp_in_c (h.1.2 s hs).2 (by decide)).2
  unfold bT
  omega
theorem EdT_mono (t : TS) (kp : Nat → Prop) : ∀ j, j < 64 → EdT t kp j (j + 1) 0 := fun j hj => Or.inl ⟨rfl, hj, rfl⟩
theorem DS.mono {E : Nat → Nat → Int → Prop} (hE : ∀ j, j < 64 → E j (j + 1) 0) {x : Nat → Int} (hx : DS E x) : mono x := fun j hj => by
  have := hx j (j + 1) 0 (hE j hj)
  omega
theorem raise_step {E : Nat → Nat → Int → Prop} (hEm : ∀ j, j < 64 → E j (j + 1) 0) {g : Nat → Int32} (hm : mono (ii g)) {u v : Nat} {w : Int} (hE : E u v w) (hu : u ≤ 64) (hv : v ≤ 64) (h : Int32) (hh : h.toInt = ii g u + w) :
    mono (ii (raiseAt g v h).1) ∧ Up E (ii g) (ii (raiseAt g v h).1) ∧ ii g u + w ≤ ii (raiseAt g v h).1 v ∧ ((raiseAt g v h).2 = 0 → ∀ j, j ≤ 64 → ii (raiseAt g v h).1 j = ii g j) := by
  obtain ⟨h1, h2, h3⟩ := raiseAt_char hm hv h
  refine ⟨h3, ⟨fun j hj => ?_, fun x hx hg j hj => ?_⟩, ?_, fun e j hj => ?_⟩
  · rw [h1 j hj]; split <;> omega
  · rw [h1 j hj]
    have a1 := hg j hj
    have a2 := hg u hu
    have a3 := hx u v w hE
    split
    · next hvj =>
      have a4 := mono_le2 (DS.mono hEm hx) hvj hj
      omega
    · exact a1
  · rw [h1 v hv, if_pos (Nat.le_refl _)]
    omega
  · have a1 := h2 e
    rw [h1 j hj]
    split
    · next hvj =>
      have a4 := mono_le2 hm hvj hj
      omega
    · rfl
theorem orI_0 {a b : Int32} (h : orI a b = 0) : a = 0 ∧ b = 0 := by
  unfold orI at h
  split at h
  · exact ⟨‹_›, h⟩
  · exact absurd h (by decide)
def inB (E : Nat → Nat → Int → Prop) (x0 : Nat → Int) (g : Nat → Int32) : Prop := mono (ii g) ∧ DS E x0 ∧ (∀ j, j ≤ 64 → -3000000 ≤ ii g j) ∧ (∀ j, j ≤ 64 → ii g j ≤ x0 j) ∧ ∀ j, j ≤ 64 → x0 j ≤ 5000000
theorem inB.up {E : Nat → Nat → Int → Prop} {x0 : Nat → Int} {g g' : Nat → Int32} (h : inB E x0 g) (hm : mono (ii g')) (hU : Up E (ii g) (ii g')) : inB E x0 g' := ⟨hm, h.2.1, fun j hj => Int.le_trans (h.2.2.1 j hj) (hU.1 j hj), hU.2 x0 h.2.1 h.2.2.2.1, h.2.2.2.2⟩
theorem climbS_spec {t : TS} (hg : gT t) {E : Nat → Nat → Int → Prop} (hEm : ∀ j, j < 64 → E j (j + 1) 0) {x0 : Nat → Int} {s : Nat} (hs : s < nT t) (hE : t.2 7 s = 0 → E (aT t s) (bT t s) (loT t s) ∧ E (bT t s) (aT t s) (- hiT t s)) {r : (Nat → Int32) × Int32} (hB : inB E x0 r.1) :
    mono (ii (climbS t s r).1) ∧ Up E (ii r.1) (ii (climbS t s r).1) ∧ (t.2 7 s = 0 → ii r.1 (aT t s) + loT t s ≤ ii (climbS t s r).1 (bT t s) ∧ ii r.1 (bT t s) - hiT t s ≤ ii (climbS t s r).1 (aT t s)) ∧ ((climbS t s r).2 = 0 → r.2 = 0 ∧ ∀ j, j ≤ 64 → ii (climbS t s r).1 j = ii r.1 j) := by
  have ha := hg.a hs
  have hb := hg.b hs
  obtain ⟨l1, l2, l3⟩ := hg.2.2 s hs
  by_cases hk : t.2 7 s = 0
  · obtain ⟨hE1, hE2⟩ := hE hk
    have q1 := hB.2.2.1 _ ha
    have q2 := hB.2.2.2.1 _ ha
    have q3 := hB.2.2.2.2 _ ha
    have e1 : (r.1 (aT t s) + t.2 5 s).toInt = ii r.1 (aT t s) + loT t s := fb_addI (by show -2147483648 ≤ ii r.1 (aT t s) + loT t s; omega) (by show ii r.1 (aT t s) + loT t s < 2147483648; omega)
    obtain ⟨m1, u1, c1, f1⟩ := raise_step hEm hB.1 hE1 ha hb _ e1
    have hB1 := hB.up m1 u1
    have q4 := hB1.2.2.1 _ hb
    have q5 := hB1.2.2.2.1 _ hb
    have q6 := hB1.2.2.2.2 _ hb
    have e2 : ((raiseAt r.1 (bT t s) (r.1 (aT t s) + t.2 5 s)).1 (bT t s) - t.2 6 s).toInt = ii (raiseAt r.1 (bT t s) (r.1 (aT t s) + t.2 5 s)).1 (bT t s) + - hiT t s := by
      rw [fb_subI (by show -2147483648 ≤ ii (raiseAt r.1 (bT t s) (r.1 (aT t s) + t.2 5 s)).1 (bT t s) - hiT t s; omega) (by show ii (raiseAt r.1 (bT t s) (r.1 (aT t s) + t.2 5 s)).1 (bT t s) - hiT t s < 2147483648; omega)]
      show ii _ _ - hiT t s = _
      omega
    obtain ⟨m2, u2, c2, f2⟩ := raise_step hEm hB1.1 hE2 hb ha _ e2
    have e : climbS t s r = ((raiseAt (raiseAt r.1 (bT t s) (r.1 (aT t s) + t.2 5 s)).1 (aT t s) ((raiseAt r.1 (bT t s) (r.1 (aT t s) + t.2 5 s)).1 (bT t s) - t.2 6 s)).1, orI (raiseAt (raiseAt r.1 (bT t s) (r.1 (aT t s) + t.2 5 s)).1 (aT t s) ((raiseAt r.1 (bT t s) (r.1 (aT t s) + t.2 5 s)).1 (bT t s) - t.2 6 s)).2 (orI (raiseAt r.1 (bT t s) (r.1 (aT t s) + t.2 5 s)).2 r.2)) := by
      rw [climbS, if_pos hk]
      rfl
    rw [e]
    refine ⟨m2, u1.trans u2, fun _ => ⟨?_, ?_⟩, fun h0 => ?_⟩
    · exact Int.le_trans c1 (u2.1 _ hb)
    · have := u1.1 _ hb
      exact Int.le_trans (by omega) c2
    · obtain ⟨h1, h2⟩ := orI_0 h0
      obtain ⟨h3, h4⟩ := orI_0 h2
      exact ⟨h4, fun j hj => (f2 h1 j hj).trans (f1 h3 j hj)⟩
  · have e : climbS t s r = r := by rw [climbS, if_neg hk]
    rw [e]
    exact ⟨hB.1, Up.rf _ _, fun q => absurd q hk, fun h0 => ⟨h0, fun _ _ => rfl⟩⟩
theorem climbIn_spec {t : TS} (hg : gT t) {E : Nat → Nat → Int → Prop} (hEm : ∀ j, j < 64 → E j (j + 1) 0) {x0 : Nat → Int} (hE : ∀ s, s < nT t → t.2 7 s = 0 → E (aT t s) (bT t s) (loT t s) ∧ E (bT t s) (aT t s) (- hiT t s)) : ∀ (k s : Nat) (r : (Nat → Int32) × Int32), s + k ≤ nT t → inB E x0 r.1 →
    mono (ii (climbIn t k s r).1) ∧ Up E (ii r.1) (ii (climbIn t k s r).1) ∧ (∀ q, s ≤ q → q < s + k → t.2 7 q = 0 → ii r.1 (aT t q) + loT t q ≤ ii (climbIn t k s r).1 (bT t q) ∧ ii r.1 (bT t q) - hiT t q ≤ ii (climbIn t k s r).1 (aT t q)) ∧ ((climbIn t k s r).2 = 0 → r.2 = 0 ∧ ∀ j, j ≤ 64 → ii (climbIn t k s r).1 j = ii r.1 j)
  | 0, s, r, hk, hB => ⟨hB.1, Up.rf _ _, fun q h1 h2 => by omega, fun h0 => ⟨h0, fun _ _ => rfl⟩⟩
  | k + 1, s, r, hk, hB => by
    obtain ⟨m1, u1, c1, f1⟩ := climbS_spec hg hEm (s := s) (by omega) (hE s (by omega)) hB
    obtain ⟨m2, u2, c2, f2⟩ := climbIn_spec hg hEm hE k (s + 1) (climbS t s r) (by omega) (hB.up m1 u1)
    show mono (ii (climbIn t k (s + 1) (climbS t s r)).1) ∧ Up E (ii r.1) (ii (climbIn t k (s + 1) (climbS t s r)).1) ∧ _ ∧ _
    refine ⟨m2, u1.trans u2, fun q h1 h2 h3 => ?_, fun h0 => ?_⟩
    · by_cases hq : q = s
      · subst hq
        obtain ⟨d1, d2⟩ := c1 h3
        have := u2.1 _ (hg.b (s := q) (by omega))
        have := u2.1 _ (hg.a (s := q) (by omega))
        show _ ≤ ii (climbIn t k (q + 1) (climbS t q r)).1 _ ∧ _ ≤ ii (climbIn t k (q + 1) (climbS t q r)).1 _
        omega
      · obtain ⟨d1, d2⟩ := c2 q (by omega) (by omega) h3
        have := u1.1 _ (hg.b (s := q) (by omega))
        have := u1.1 _ (hg.a (s := q) (by omega))
        show _ ≤ ii (climbIn t k (s + 1) (climbS t s r)).1 _ ∧ _ ≤ ii (climbIn t k (s + 1) (climbS t s r)).1 _
        omega
    · obtain ⟨h1, h2⟩ := f2 h0
      obtain ⟨h3, h4⟩ := f1 h1
      exact ⟨h3, fun j hj => (h2 j hj).trans (h4 j hj)⟩
theorem climbPass_spec {t : TS} (hg : gT t) {x0 : Nat → Int} {g : Nat → Int32} (hB : inB (EdT t (kpT t)) x0 g) :
    mono (ii (climbPass t g).1) ∧ Up (EdT t (kpT t)) (ii g) (ii (climbPass t g).1) ∧ (∀ u v w, EdT t (kpT t) u v w → ii g u + w ≤ ii (climbPass t g).1 v) ∧ ((climbPass t g).2 = 0 → ∀ j, j ≤ 64 → ii (climbPass t g).1 j = ii g j) := by
  have hEm := EdT_mono t (kpT t)
  obtain ⟨r0, r1⟩ := hg.2.1
  have q1 := hB.2.2.1 64 (by decide)
  have q2 := hB.2.2.2.1 64 (by decide)
  have q3 := hB.2.2.2.2 64 (by decide)
  have hE1 : EdT t (kpT t) 64 0 (-(t.1 0).toInt) := Or.inr (Or.inr (Or.inl ⟨rfl, rfl, rfl⟩))
  have hE2 : EdT t (kpT t) 0 64 (t.1 0).toInt := Or.inr (Or.inl ⟨rfl, rfl, rfl⟩)
  have e1 : (g 64 - t.1 0).toInt = ii g 64 + -(t.1 0).toInt := by
    rw [fb_subI (by show -2147483648 ≤ ii g 64 - _; omega) (by show ii g 64 - _ < 2147483648; omega)]
    show ii g 64 - _ = _
    omega
  obtain ⟨m1, u1, c1, f1⟩ := raise_step hEm hB.1 hE1 (by decide) (by decide) _ e1
  have hB1 := hB.up m1 u1
  have q4 := hB1.2.2.1 0 (by decide)
  have q5 := hB1.2.2.2.1 0 (by decide)
  have q6 := hB1.2.2.2.2 0 (by decide)
  have e2 : ((raiseAt g 0 (g 64 - t.1 0)).1 0 + t.1 0).toInt = ii (raiseAt g 0 (g 64 - t.1 0)).1 0 + (t.1 0).toInt := fb_addI (by show -2147483648 ≤ ii (raiseAt g 0 (g 64 - t.1 0)).1 0 + _; omega) (by show ii (raiseAt g 0 (g 64 - t.1 0)).1 0 + _ < 2147483648; omega)
  obtain ⟨m2, u2, c2, f2⟩ := raise_step hEm hB1.1 hE2 (by decide) (by decide) _ e2
  have hB2 := hB1.up m2 u2
  obtain ⟨m3, u3, c3, f3⟩ := climbIn_spec (E := EdT t (kpT t)) (x0 := x0) hg hEm (fun s hs hk => ⟨Or.inr (Or.inr (Or.inr (Or.inl ⟨s, hs, hk, rfl, rfl, rfl⟩))), Or.inr (Or.inr (Or.inr (Or.inr ⟨s, hs, hk, rfl, rfl, rfl⟩)))⟩) (nT t) 0 ((raiseAt (raiseAt g 0 (g 64 - t.1 0)).1 64 ((raiseAt g 0 (g 64 - t.1 0)).1 0 + t.1 0)).1, orI (raiseAt (raiseAt g 0 (g 64 - t.1 0)).1 64 ((raiseAt g 0 (g 64 - t.1 0)).1 0 + t.1 0)).2 (raiseAt g 0 (g 64 - t.1 0)).2) (by omega) hB2
  have hpass : climbPass t g = climbIn t (nT t) 0 ((raiseAt (raiseAt g 0 (g 64 - t.1 0)).1 64 ((raiseAt g 0 (g 64 - t.1 0)).1 0 + t.1 0)).1, orI (raiseAt (raiseAt g 0 (g 64 - t.1 0)).1 64 ((raiseAt g 0 (g 64 - t.1 0)).1 0 + t.1 0)).2 (raiseAt g 0 (g 64 - t.1 0)).2) := rfl
  rw [hpass]
  have uall := (u1.trans u2).trans u3
  refine ⟨m3, uall, fun u v w hE => ?_, fun h0 => ?_⟩
  · rcases hE with ⟨rfl, h1, rfl⟩ | ⟨rfl, rfl, rfl⟩ | ⟨rfl, rfl, rfl⟩ | ⟨s, h1, h2, rfl, rfl, rfl⟩ | ⟨s, h1, h2, rfl, rfl, rfl⟩
    · have a1 := hB.1 u h1
      have a2 := uall.1 (u + 1) (by omega)
      omega
    · have a1 := u1.1 0 (by decide)
      have a2 := u3.1 64 (by decide)
      show ii g 0 + _ ≤ _
      have a3 : ii (raiseAt (raiseAt g 0 (g 64 - t.1 0)).1 64 ((raiseAt g 0 (g 64 - t.1 0)).1 0 + t.1 0)).1 64 ≤ _ := a2
      omega
    · have a1 := u2.1 0 (by decide)
      have a2 := u3.1 0 (by decide)
      have a3 : ii (raiseAt (raiseAt g 0 (g 64 - t.1 0)).1 64 ((raiseAt g 0 (g 64 - t.1 0)).1 0 + t.1 0)).1 0 ≤ _ := a2
      omega
    · have a0 := (c3 s (by omega) (by omega) h2).1
      have a1 := (u1.trans u2).1 _ (hg.a h1)
      have a3 : ii (raiseAt (raiseAt g 0 (g 64 - t.1 0)).1 64 ((raiseAt g 0 (g 64 - t.1 0)).1 0 + t.1 0)).1 (aT t s) + loT t s ≤ _ := a0
      omega
    · have a0 := (c3 s (by omega) (by omega) h2).2
      have a1 := (u1.trans u2).1 _ (hg.b h1)
      have a3 : ii (raiseAt (raiseAt g 0 (g 64 - t.1 0)).1 64 ((raiseAt g 0 (g 64 - t.1 0)).1 0 + t.1 0)).1 (bT t s) - hiT t s ≤ _ := a0
      omega
  · obtain ⟨h1, h2⟩ := f3 h0
    obtain ⟨h3, h4⟩ := orI_0 h1
    exact fun j hj => (h2 j hj).trans ((f2 h3 j hj).trans (f1 h4 j hj))
theorem climbF_spec {t : TS} (hg : gT t) {d : Nat → Nat → Int} (hC : Cl (EdT t (kpT t)) d) {g0 : Nat → Int32} (fx : Nat) (hfx : fx ≤ 64) (ht : Int32) (hF5 : ∀ j, j ≤ 64 → Fl d (ii g0) j ≤ 5000000) : ∀ (k : Nat) (g : Nat → Int32) (ch : Int32), inB (EdT t (kpT t)) (Fl d (ii g0)) g → (∀ j, j ≤ 64 → ii g0 j ≤ ii g j) → (ch = 0 → DS (EdT t (kpT t)) (ii g)) → 65 ≤ ctN (fun j => decide (ii g j = Fl d (ii g0) j)) 65 + k →
    mono (ii (climbF t fx ht k g ch)) ∧ (∀ j, j ≤ 64 → ii g0 j ≤ ii (climbF t fx ht k g ch) j ∧ ii (climbF t fx ht k g ch) j ≤ Fl d (ii g0) j) ∧ (ht.toInt < ii (climbF t fx ht k g ch) fx ∨ ∀ j, j ≤ 64 → ii (climbF t fx ht k g ch) j = Fl d (ii g0) j)
  | 0, g, ch, hB, hg0, hch, hct => by
    have hall := ctN_all (p := fun j => decide (ii g j = Fl d (ii g0) j)) (n := 65) (by omega)
    refine ⟨hB.1, fun j hj => ⟨hg0 j hj, hB.2.2.2.1 j hj⟩, Or.inr (fun j hj => ?_)⟩
    have := hall j (by omega)
    have e9 : ii g j = Fl d (ii g0) j := by simpa using this
    exact e9
  | k + 1, g, ch, hB, hg0, hch, hct => by
    unfold climbF
    by_cases h1 : ch = 0
    · rw [if_pos h1]
      refine ⟨hB.1, fun j hj => ⟨hg0 j hj, hB.2.2.2.1 j hj⟩, Or.inr (fun j hj => ?_)⟩
      have a1 := Fl_least hC (ii g0) (ii g) (hch h1) hg0 hj
      have a2 := hB.2.2.2.1 j hj
      omega
    · rw [if_neg h1]
      by_cases h2 : ht < g fx
      · rw [if_pos h2]
        exact ⟨hB.1, fun j hj => ⟨hg0 j hj, hB.2.2.2.1 j hj⟩, Or.inl ((lt_iff _ _).mp h2)⟩
      · rw [if_neg h2]
        obtain ⟨m1, u1, c1, f1⟩ := climbPass_spec hg hB
        have hB' := hB.up m1 u1
        refine climbF_spec hg hC fx hfx ht hF5 k _ _ hB' (fun j hj => Int.le_trans (hg0 j hj) (u1.1 j hj)) (fun h0 => ?_) ?_
        · intro u v w hE
          obtain ⟨hu, hv, -⟩ := hC.2.2.2 u v w hE
          rw [f1 h0 u hu]
          exact c1 u v w hE
        · have hsub : ∀ q, q < 65 → (fun j => decide (ii g j = Fl d (ii g0) j)) q = true → (fun j => decide (ii (climbPass t g).1 j = Fl d (ii g0) j)) q = true := by
            intro q hq hq2
            have a1 : ii g q = Fl d (ii g0) q := by simpa using hq2
            have a2 := u1.1 q (by omega)
            have a3 := hB'.2.2.2.1 q (by omega)
            have : ii (climbPass t g).1 q = Fl d (ii g0) q := by omega
            simpa using this
          rcases up_grow hC hg0 hB.2.2.2.1 u1 c1 with hall | ⟨j, hj, e1, e2⟩
          · have : ∀ n, n ≤ 65 → n ≤ ctN (fun j => decide (ii (climbPass t g).1 j = Fl d (ii g0) j)) n := by
              intro n
              induction n with
              | zero => intro _; exact Nat.zero_le _
              | succ n ihn =>
                intro hn
                have a1 := ihn (by omega)
                unfold ctN
                rw [if_pos (by simpa using hall n (by omega))]
                omega
            have := this 65 (Nat.le_refl _)
            omega
          · have := ctN_lt hsub ⟨j, by omega, by simpa using e1, by simpa using e2⟩
            omega
