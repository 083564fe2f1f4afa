/-! what the closure says; leastStep; one sight more -/
def baseE (r : Int) (E : Nat → Nat → Int → Prop) : Prop := (∀ j, j < 64 → E j (j + 1) 0) ∧ E 0 64 r ∧ E 64 0 (-r)
theorem EdT_base (t : TS) (kp : Nat → Prop) : baseE (t.1 0).toInt (EdT t kp) := ⟨EdT_mono t kp, Or.inr (Or.inl ⟨rfl, rfl, rfl⟩), Or.inr (Or.inr (Or.inl ⟨rfl, rfl, rfl⟩))⟩
theorem Cl.down {r : Int} {E : Nat → Nat → Int → Prop} {d : Nat → Nat → Int} (hb : baseE r E) (h : Cl E d) : ∀ (k i : Nat), i + k ≤ 64 → d (i + k) i ≤ 0
  | 0, i, hk => by
    have := h.2.2.1 i (by omega)
    show d i i ≤ 0
    omega
  | k + 1, i, hk => by
    have a1 := Cl.down hb h k i (by omega)
    have a2 := (h.2.2.2 (i + k) (i + k + 1) 0 (hb.1 (i + k) (by omega))).2.2
    have a3 := h.2.1 (i + k + 1) (i + k) i (by omega) (by omega) (by omega)
    show d (i + k + 1) i ≤ 0
    omega
theorem Cl.le0 {r : Int} {E : Nat → Nat → Int → Prop} {d : Nat → Nat → Int} (hb : baseE r E) (h : Cl E d) {i j : Nat} (hij : i ≤ j) (hj : j ≤ 64) : d j i ≤ 0 := by
  have := Cl.down hb h (j - i) i (by omega)
  rwa [show i + (j - i) = j by omega] at this
theorem Cl.ge0 {r : Int} {E : Nat → Nat → Int → Prop} {d : Nat → Nat → Int} (hb : baseE r E) (h : Cl E d) {i j : Nat} (hij : i ≤ j) (hj : j ≤ 64) : 0 ≤ d i j := by
  have a1 := h.le0 hb hij hj
  have a2 := h.2.1 i j i (by omega) hj (by omega)
  have a3 := h.2.2.1 i (by omega)
  omega
theorem Cl.ler {r : Int} {E : Nat → Nat → Int → Prop} {d : Nat → Nat → Int} (hb : baseE r E) (h : Cl E d) {i j : Nat} (hi : i ≤ 64) (hj : j ≤ 64) : d i j ≤ r ∧ -r ≤ d i j := by
  have key : ∀ i j, i ≤ 64 → j ≤ 64 → d i j ≤ r := by
    intro i j hi hj
    have a1 := h.le0 hb (i := 0) (j := i) (by omega) hi
    have a2 := h.le0 hb (i := j) (j := 64) hj (by omega)
    have a3 := (h.2.2.2 64 0 (-r) hb.2.2).2.2
    have a4 := h.2.1 i 0 64 hi (by omega) (by omega)
    have a5 := h.2.1 i 64 j hi (by omega) hj
    omega
  have a1 := key i j hi hj
  have a2 := key j i hj hi
  have a3 := h.2.1 i j i hi hj hi
  have a4 := h.2.2.1 i hi
  omega
theorem Cl.d64 {r : Int} {E : Nat → Nat → Int → Prop} {d : Nat → Nat → Int} (hb : baseE r E) (h : Cl E d) : d 0 64 = r ∧ d 64 0 = -r := by
  have a1 := (h.2.2.2 64 0 (-r) hb.2.2).2.2
  have a2 := (h.2.2.2 0 64 r hb.2.1).2.2
  have a3 := h.2.1 0 64 0 (by omega) (by omega) (by omega)
  have a4 := h.2.2.1 0 (by omega)
  omega
theorem lw0_ii (t : TS) {st j : Nat} (hst : st ≤ 64) (hj : j ≤ 64) (hr : (t.1 0).toInt ≠ -2147483648) : ii (lw0 t (nI st) 65) j = if st ≤ j then 0 else -(t.1 0).toInt := by
  show (lw0 t (nI st) 65 j).toInt = _
  unfold lw0
  rw [if_pos (by omega)]
  by_cases h : st ≤ j
  · rw [if_pos h, if_pos (nI_le h (by omega))]
    rfl
  · rw [if_neg h, if_neg (nI_ge (by omega) (by omega)), fb_negI hr]
theorem least_spec {t : TS} (hg : gT t) {d : Nat → Nat → Int} (hC : Cl (EdT t (kpT t)) d) {st : Nat} (hst : st ≤ 64) {j : Nat} (hj : j ≤ 64) : ii (climbF t st 0 66 (lw0 t (nI st) 65) 1) j = - d j st := by
  obtain ⟨r0, r1⟩ := hg.2.1
  have hb := EdT_base t (kpT t)
  have hgi : ∀ j, j ≤ 64 → ii (lw0 t (nI st) 65) j = if st ≤ j then 0 else -(t.1 0).toInt := fun j hj => lw0_ii t hst hj (by omega)
  have hF : ∀ j, j ≤ 64 → Fl d (ii (lw0 t (nI st) 65)) j = - d j st := by
    intro j hj
    have h1 : Fl d (ii (lw0 t (nI st) 65)) j ≤ - d j st := by
      refine mx_le _ _ 64 (fun i hi => ?_)
      show ii (lw0 t (nI st) 65) i - d j i ≤ - d j st
      rw [hgi i hi]
      have a1 := hC.2.1 j i st hj hi hst
      have a2 := (hC.ler hb hi hst).1
      split
      · next h => have := hC.le0 hb h hi; omega
      · omega
    have h2 : ii (lw0 t (nI st) 65) st - d j st ≤ Fl d (ii (lw0 t (nI st) 65)) j := mx_ge (fun i => ii (lw0 t (nI st) 65) i - d j i) 64 st hst
    rw [hgi st hst, if_pos (Nat.le_refl _)] at h2
    omega
  have hm : mono (ii (lw0 t (nI st) 65)) := by
    intro q hq
    rw [hgi q (by omega), hgi (q + 1) (by omega)]
    split <;> split <;> omega
  have hB : inB (EdT t (kpT t)) (Fl d (ii (lw0 t (nI st) 65))) (lw0 t (nI st) 65) := by
    refine ⟨hm, Fl_ds hC _, fun j hj => ?_, fun j hj => Fl_ge hC _ hj, fun j hj => ?_⟩
    · rw [hgi j hj]; split <;> omega
    · rw [hF j hj]
      have := hC.ler hb hj hst
      omega
  obtain ⟨m1, b1, c1⟩ := climbF_spec hg hC st hst 0 (fun j hj => hB.2.2.2.2 j hj) 66 _ 1 hB (fun _ _ => Int.le_refl _) (fun h => absurd h (by decide)) (by omega)
  rcases c1 with c1 | c1
  · have a1 := (b1 st hst).2
    rw [hF st hst, hC.2.2.1 st hst] at a1
    have a2 : (0 : Int32).toInt = 0 := rfl
    omega
  · rw [c1 j hj, hF j hj]
/-- one sight more: E with both its bounds -/
def E2 (E : Nat → Nat → Int → Prop) (a b : Nat) (lo hi : Int) (u v : Nat) (w : Int) : Prop := E u v w ∨ (u = a ∧ v = b ∧ w = lo) ∨ (u = b ∧ v = a ∧ w = - hi)
def canBe (E : Nat → Nat → Int → Prop) (a b : Nat) (lo hi : Int) : Prop := ∃ x, DS E x ∧ lo ≤ x b - x a ∧ x b - x a ≤ hi
theorem Cl.add {E : Nat → Nat → Int → Prop} {d : Nat → Nat → Int} (h : Cl E d) {a b : Nat} (ha : a ≤ 64) (hb : b ≤ 64) {lo hi : Int} (hlh : lo ≤ hi) (h1 : lo ≤ d a b) (h2 : -hi ≤ d b a) : Cl (E2 E a b lo hi) (bd (bd d a b hi) b a (-lo)) := by
  have c1 := h.bind ha hb (y := hi) (by omega)
  have e1 : bd d a b hi a b = min (d a b) hi := by
    unfold bd
    rw [h.2.2.1 a ha, h.2.2.1 b hb]
    omega
  have c2 := c1.bind hb ha (y := -lo) (by rw [e1]; omega)
  refine c2.congr (fun u v w => ?_)
  unfold E2
  constructor
  · rintro ((q | q) | ⟨q1, q2, q3⟩)
    · exact Or.inl q
    · exact Or.inr (Or.inr q)
    · exact Or.inr (Or.inl ⟨q1, q2, by omega⟩)
  · rintro (q | ⟨q1, q2, q3⟩ | q)
    · exact Or.inl (Or.inl q)
    · exact Or.inr ⟨q1, q2, by omega⟩
    · exact Or.inl (Or.inr q)
theorem can_iff {E : Nat → Nat → Int → Prop} {d : Nat → Nat → Int} (h : Cl E d) {a b : Nat} (ha : a ≤ 64) (hb : b ≤ 64) {lo hi : Int} (hlh : lo ≤ hi) : canBe E a b lo hi ↔ (lo ≤ d a b ∧ -hi ≤ d b a) := by
  constructor
  · rintro ⟨x, hx, q1, q2⟩
    have a1 := h.1 x hx a b ha hb
    have a2 := h.1 x hx b a hb ha
    omega
  · rintro ⟨q1, q2⟩
    have c := h.add ha hb hlh q1 q2
    have hr := c.row ha
    refine ⟨_, fun u v w q => hr u v w (Or.inl q), ?_, ?_⟩
    · have q3 := hr a b lo (Or.inr (Or.inl ⟨rfl, rfl, rfl⟩))
      simp only at q3
      omega
    · have q3 := hr b a (-hi) (Or.inr (Or.inr ⟨rfl, rfl, rfl⟩))
      simp only at q3
      omega
/-- the least way with its first mark 0 -/
def Low (E : Nat → Nat → Int → Prop) (x : Nat → Int) : Prop := DS E x ∧ x 0 = 0 ∧ ∀ y, DS E y → ∀ j, j ≤ 64 → x j ≤ y j - y 0
theorem Low.cl {E : Nat → Nat → Int → Prop} {d : Nat → Nat → Int} (h : Cl E d) {x : Nat → Int} (hl : Low E x) {j : Nat} (hj : j ≤ 64) : x j = - d j 0 := by
  have a1 := hl.2.2 _ (h.col (i := 0) (by omega)) j hj
  have a2 := h.1 x hl.1 j 0 hj (by omega)
  have a3 := h.2.2.1 0 (by omega)
  have a4 := hl.2.1
  try simp only at a1
  omega
theorem Low.of {E : Nat → Nat → Int → Prop} {d : Nat → Nat → Int} (h : Cl E d) {x : Nat → Int} (hx : ∀ j, j ≤ 64 → x j = - d j 0) : Low E x := by
  refine ⟨fun u v w q => ?_, ?_, fun y hy j hj => ?_⟩
  · obtain ⟨hu, hv, -⟩ := h.2.2.2 u v w q
    rw [hx u hu, hx v hv]
    exact h.col (i := 0) (by omega) u v w q
  · rw [hx 0 (by omega), h.2.2.1 0 (by omega)]
    rfl
  · rw [hx j hj]
    have := h.1 y hy j 0 hj (by omega)
    omega
