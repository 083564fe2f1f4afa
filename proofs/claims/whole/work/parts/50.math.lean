/-! the algebra of marks: difference bounds, their closure, the least way above and the greatest below -/
def DS (E : Nat → Nat → Int → Prop) (x : Nat → Int) : Prop := ∀ u v w, E u v w → x u + w ≤ x v
def Cl (E : Nat → Nat → Int → Prop) (d : Nat → Nat → Int) : Prop :=
  (∀ x, DS E x → ∀ i j, i ≤ 64 → j ≤ 64 → x j - x i ≤ d i j) ∧ (∀ i j k, i ≤ 64 → j ≤ 64 → k ≤ 64 → d i k ≤ d i j + d j k) ∧ (∀ i, i ≤ 64 → d i i = 0) ∧ (∀ u v w, E u v w → u ≤ 64 ∧ v ≤ 64 ∧ d v u ≤ -w)
theorem Cl.row {E : Nat → Nat → Int → Prop} {d : Nat → Nat → Int} (h : Cl E d) {i : Nat} (hi : i ≤ 64) : DS E (fun j => d i j) := by
  intro u v w huv
  obtain ⟨hu, hv, hw⟩ := h.2.2.2 u v w huv
  have := h.2.1 i v u hi hv hu
  show d i u + w ≤ d i v
  omega
theorem Cl.col {E : Nat → Nat → Int → Prop} {d : Nat → Nat → Int} (h : Cl E d) {i : Nat} (hi : i ≤ 64) : DS E (fun j => - d j i) := by
  intro u v w huv
  obtain ⟨hu, hv, hw⟩ := h.2.2.2 u v w huv
  have := h.2.1 v u i hv hu hi
  show - d u i + w ≤ - d v i
  omega
theorem Cl.uniq {E : Nat → Nat → Int → Prop} {d d' : Nat → Nat → Int} (h : Cl E d) (h' : Cl E d') {i j : Nat} (hi : i ≤ 64) (hj : j ≤ 64) : d i j = d' i j := by
  have a : d i j - d i i ≤ d' i j := h'.1 _ (h.row hi) i j hi hj
  have b : d' i j - d' i i ≤ d i j := h.1 _ (h'.row hi) i j hi hj
  have := h.2.2.1 i hi
  have := h'.2.2.1 i hi
  omega
theorem DS.congr {E E' : Nat → Nat → Int → Prop} (h : ∀ u v w, E u v w ↔ E' u v w) {x : Nat → Int} (hx : DS E x) : DS E' x := fun u v w q => hx u v w ((h u v w).mpr q)
theorem Cl.congr {E E' : Nat → Nat → Int → Prop} {d : Nat → Nat → Int} (h : ∀ u v w, E u v w ↔ E' u v w) (c : Cl E d) : Cl E' d :=
  ⟨fun x hx => c.1 x (hx.congr (fun u v w => (h u v w).symm)), c.2.1, c.2.2.1, fun u v w q => c.2.2.2 u v w ((h u v w).mpr q)⟩
theorem Cl.ext {E : Nat → Nat → Int → Prop} {d d' : Nat → Nat → Int} (c : Cl E d) (h : ∀ i j, i ≤ 64 → j ≤ 64 → d' i j = d i j) : Cl E d' :=
  ⟨fun x hx i j hi hj => by rw [h i j hi hj]; exact c.1 x hx i j hi hj, fun i j k hi hj hk => by rw [h i k hi hk, h i j hi hj, h j k hj hk]; exact c.2.1 i j k hi hj hk, fun i hi => by rw [h i i hi hi]; exact c.2.2.1 i hi, fun u v w q => by
    obtain ⟨hu, hv, hw⟩ := c.2.2.2 u v w q
    exact ⟨hu, hv, by rw [h v u hv hu]; exact hw⟩⟩
def bd (d : Nat → Nat → Int) (a b : Nat) (y : Int) : Nat → Nat → Int := fun i j => min (d i j) (d i a + y + d b j)
theorem Cl.bind {E : Nat → Nat → Int → Prop} {d : Nat → Nat → Int} (h : Cl E d) {a b : Nat} (ha : a ≤ 64) (hb : b ≤ 64) {y : Int} (hy : 0 ≤ y + d b a) : Cl (fun u v w => E u v w ∨ (u = b ∧ v = a ∧ w = -y)) (bd d a b y) := by
  refine ⟨fun x hx i j hi hj => ?_, fun i j k hi hj hk => ?_, fun i hi => ?_, fun u v w q => ?_⟩
  · have h1 := h.1 x (fun u v w q => hx u v w (Or.inl q))
    have := h1 i j hi hj
    have := h1 i a hi ha
    have := h1 b j hb hj
    have := hx b a (-y) (Or.inr ⟨rfl, rfl, rfl⟩)
    unfold bd
    omega
  · have := h.2.1 i j k hi hj hk
    have := h.2.1 i j a hi hj ha
    have := h.2.1 b j k hb hj hk
    have := h.2.1 b j a hb hj ha
    unfold bd
    omega
  · have := h.2.2.1 i hi
    have := h.2.1 b i a hb hi ha
    unfold bd
    omega
  · rcases q with q | ⟨rfl, rfl, rfl⟩
    · obtain ⟨hu, hv, hw⟩ := h.2.2.2 u v w q
      refine ⟨hu, hv, ?_⟩
      unfold bd
      omega
    · refine ⟨hb, ha, ?_⟩
      have := h.2.2.1 _ ha
      have := h.2.2.1 _ hb
      unfold bd
      omega
def mx (f : Nat → Int) : Nat → Int
  | 0 => f 0
  | n + 1 => max (mx f n) (f (n + 1))
theorem mx_ge (f : Nat → Int) : ∀ (n i : Nat), i ≤ n → f i ≤ mx f n
  | 0, i, h => by
    have : i = 0 := by omega
    subst this
    exact Int.le_refl _
  | n + 1, i, h => by
    unfold mx
    rcases Nat.lt_or_ge n i with q | q
    · have : i = n + 1 := by omega
      subst this
      omega
    · have := mx_ge f n i q
      omega
theorem mx_le (f : Nat → Int) (c : Int) : ∀ (n : Nat), (∀ i, i ≤ n → f i ≤ c) → mx f n ≤ c
  | 0, h => h 0 (Nat.le_refl 0)
  | n + 1, h => by
    unfold mx
    have := mx_le f c n (fun i hi => h i (by omega))
    have := h (n + 1) (Nat.le_refl _)
    omega
theorem mx_ex (f : Nat → Int) : ∀ (n : Nat), ∃ i, i ≤ n ∧ mx f n = f i
  | 0 => ⟨0, Nat.le_refl 0, rfl⟩
  | n + 1 => by
    obtain ⟨i, hi, e⟩ := mx_ex f n
    unfold mx
    rcases Int.le_total (mx f n) (f (n + 1)) with q | q
    · exact ⟨n + 1, Nat.le_refl _, by omega⟩
    · exact ⟨i, by omega, by omega⟩
def mn (f : Nat → Int) (n : Nat) : Int := - mx (fun i => - f i) n
theorem mn_le (f : Nat → Int) (n i : Nat) (h : i ≤ n) : mn f n ≤ f i := by
  have := mx_ge (fun i => - f i) n i h
  try simp only at this
  unfold mn
  omega
theorem mn_ge (f : Nat → Int) (c : Int) (n : Nat) (h : ∀ i, i ≤ n → c ≤ f i) : c ≤ mn f n := by
  have := mx_le (fun i => - f i) (-c) n (fun i hi => by have := h i hi; show - f i ≤ -c; omega)
  unfold mn
  omega
theorem mn_ex (f : Nat → Int) (n : Nat) : ∃ i, i ≤ n ∧ mn f n = f i := by
  obtain ⟨i, hi, e⟩ := mx_ex (fun i => - f i) n
  refine ⟨i, hi, ?_⟩
  try simp only at e
  unfold mn
  omega
def Fl (d : Nat → Nat → Int) (g : Nat → Int) (j : Nat) : Int := mx (fun i => g i - d j i) 64
def Gl (d : Nat → Nat → Int) (g : Nat → Int) (j : Nat) : Int := mn (fun i => g i + d i j) 64
theorem Fl_ds {E : Nat → Nat → Int → Prop} {d : Nat → Nat → Int} (h : Cl E d) (g : Nat → Int) : DS E (Fl d g) := by
  intro u v w q
  obtain ⟨hu, hv, hw⟩ := h.2.2.2 u v w q
  obtain ⟨i, hi, e⟩ := mx_ex (fun i => g i - d u i) 64
  have h2 := mx_ge (fun i => g i - d v i) 64 i hi
  have h3 := h.2.1 v u i hv hu hi
  try simp only at e h2
  unfold Fl
  omega
theorem Gl_ds {E : Nat → Nat → Int → Prop} {d : Nat → Nat → Int} (h : Cl E d) (g : Nat → Int) : DS E (Gl d g) := by
  intro u v w q
  obtain ⟨hu, hv, hw⟩ := h.2.2.2 u v w q
  obtain ⟨i, hi, e⟩ := mn_ex (fun i => g i + d i v) 64
  have h2 := mn_le (fun i => g i + d i u) 64 i hi
  have h3 := h.2.1 i v u hi hv hu
  try simp only at e h2
  unfold Gl
  omega
theorem Fl_ge {E : Nat → Nat → Int → Prop} {d : Nat → Nat → Int} (h : Cl E d) (g : Nat → Int) {j : Nat} (hj : j ≤ 64) : g j ≤ Fl d g j := by
  have h2 := mx_ge (fun i => g i - d j i) 64 j hj
  have := h.2.2.1 j hj
  try simp only at h2
  unfold Fl
  omega
theorem Gl_le {E : Nat → Nat → Int → Prop} {d : Nat → Nat → Int} (h : Cl E d) (g : Nat → Int) {j : Nat} (hj : j ≤ 64) : Gl d g j ≤ g j := by
  have h2 := mn_le (fun i => g i + d i j) 64 j hj
  have := h.2.2.1 j hj
  try simp only at h2
  unfold Gl
  omega
theorem Fl_least {E : Nat → Nat → Int → Prop} {d : Nat → Nat → Int} (h : Cl E d) (g x : Nat → Int) (hx : DS E x) (hg : ∀ j, j ≤ 64 → g j ≤ x j) {j : Nat} (hj : j ≤ 64) : Fl d g j ≤ x j := by
  refine mx_le _ _ 64 (fun i hi => ?_)
  have := hg i hi
  have := h.1 x hx j i hj hi
  show g i - d j i ≤ x j
  omega
theorem Gl_most {E : Nat → Nat → Int → Prop} {d : Nat → Nat → Int} (h : Cl E d) (g x : Nat → Int) (hx : DS E x) (hg : ∀ j, j ≤ 64 → x j ≤ g j) {j : Nat} (hj : j ≤ 64) : x j ≤ Gl d g j := by
  refine mn_ge _ _ 64 (fun i hi => ?_)
  have := hg i hi
  have := h.1 x hx i j hi hj
  show x j ≤ g i + d i j
  omega
def Up (E : Nat → Nat → Int → Prop) (g g' : Nat → Int) : Prop := (∀ j, j ≤ 64 → g j ≤ g' j) ∧ ∀ x, DS E x → (∀ j, j ≤ 64 → g j ≤ x j) → ∀ j, j ≤ 64 → g' j ≤ x j
def Dn (E : Nat → Nat → Int → Prop) (g g' : Nat → Int) : Prop := (∀ j, j ≤ 64 → g' j ≤ g j) ∧ ∀ x, DS E x → (∀ j, j ≤ 64 → x j ≤ g j) → ∀ j, j ≤ 64 → x j ≤ g' j
theorem Up.rf (E : Nat → Nat → Int → Prop) (g : Nat → Int) : Up E g g := ⟨fun _ _ => Int.le_refl _, fun _ _ h => h⟩
theorem Dn.rf (E : Nat → Nat → Int → Prop) (g : Nat → Int) : Dn E g g := ⟨fun _ _ => Int.le_refl _, fun _ _ h => h⟩
theorem Up.trans {E : Nat → Nat → Int → Prop} {a b c : Nat → Int} (h : Up E a b) (h2 : Up E b c) : Up E a c := ⟨fun j hj => Int.le_trans (h.1 j hj) (h2.1 j hj), fun x hx hg => h2.2 x hx (h.2 x hx hg)⟩
theorem Dn.trans {E : Nat → Nat → Int → Prop} {a b c : Nat → Int} (h : Dn E a b) (h2 : Dn E b c) : Dn E a c := ⟨fun j hj => Int.le_trans (h2.1 j hj) (h.1 j hj), fun x hx hg => h2.2 x hx (h.2 x hx hg)⟩
theorem up_grow {E : Nat → Nat → Int → Prop} {d : Nat → Nat → Int} (h : Cl E d) {g0 g g' : Nat → Int} (hg0 : ∀ j, j ≤ 64 → g0 j ≤ g j) (hgF : ∀ j, j ≤ 64 → g j ≤ Fl d g0 j) (hU : Up E g g') (hE : ∀ u v w, E u v w → g u + w ≤ g' v) : (∀ j, j ≤ 64 → g' j = Fl d g0 j) ∨ ∃ j, j ≤ 64 ∧ g' j = Fl d g0 j ∧ ¬ g j = Fl d g0 j := by
  have hF' := hU.2 (Fl d g0) (Fl_ds h g0) hgF
  refine Classical.byContradiction fun hn => ?_
  have hn1 : ∃ j0, j0 ≤ 64 ∧ ¬ g' j0 = Fl d g0 j0 := Classical.byContradiction fun q => hn (Or.inl (fun j hj => Classical.byContradiction fun q2 => q ⟨j, hj, q2⟩))
  have hn2 : ∀ j, j ≤ 64 → g' j = Fl d g0 j → g j = Fl d g0 j := fun j hj e => Classical.byContradiction fun q2 => hn (Or.inr ⟨j, hj, e, q2⟩)
  obtain ⟨j0, hj0, hne⟩ := hn1
  have hz : DS E (fun j => if g' j = Fl d g0 j then Fl d g0 j else Fl d g0 j - 1) := by
    intro u v w q
    obtain ⟨hu, hv, hw⟩ := h.2.2.2 u v w q
    have a1 := Fl_ds h g0 u v w q
    have a2 := hE u v w q
    have a3 := hF' v hv
    have a4 := hn2 u hu
    show (if g' u = Fl d g0 u then Fl d g0 u else Fl d g0 u - 1) + w ≤ (if g' v = Fl d g0 v then Fl d g0 v else Fl d g0 v - 1)
    split
    · next e1 =>
      have := a4 e1
      split
      · omega
      · omega
    · split
      · omega
      · omega
  have hl := Fl_least h g0 _ hz (fun j hj => by
    have b1 := hg0 j hj
    have b2 := hU.1 j hj
    have b3 := hF' j hj
    show g0 j ≤ (if g' j = Fl d g0 j then Fl d g0 j else Fl d g0 j - 1)
    split
    · omega
    · omega) hj0
  have hl2 : Fl d g0 j0 ≤ (if g' j0 = Fl d g0 j0 then Fl d g0 j0 else Fl d g0 j0 - 1) := hl
  rw [if_neg hne] at hl2
  omega
theorem dn_grow {E : Nat → Nat → Int → Prop} {d : Nat → Nat → Int} (h : Cl E d) {g0 g g' : Nat → Int} (hg0 : ∀ j, j ≤ 64 → g j ≤ g0 j) (hgF : ∀ j, j ≤ 64 → Gl d g0 j ≤ g j) (hU : Dn E g g') (hE : ∀ u v w, E u v w → g' u + w ≤ g v) : (∀ j, j ≤ 64 → g' j = Gl d g0 j) ∨ ∃ j, j ≤ 64 ∧ g' j = Gl d g0 j ∧ ¬ g j = Gl d g0 j := by
  have hF' := hU.2 (Gl d g0) (Gl_ds h g0) hgF
  refine Classical.byContradiction fun hn => ?_
  have hn1 : ∃ j0, j0 ≤ 64 ∧ ¬ g' j0 = Gl d g0 j0 := Classical.byContradiction fun q => hn (Or.inl (fun j hj => Classical.byContradiction fun q2 => q ⟨j, hj, q2⟩))
  have hn2 : ∀ j, j ≤ 64 → g' j = Gl d g0 j → g j = Gl d g0 j := fun j hj e => Classical.byContradiction fun q2 => hn (Or.inr ⟨j, hj, e, q2⟩)
  obtain ⟨j0, hj0, hne⟩ := hn1
  have hz : DS E (fun j => if g' j = Gl d g0 j then Gl d g0 j else Gl d g0 j + 1) := by
    intro u v w q
    obtain ⟨hu, hv, hw⟩ := h.2.2.2 u v w q
    have a1 := Gl_ds h g0 u v w q
    have a2 := hE u v w q
    have a3 := hF' u hu
    have a4 := hn2 v hv
    show (if g' u = Gl d g0 u then Gl d g0 u else Gl d g0 u + 1) + w ≤ (if g' v = Gl d g0 v then Gl d g0 v else Gl d g0 v + 1)
    split
    · split
      · omega
      · omega
    · split
      · next e1 =>
        have := a4 e1
        omega
      · omega
  have hl := Gl_most h g0 _ hz (fun j hj => by
    have b1 := hg0 j hj
    have b2 := hU.1 j hj
    have b3 := hF' j hj
    show (if g' j = Gl d g0 j then Gl d g0 j else Gl d g0 j + 1) ≤ g0 j
    split
    · omega
    · omega) hj0
  have hl2 : (if g' j0 = Gl d g0 j0 then Gl d g0 j0 else Gl d g0 j0 + 1) ≤ Gl d g0 j0 := hl
  rw [if_neg hne] at hl2
  omega
/-! counting -/
def ctN (p : Nat → Bool) : Nat → Nat
  | 0 => 0
  | n + 1 => ctN p n + (if p n = true then 1 else 0)
theorem ctN_le (p : Nat → Bool) : ∀ n, ctN p n ≤ n
  | 0 => Nat.le_refl 0
  | n + 1 => by
    have := ctN_le p n
    unfold ctN
    split <;> omega
theorem ctN_sub {p q : Nat → Bool} : ∀ {n : Nat}, (∀ k, k < n → p k = true → q k = true) → ctN p n ≤ ctN q n
  | 0, _ => Nat.le_refl 0
  | n + 1, h => by
    have h1 := ctN_sub (n := n) (fun k hk => h k (by omega))
    have h2 := h n (by omega)
    unfold ctN
    split
    · next e => rw [if_pos (h2 e)]; omega
    · split <;> omega
theorem ctN_lt {p q : Nat → Bool} : ∀ {n : Nat}, (∀ k, k < n → p k = true → q k = true) → (∃ k, k < n ∧ q k = true ∧ ¬ p k = true) → ctN p n + 1 ≤ ctN q n
  | 0, _, h => by obtain ⟨k, hk, _⟩ := h; omega
  | n + 1, h, hx => by
    obtain ⟨k, hk, hq, hp⟩ := hx
    unfold ctN
    by_cases hkn : k = n
    · subst hkn
      have h1 := ctN_sub (p := p) (q := q) (n := k) (fun j hj => h j (by omega))
      rw [if_neg hp, if_pos hq]
      omega
    · have h1 := ctN_lt (p := p) (q := q) (n := n) (fun j hj => h j (by omega)) ⟨k, by omega, hq, hp⟩
      have h2 := h n (by omega)
      split
      · next e => rw [if_pos (h2 e)]; omega
      · split <;> omega
theorem ctN_all {p : Nat → Bool} : ∀ {n : Nat}, n ≤ ctN p n → ∀ k, k < n → p k = true
  | 0, _, k, hk => by omega
  | n + 1, h, k, hk => by
    have h1 := ctN_le p n
    unfold ctN at h
    by_cases hn : p n = true
    · rw [if_pos hn] at h
      by_cases hkn : k = n
      · subst hkn; exact hn
      · exact ctN_all (n := n) (by omega) k (by omega)
    · rw [if_neg hn] at h
      omega
