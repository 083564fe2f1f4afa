/-! guesses: the class's spread -/
theorem mx_s (f : Nat → Int) (n : Nat) : mx f (n + 1) = max (mx f n) (f (n + 1)) := rfl
theorem mn_s (f : Nat → Int) (n : Nat) : mn f (n + 1) = min (mn f n) (f (n + 1)) := by
  show - max (mx (fun i => - f i) n) (- f (n + 1)) = min (- mx (fun i => - f i) n) (f (n + 1))
  omega
theorem mn_0 (f : Nat → Int) : mn f 0 = f 0 := by
  show - (- f 0) = f 0
  omega
theorem mx_cg {f g : Nat → Int} : ∀ (n : Nat), (∀ i, i ≤ n → f i = g i) → mx f n = mx g n
  | 0, h => h 0 (Nat.le_refl _)
  | n + 1, h => by rw [mx_s, mx_s, mx_cg n (fun i hi => h i (by omega)), h (n + 1) (Nat.le_refl _)]
theorem mn_cg {f g : Nat → Int} (n : Nat) (h : ∀ i, i ≤ n → f i = g i) : mn f n = mn g n := by
  unfold mn
  rw [mx_cg n (fun i hi => by show - f i = - g i; rw [h i hi])]
theorem DS.ext {E : Nat → Nat → Int → Prop} {d : Nat → Nat → Int} (hC : Cl E d) {x y : Nat → Int} (h : ∀ j, j ≤ 64 → x j = y j) (hy : DS E y) : DS E x := fun u v w q => by
  obtain ⟨hu, hv, _⟩ := hC.2.2.2 u v w q
  rw [h u hu, h v hv]
  exact hy u v w q
theorem DS.ends {r : Int} {E : Nat → Nat → Int → Prop} (hb : baseE r E) {x : Nat → Int} (hx : DS E x) (h0 : x 0 = 0) {j : Nat} (hj : j ≤ 64) : 0 ≤ x j ∧ x j ≤ r ∧ x 64 = r := by
  have a1 := hx 0 64 r hb.2.1
  have a2 := hx 64 0 (-r) hb.2.2
  have b1 := mono_le2 (DS.mono hb.1 hx) (i := 0) (j := j) (by omega) hj
  have b2 := mono_le2 (DS.mono hb.1 hx) (i := j) (j := 64) hj (by omega)
  omega
/-- raised at one mark and closed again -/
theorem up_at {r : Int} {E : Nat → Nat → Int → Prop} {d : Nat → Nat → Int} (hb : baseE r E) (hC : Cl E d) {g g0 : Nat → Int} (hg : DS E g) {m : Nat} (hm : m ≤ 64) {y : Int} (h0 : ∀ j, j ≤ 64 → g0 j = if m ≤ j then max (g j) y else g j) {j : Nat} (hj : j ≤ 64) : Fl d g0 j = max (g j) (y - d j m) := by
  have h1 : Fl d g0 j ≤ max (g j) (y - d j m) := by
    refine mx_le _ _ 64 (fun i hi => ?_)
    show g0 i - d j i ≤ _
    have a1 := hC.1 g hg j i hj hi
    have a2 := hC.2.1 j i m hj hi hm
    rw [h0 i hi]
    split
    · next h => have := hC.le0 hb h hi; omega
    · omega
  have h2 := mx_ge (fun i => g0 i - d j i) 64 m hm
  have h3 := Fl_ge hC g0 hj
  have e2 : g0 m = max (g m) y := by rw [h0 m hm, if_pos (Nat.le_refl _)]
  have e3 : g j ≤ g0 j := by rw [h0 j hj]; split <;> omega
  have h2' : g0 m - d j m ≤ Fl d g0 j := h2
  omega
theorem dn_at {r : Int} {E : Nat → Nat → Int → Prop} {d : Nat → Nat → Int} (hb : baseE r E) (hC : Cl E d) {g g0 : Nat → Int} (hg : DS E g) {m : Nat} (hm : m ≤ 64) {y : Int} (h0 : ∀ j, j ≤ 64 → g0 j = if j ≤ m then min (g j) y else g j) {j : Nat} (hj : j ≤ 64) : Gl d g0 j = min (g j) (y + d m j) := by
  have h1 : min (g j) (y + d m j) ≤ Gl d g0 j := by
    refine mn_ge _ _ 64 (fun i hi => ?_)
    show _ ≤ g0 i + d i j
    have a1 := hC.1 g hg i j hi hj
    have a2 := hC.2.1 m i j hm hi hj
    rw [h0 i hi]
    split
    · next h => have := hC.le0 hb h hm; omega
    · omega
  have h2 : Gl d g0 j ≤ g0 m + d m j := mn_le (fun i => g0 i + d i j) 64 m hm
  have h3 := Gl_le hC g0 hj
  have e2 : g0 m = min (g m) y := by rw [h0 m hm, if_pos (Nat.le_refl _)]
  have e3 : g0 j ≤ g j := by rw [h0 j hj]; split <;> omega
  omega
theorem sprG_spec {t : TS} (hg : gT t) {d : Nat → Nat → Int} (hC : Cl (EdT t (kpT t)) d) {g : Nat → Int32} (hd : DS (EdT t (kpT t)) (ii g)) (h0 : ii g 0 = 0) {v : Nat} (hv : v < 64) {goal : Int32} (hlo : ii g (v + 1) ≤ goal.toInt) (hhi : goal.toInt ≤ (t.1 0).toInt) {j : Nat} (hj : j ≤ 64) : ii (sprG t v g goal) j = max (ii g j) (goal.toInt - d j (v + 1)) := by
  obtain ⟨r0, r1⟩ := hg.2.1
  have hb := EdT_base t (kpT t)
  have hm := DS.mono hb.1 hd
  obtain ⟨c1, c2, c3⟩ := raiseAt_char hm (i := v + 1) (by omega) goal
  have hF : ∀ j, j ≤ 64 → Fl d (ii (raiseAt g (v + 1) goal).1) j = max (ii g j) (goal.toInt - d j (v + 1)) := fun j hj => up_at hb hC hd (by omega) c1 hj
  have a1 := fun j hj => hC.1 (ii g) hd j (v + 1) hj (by omega)
  unfold sprG
  by_cases hq : (raiseAt g (v + 1) goal).2 = 0
  · rw [if_pos hq, c1 j hj]
    have := c2 hq
    have := a1 j hj
    split
    · next h => have := mono_le2 hm h hj; omega
    · omega
  · rw [if_neg hq]
    have hB : inB (EdT t (kpT t)) (Fl d (ii (raiseAt g (v + 1) goal).1)) (raiseAt g (v + 1) goal).1 := by
      refine ⟨c3, Fl_ds hC _, fun j hj => ?_, fun j hj => Fl_ge hC _ hj, fun j hj => ?_⟩
      · have := DS.ends hb hd h0 hj
        rw [c1 j hj]
        split <;> omega
      · have := DS.ends hb hd h0 hj
        have := hC.ler hb hj (show v + 1 ≤ 64 by omega)
        rw [hF j hj]
        omega
    obtain ⟨m1, b1, k1⟩ := climbF_spec hg hC (v + 1) (by omega) goal (fun j hj => hB.2.2.2.2 j hj) 66 _ 1 hB (fun _ _ => Int.le_refl _) (fun h => absurd h (by decide)) (by omega)
    rcases k1 with k1 | k1
    · have x1 := (b1 (v + 1) (by omega)).2
      rw [hF (v + 1) (by omega), hC.2.2.1 (v + 1) (by omega)] at x1
      omega
    · rw [k1 j hj, hF j hj]
theorem sprH_spec {t : TS} (hg : gT t) {d : Nat → Nat → Int} (hC : Cl (EdT t (kpT t)) d) {h : Nat → Int32} (hd : DS (EdT t (kpT t)) (ii h)) (h0 : ii h 0 = 0) {v : Nat} (hv : v < 64) {goal : Int32} (hhi : goal.toInt ≤ ii h (v + 1)) (hlo0 : - d (v + 1) 0 ≤ goal.toInt) (hlo64 : (t.1 0).toInt ≤ goal.toInt + d (v + 1) 64) {j : Nat} (hj : j ≤ 64) : ii (sprH t v h goal) j = min (ii h j) (goal.toInt + d (v + 1) j) := by
  obtain ⟨r0, r1⟩ := hg.2.1
  have hb := EdT_base t (kpT t)
  have hm := DS.mono hb.1 hd
  obtain ⟨c1, c2, c3⟩ := lowerAt_char hm (i := v + 1) (by omega) goal
  have hF : ∀ j, j ≤ 64 → Gl d (ii (lowerAt h (v + 1) goal).1) j = min (ii h j) (goal.toInt + d (v + 1) j) := fun j hj => dn_at hb hC hd (by omega) c1 hj
  have a1 := fun j hj => hC.1 (ii h) hd (v + 1) j (by omega) hj
  unfold sprH
  by_cases hq : (lowerAt h (v + 1) goal).2 = 0
  · rw [if_pos hq, c1 j hj]
    have := c2 hq
    have := a1 j hj
    split
    · next z => have := mono_le2 hm z (by omega); omega
    · omega
  · rw [if_neg hq]
    have d0 := hC.le0 hb (show 0 ≤ v + 1 by omega) (show v + 1 ≤ 64 by omega)
    have e64 := (DS.ends hb hd h0 (Nat.le_refl 64)).2.2
    have hB : inD (EdT t (kpT t)) (Gl d (ii (lowerAt h (v + 1) goal).1)) (lowerAt h (v + 1) goal).1 := by
      refine ⟨c3, Gl_ds hC _, fun j hj => ?_, fun j hj => Gl_le hC _ hj, fun j hj => ?_⟩
      · have := DS.ends hb hd h0 hj
        have := hC.ler hb (show v + 1 ≤ 64 by omega) hj
        rw [hF j hj]
        omega
      · have := DS.ends hb hd h0 hj
        rw [c1 j hj]
        split <;> omega
    have he0 : Gl d (ii (lowerAt h (v + 1) goal).1) 0 = ii (lowerAt h (v + 1) goal).1 0 := by
      rw [hF 0 (by omega), c1 0 (by omega), if_pos (by omega), h0]
      omega
    have he64 : Gl d (ii (lowerAt h (v + 1) goal).1) 64 = ii (lowerAt h (v + 1) goal).1 64 := by
      rw [hF 64 (by omega), c1 64 (by omega), e64]
      split
      · next z =>
        have z64 : v + 1 = 64 := by omega
        rw [z64, hC.2.2.1 64 (by omega)] at hlo64 ⊢
        omega
      · omega
    obtain ⟨m1, k1⟩ := sinkF_spec hg hC he0 he64 66 _ 1 hB (fun _ _ => Int.le_refl _) (fun h => absurd h (by decide)) (by omega)
    rw [k1 j hj, hF j hj]
