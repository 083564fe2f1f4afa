/-! fits: whether a sight can be with those kept, and the lowest way then -/
theorem cpyF_at (f g : Nat → Int32) {j : Nat} (hj : j ≤ 64) : cpyF f g j = f j := by
  unfold cpyF
  rw [pk_cpy_in (by omega) (by omega)]
  rw [show 0 + (j - 0) = j by omega]
theorem fitsT_spec {t : TS} (hg : gT t) {d : Nat → Nat → Int} (hC : Cl (EdT t (kpT t)) d) (hl : ∀ j, j ≤ 64 → ii (t.2 10) j = - d j 0) {mv fx : Nat} (hmv : mv ≤ 64) (hfx : fx ≤ 64) {goal : Int32} (hgo : -2500000 ≤ goal.toInt ∧ goal.toInt ≤ 2500000) :
    (goal.toInt - d fx mv ≤ - d fx 0 → (fitsT t mv fx goal).1 = 1 ∧ ∀ j, j ≤ 64 → ii ((fitsT t mv fx goal).2.2 10) j = max (- d j 0) (goal.toInt - d j mv)) ∧ (¬ goal.toInt - d fx mv ≤ - d fx 0 → (fitsT t mv fx goal).1 = 0 ∧ (fitsT t mv fx goal).2.2 10 = t.2 10) := by
  obtain ⟨r0, r1⟩ := hg.2.1
  have hb := EdT_base t (kpT t)
  have hcp : ∀ j, j ≤ 64 → ii (cpyF (t.2 10) (t.2 11)) j = - d j 0 := fun j hj => by
    show (cpyF (t.2 10) (t.2 11) j).toInt = _
    rw [cpyF_at _ _ hj]
    exact hl j hj
  have hmc : mono (ii (cpyF (t.2 10) (t.2 11))) := by
    intro j hj
    rw [hcp j (by omega), hcp (j + 1) (by omega)]
    have a1 := (hC.2.2.2 j (j + 1) 0 (hb.1 j hj)).2.2
    have a2 := hC.2.1 (j + 1) j 0 (by omega) (by omega) (by omega)
    omega
  obtain ⟨h1, -, h3⟩ := raiseAt_char hmc hmv goal
  have hgi : ∀ j, j ≤ 64 → ii (raiseAt (cpyF (t.2 10) (t.2 11)) mv goal).1 j = if mv ≤ j then max (- d j 0) goal.toInt else - d j 0 := fun j hj => by
    rw [h1 j hj, hcp j hj]
  generalize hG : (raiseAt (cpyF (t.2 10) (t.2 11)) mv goal).1 = g0 at hgi h3
  have hF : ∀ j, j ≤ 64 → Fl d (ii g0) j = max (- d j 0) (goal.toInt - d j mv) := by
    intro j hj
    have e1 : Fl d (ii g0) j ≤ max (- d j 0) (goal.toInt - d j mv) := by
      refine mx_le _ _ 64 (fun i hi => ?_)
      show ii g0 i - d j i ≤ _
      rw [hgi i hi]
      have a1 := hC.2.1 j i 0 hj hi (by omega)
      have a2 := hC.2.1 j i mv hj hi hmv
      split
      · next h => have := hC.le0 hb h hi; omega
      · omega
    have e2 := Fl_ge hC (ii g0) hj
    have e3 : ii g0 mv - d j mv ≤ Fl d (ii g0) j := mx_ge (fun i => ii g0 i - d j i) 64 mv hmv
    rw [hgi mv hmv, if_pos (Nat.le_refl _)] at e3
    rw [hgi j hj] at e2
    have e4 : - d j 0 ≤ Fl d (ii g0) j := by
      split at e2 <;> omega
    omega
  have hB : inB (EdT t (kpT t)) (Fl d (ii g0)) g0 := by
    refine ⟨h3, Fl_ds hC _, fun j hj => ?_, fun j hj => Fl_ge hC _ hj, fun j hj => ?_⟩
    · rw [hgi j hj]
      have := hC.ler hb hj (show 0 ≤ 64 by omega)
      split <;> omega
    · rw [hF j hj]
      have := hC.ler hb hj (show 0 ≤ 64 by omega)
      have := hC.ler hb hj hmv
      omega
  obtain ⟨m1, b1, c1⟩ := climbF_spec hg hC fx hfx (t.2 10 fx) (fun j hj => hB.2.2.2.2 j hj) 66 _ 1 hB (fun _ _ => Int.le_refl _) (fun h => absurd h (by decide)) (by omega)
  have hlf : (t.2 10 fx).toInt = - d fx 0 := hl fx hfx
  have bfx := (b1 fx hfx).2
  rw [hF fx hfx] at bfx
  constructor
  · intro hq
    have hnl : ¬ t.2 10 fx < climbF t fx (t.2 10 fx) 66 g0 1 fx := by
      rw [lt_iff, hlf]
      show ¬ _ < ii _ fx
      omega
    have hall : ∀ j, j ≤ 64 → ii (climbF t fx (t.2 10 fx) 66 g0 1) j = Fl d (ii g0) j := by
      rcases c1 with c1 | c1
      · exact absurd ((lt_iff _ _).mpr c1) hnl
      · exact c1
    unfold fitsT
    rw [hG, if_neg hnl]
    refine ⟨rfl, fun j hj => ?_⟩
    show ((ua (ua t.2 11 (climbF t fx (t.2 10 fx) 66 g0 1)) 10 (cpyF (climbF t fx (t.2 10 fx) 66 g0 1) (t.2 10))) 10 j).toInt = _
    rw [ua_s, cpyF_at _ _ hj]
    show ii _ j = _
    rw [hall j hj, hF j hj]
  · intro hq
    have hnl : t.2 10 fx < climbF t fx (t.2 10 fx) 66 g0 1 fx := by
      rw [lt_iff, hlf]
      rcases c1 with c1 | c1
      · rw [hlf] at c1; exact c1
      · have := c1 fx hfx
        rw [hF fx hfx] at this
        show _ < ii _ fx
        omega
    unfold fitsT
    rw [hG, if_pos hnl]
    exact ⟨rfl, ua_n t.2 (k := 11) (j := 10) (climbF t fx (t.2 10 fx) 66 g0 1) (by decide)⟩
theorem fitsF_spec {t : TS} (hg : gT t) {d : Nat → Nat → Int} (hC : Cl (EdT t (kpT t)) d) (hl : ∀ j, j ≤ 64 → ii (t.2 10) j = - d j 0) {i : Nat} (hi : i < nT t) :
    ((loT t i ≤ d (aT t i) (bT t i) ∧ - hiT t i ≤ d (bT t i) (aT t i)) → (fitsF t i).1 = 1 ∧ Low (E2 (EdT t (kpT t)) (aT t i) (bT t i) (loT t i) (hiT t i)) (ii ((fitsF t i).2.2 10))) ∧ (¬ (loT t i ≤ d (aT t i) (bT t i) ∧ - hiT t i ≤ d (bT t i) (aT t i)) → (fitsF t i).1 = 0 ∧ (fitsF t i).2.2 10 = t.2 10) := by
  obtain ⟨r0, r1⟩ := hg.2.1
  obtain ⟨l1, l2, l3⟩ := hg.2.2 i hi
  have ha := hg.a hi
  have hb := hg.b hi
  have hbs := EdT_base t (kpT t)
  have h0 : (0 : Nat) ≤ 64 := by omega
  have la := hl _ ha
  have lb := hl _ hb
  have ba := hC.ler hbs ha h0
  have bb := hC.ler hbs hb h0
  have bab := hC.ler hbs ha hb
  have bba := hC.ler hbs hb ha
  have t1 := hC.2.1 _ _ _ ha hb h0
  have t2 := hC.2.1 _ _ _ hb ha h0
  have t3 := hC.2.1 _ _ _ ha h0 hb
  have t4 := hC.2.1 _ _ _ hb h0 ha
  have zaa := hC.2.2.1 _ ha
  have zbb := hC.2.2.1 _ hb
  have z00 := hC.2.2.1 _ h0
  have hcol := hC.col h0
  have hst : (t.2 10 (bT t i) - t.2 10 (aT t i)).toInt = - d (bT t i) 0 + d (aT t i) 0 := by
    rw [fb_subI (by show -2147483648 ≤ ii (t.2 10) _ - ii (t.2 10) _; omega) (by show ii (t.2 10) _ - ii (t.2 10) _ < 2147483648; omega)]
    show ii (t.2 10) _ - ii (t.2 10) _ = _
    omega
  have eF : fitsF t i = if t.2 10 (bT t i) - t.2 10 (aT t i) < t.2 5 i then fitsT t (bT t i) (aT t i) (t.2 10 (aT t i) + t.2 5 i) else if t.2 6 i < t.2 10 (bT t i) - t.2 10 (aT t i) then fitsT t (aT t i) (bT t i) (t.2 10 (bT t i) - t.2 6 i) else (1, t) := rfl
  by_cases c1 : t.2 10 (bT t i) - t.2 10 (aT t i) < t.2 5 i
  · have c1' : - d (bT t i) 0 + d (aT t i) 0 < loT t i := by rw [← hst]; exact (lt_iff _ _).mp c1
    have eg : (t.2 10 (aT t i) + t.2 5 i).toInt = - d (aT t i) 0 + loT t i := by
      rw [fb_addI (by show -2147483648 ≤ ii (t.2 10) _ + loT t i; omega) (by show ii (t.2 10) _ + loT t i < 2147483648; omega)]
      show ii (t.2 10) _ + loT t i = _
      omega
    rw [eF, if_pos c1]
    obtain ⟨s1, s2⟩ := fitsT_spec hg hC hl hb ha (goal := t.2 10 (aT t i) + t.2 5 i) (by rw [eg]; omega)
    rw [eg] at s1 s2
    refine ⟨fun q => ?_, fun q => s2 (by omega)⟩
    obtain ⟨e1, e2⟩ := s1 (by omega)
    refine ⟨e1, fun u v w hE => ?_, ?_, fun y hy j hj => ?_⟩
    · rcases hE with hE | ⟨rfl, rfl, rfl⟩ | ⟨rfl, rfl, rfl⟩
      · obtain ⟨hu, hv, hw⟩ := hC.2.2.2 u v w hE
        rw [e2 u hu, e2 v hv]
        have a1 := hC.2.1 v u 0 hv hu h0
        have a2 := hC.2.1 v u (bT t i) hv hu hb
        omega
      · rw [e2 _ ha, e2 _ hb]
        omega
      · rw [e2 _ ha, e2 _ hb]
        omega
    · rw [e2 0 h0]
      omega
    · rw [e2 j hj]
      have a1 := hC.1 y (fun u v w q => hy u v w (Or.inl q)) j 0 hj h0
      have a2 := hC.1 y (fun u v w q => hy u v w (Or.inl q)) j (bT t i) hj hb
      have a3 := hC.1 y (fun u v w q => hy u v w (Or.inl q)) (aT t i) 0 ha h0
      have a4 := hy (aT t i) (bT t i) (loT t i) (Or.inr (Or.inl ⟨rfl, rfl, rfl⟩))
      omega
  · have c1' : ¬ - d (bT t i) 0 + d (aT t i) 0 < loT t i := by rw [← hst]; exact fun q => c1 ((lt_iff _ _).mpr q)
    by_cases c2 : t.2 6 i < t.2 10 (bT t i) - t.2 10 (aT t i)
    · have c2' : hiT t i < - d (bT t i) 0 + d (aT t i) 0 := by rw [← hst]; exact (lt_iff _ _).mp c2
      have eg : (t.2 10 (bT t i) - t.2 6 i).toInt = - d (bT t i) 0 - hiT t i := by
        rw [fb_subI (by show -2147483648 ≤ ii (t.2 10) _ - hiT t i; omega) (by show ii (t.2 10) _ - hiT t i < 2147483648; omega)]
        show ii (t.2 10) _ - hiT t i = _
        omega
      rw [eF, if_neg c1, if_pos c2]
      obtain ⟨s1, s2⟩ := fitsT_spec hg hC hl ha hb (goal := t.2 10 (bT t i) - t.2 6 i) (by rw [eg]; omega)
      rw [eg] at s1 s2
      refine ⟨fun q => ?_, fun q => s2 (by omega)⟩
      obtain ⟨e1, e2⟩ := s1 (by omega)
      refine ⟨e1, fun u v w hE => ?_, ?_, fun y hy j hj => ?_⟩
      · rcases hE with hE | ⟨rfl, rfl, rfl⟩ | ⟨rfl, rfl, rfl⟩
        · obtain ⟨hu, hv, hw⟩ := hC.2.2.2 u v w hE
          rw [e2 u hu, e2 v hv]
          have a1 := hC.2.1 v u 0 hv hu h0
          have a2 := hC.2.1 v u (aT t i) hv hu ha
          omega
        · rw [e2 _ ha, e2 _ hb]
          omega
        · rw [e2 _ ha, e2 _ hb]
          omega
      · rw [e2 0 h0]
        omega
      · rw [e2 j hj]
        have a1 := hC.1 y (fun u v w q => hy u v w (Or.inl q)) j 0 hj h0
        have a2 := hC.1 y (fun u v w q => hy u v w (Or.inl q)) j (aT t i) hj ha
        have a3 := hC.1 y (fun u v w q => hy u v w (Or.inl q)) (bT t i) 0 hb h0
        have a4 := hy (bT t i) (aT t i) (- hiT t i) (Or.inr (Or.inr ⟨rfl, rfl, rfl⟩))
        omega
    · have c2' : ¬ hiT t i < - d (bT t i) 0 + d (aT t i) 0 := by rw [← hst]; exact fun q => c2 ((lt_iff _ _).mpr q)
      rw [eF, if_neg c1, if_neg c2]
      refine ⟨fun q => ⟨rfl, fun u v w hE => ?_, ?_, fun y hy j hj => ?_⟩, fun q => absurd (by omega) q⟩
      · show ii (t.2 10) u + w ≤ ii (t.2 10) v
        rcases hE with hE | ⟨rfl, rfl, rfl⟩ | ⟨rfl, rfl, rfl⟩
        · obtain ⟨hu, hv, hw⟩ := hC.2.2.2 u v w hE
          rw [hl u hu, hl v hv]
          have a1 := hC.2.1 v u 0 hv hu h0
          omega
        · omega
        · omega
      · show ii (t.2 10) 0 = 0
        rw [hl 0 h0]
        omega
      · show ii (t.2 10) j ≤ _
        rw [hl j hj]
        have a1 := hC.1 y (fun u v w q => hy u v w (Or.inl q)) j 0 hj h0
        omega
