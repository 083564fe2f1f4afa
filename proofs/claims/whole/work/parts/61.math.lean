/-! guesses: what both sides give -/
def gdV (d : Nat → Nat → Int) (r : Int32) (g : Nat → Int32) (v : Nat) : Int := max (mx (fun i => ii g i - d (v + 1) i) v) (min (mn (fun i => ii g i + d i (v + 1)) v) (evenF r (g v) v).toInt)
def Gd (d : Nat → Nat → Int) (r : Int32) (g : Nat → Int32) (n : Nat) : Prop := g 0 = 0 ∧ ∀ v, v < n → (g (v + 1)).toInt = gdV d r g v
theorem gdV_cg {d : Nat → Nat → Int} {r : Int32} {g g' : Nat → Int32} {v : Nat} (h : ∀ i, i ≤ v → g i = g' i) : gdV d r g v = gdV d r g' v := by
  unfold gdV
  rw [mx_cg (g := fun i => ii g' i - d (v + 1) i) v (fun i hi => by unfold ii; rw [h i hi]), mn_cg (g := fun i => ii g' i + d i (v + 1)) v (fun i hi => by unfold ii; rw [h i hi]), h v (Nat.le_refl _)]
theorem goalF_spec {t : TS} {v : Nat} (hv : v < 64) {r : (Nat → Int32) × (Nat → Int32)} (h : ii r.1 (v + 1) ≤ ii r.2 (v + 1)) : (goalF t v r).toInt = max (ii r.1 (v + 1)) (min (ii r.2 (v + 1)) (evenF (t.1 0) (r.1 v) v).toInt) := by
  have e : r.1 v + (t.1 0 - r.1 v) / nI (64 - v) = evenF (t.1 0) (r.1 v) v := by
    unfold evenF
    rw [← pk_sub (show v ≤ 64 by omega)]
    rfl
  unfold goalF
  rw [e]
  unfold ii at h ⊢
  by_cases h1 : evenF (t.1 0) (r.1 v) v < r.1 (v + 1)
  · rw [if_pos h1]
    rw [lt_iff] at h1
    by_cases h2 : r.2 (v + 1) < r.1 (v + 1)
    · rw [if_pos h2]; rw [lt_iff] at h2; omega
    · rw [if_neg h2]; rw [lt_iff] at h2; omega
  · rw [if_neg h1]
    rw [lt_iff] at h1
    by_cases h2 : r.2 (v + 1) < evenF (t.1 0) (r.1 v) v
    · rw [if_pos h2]; rw [lt_iff] at h2; omega
    · rw [if_neg h2]; rw [lt_iff] at h2; omega
def GI (t : TS) (d : Nat → Nat → Int) (r : (Nat → Int32) × (Nat → Int32)) (v : Nat) : Prop := DS (EdT t (kpT t)) (ii r.1) ∧ DS (EdT t (kpT t)) (ii r.2) ∧ (∀ j, j ≤ 64 → ii r.1 j = mx (fun i => ii r.1 i - d j i) v) ∧ (∀ j, j ≤ 64 → ii r.2 j = mn (fun i => ii r.1 i + d i j) v) ∧ Gd d (t.1 0) r.1 v
theorem GI_step {t : TS} (hg : gT t) {d : Nat → Nat → Int} (hC : Cl (EdT t (kpT t)) d) {r : (Nat → Int32) × (Nat → Int32)} {v : Nat} (hv : v < 64) (h : GI t d r v) : GI t d (sprS t v r) (v + 1) := by
  obtain ⟨h1, h2, h3, h4, h5, h6⟩ := h
  have hb := EdT_base t (kpT t)
  have z0 : ii r.1 0 = 0 := by unfold ii; rw [h5]; rfl
  have hlh : ii r.1 (v + 1) ≤ ii r.2 (v + 1) := by
    rw [h4 (v + 1) (by omega)]
    refine mn_ge _ _ v (fun i hi => ?_)
    have := hC.1 _ h1 i (v + 1) (by omega) (by omega)
    show _ ≤ ii r.1 i + d i (v + 1)
    omega
  have hgo := goalF_spec (t := t) hv hlh
  have hH : ∀ i, i ≤ v → ∀ j, j ≤ 64 → ii r.2 j ≤ ii r.1 i + d i j := fun i hi j hj => by
    rw [h4 j hj]
    exact mn_le (fun i => ii r.1 i + d i j) v i hi
  have w0 : ii r.2 0 = 0 := by
    have a1 := hH 0 (by omega) 0 (by omega)
    rw [hC.2.2.1 0 (by omega), z0] at a1
    have a2 : ii r.1 0 ≤ ii r.2 0 := by
      rw [h4 0 (by omega)]
      refine mn_ge _ _ v (fun i hi => ?_)
      have := hC.1 _ h1 i 0 (by omega) (by omega)
      show _ ≤ ii r.1 i + d i 0
      omega
    omega
  obtain ⟨b1, b2, b3⟩ := DS.ends hb h1 z0 (show v + 1 ≤ 64 by omega)
  obtain ⟨k1, k2, k3⟩ := DS.ends hb h2 w0 (show v + 1 ≤ 64 by omega)
  have x0 := hC.1 _ h1 (v + 1) 0 (by omega) (by omega)
  have x64 := hC.1 _ h1 (v + 1) 64 (by omega) (by omega)
  have hG : ∀ j, j ≤ 64 → ii (sprS t v r).1 j = max (ii r.1 j) ((goalF t v r).toInt - d j (v + 1)) := fun j hj => sprG_spec hg hC h1 z0 hv (by omega) (by omega) hj
  have hx0 := hC.1 _ h1 0 (v + 1) (by omega) (by omega)
  have hHs : ∀ j, j ≤ 64 → ii (sprS t v r).2 j = min (ii r.2 j) ((goalF t v r).toInt + d (v + 1) j) := fun j hj => sprH_spec hg hC h2 w0 hv (by omega) (by omega) (by omega) hj
  have hold : ∀ i, i ≤ v → ii (sprS t v r).1 i = ii r.1 i := fun i hi => by
    have := hH i hi (v + 1) (by omega)
    rw [hG i (by omega)]
    omega
  have hnew : ii (sprS t v r).1 (v + 1) = (goalF t v r).toInt := by
    rw [hG (v + 1) (by omega), hC.2.2.1 (v + 1) (by omega)]
    omega
  have hold' : ∀ i, i ≤ v → (sprS t v r).1 i = r.1 i := fun i hi => Int32.toInt_inj.mp (hold i hi)
  refine ⟨?_, ?_, ?_, ?_, (hold' 0 (by omega)).trans h5, fun w hw => ?_⟩
  · intro p q w hpq
    obtain ⟨hp, hq, hw⟩ := hC.2.2.2 p q w hpq
    have a1 := h1 p q w hpq
    have a2 := hC.2.1 q p (v + 1) hq hp (by omega)
    rw [hG p hp, hG q hq]
    omega
  · intro p q w hpq
    obtain ⟨hp, hq, hw⟩ := hC.2.2.2 p q w hpq
    have a1 := h2 p q w hpq
    have a2 := hC.2.1 (v + 1) q p (by omega) hq hp
    rw [hHs p hp, hHs q hq]
    omega
  · intro j hj
    rw [mx_s, hnew, mx_cg (g := fun i => ii r.1 i - d j i) v (fun i hi => by rw [hold i hi]), ← h3 j hj]
    exact hG j hj
  · intro j hj
    rw [mn_s, hnew, mn_cg (g := fun i => ii r.1 i + d i j) v (fun i hi => by rw [hold i hi]), ← h4 j hj]
    exact hHs j hj
  · by_cases hwv : w = v
    · subst hwv
      show ii (sprS t w r).1 (w + 1) = _
      rw [hnew, hgo, gdV_cg hold', h3 (w + 1) (by omega), h4 (w + 1) (by omega)]
      rfl
    · rw [hold' (w + 1) (by omega), gdV_cg (fun i hi => hold' i (by omega))]
      exact h6 w (by omega)
theorem GI_0 {t : TS} (hg : gT t) {d : Nat → Nat → Int} (hC : Cl (EdT t (kpT t)) d) (hl : ∀ j, j ≤ 64 → ii (t.2 10) j = - d j 0) : GI t d (spr0 t) 0 := by
  obtain ⟨r0, r1⟩ := hg.2.1
  have hb := EdT_base t (kpT t)
  have hG : ∀ j, j ≤ 64 → ii (spr0 t).1 j = - d j 0 := fun j hj => by
    show (cpyF (t.2 10) (t.2 9) j).toInt = _
    rw [cpyF_at _ _ hj]
    exact hl j hj
  have g0 : (spr0 t).1 0 = 0 := Int32.toInt_inj.mp (by
    show ii (spr0 t).1 0 = 0
    rw [hG 0 (by omega), hC.2.2.1 0 (by omega)]
    rfl)
  have g0i : ii (spr0 t).1 0 = 0 := by unfold ii; rw [g0]; rfl
  have hc : ∀ j, j ≤ 64 → ii (upd (fillF (t.1 0) 65 (t.2 11)) 0 0) j = if j = 0 then 0 else (t.1 0).toInt := fun j hj => by
    by_cases hz : j = 0
    · subst hz
      show (upd (fillF (t.1 0) 65 (t.2 11)) 0 0 0).toInt = _
      rw [pk_us, if_pos rfl]
      rfl
    · show (upd (fillF (t.1 0) 65 (t.2 11)) 0 0 j).toInt = _
      rw [pk_un hz, if_neg hz]
      unfold fillF
      rw [if_pos (by omega)]
  have hF : ∀ j, j ≤ 64 → Gl d (ii (upd (fillF (t.1 0) 65 (t.2 11)) 0 0)) j = d 0 j := fun j hj => by
    have a1 : d 0 j ≤ Gl d (ii (upd (fillF (t.1 0) 65 (t.2 11)) 0 0)) j := by
      refine mn_ge _ _ 64 (fun i hi => ?_)
      show _ ≤ ii (upd (fillF (t.1 0) 65 (t.2 11)) 0 0) i + d i j
      have := hC.2.1 0 i j (by omega) hi hj
      have := (hC.ler hb (show 0 ≤ 64 by omega) hi).1
      rw [hc i hi]
      split
      · next z => subst z; omega
      · omega
    have a2 : Gl d (ii (upd (fillF (t.1 0) 65 (t.2 11)) 0 0)) j ≤ ii (upd (fillF (t.1 0) 65 (t.2 11)) 0 0) 0 + d 0 j := mn_le (fun i => ii (upd (fillF (t.1 0) 65 (t.2 11)) 0 0) i + d i j) 64 0 (by omega)
    rw [hc 0 (by omega), if_pos rfl] at a2
    omega
  have hmn : mono (ii (upd (fillF (t.1 0) 65 (t.2 11)) 0 0)) := fun j hj => by
    rw [hc j (by omega), hc (j + 1) (by omega), if_neg (show ¬ j + 1 = 0 by omega)]
    split <;> omega
  have hH : ∀ j, j ≤ 64 → ii (spr0 t).2 j = d 0 j := by
    obtain ⟨e1, e2⟩ := hC.d64 hb
    obtain ⟨m1, k1⟩ := sinkF_spec hg hC (g0 := upd (fillF (t.1 0) 65 (t.2 11)) 0 0) (by rw [hF 0 (by omega), hc 0 (by omega), hC.2.2.1 0 (by omega)]; rfl) (by rw [hF 64 (by omega), hc 64 (by omega), e1]; rfl) 66 _ 1 ⟨hmn, Gl_ds hC _, fun j hj => by
        have := hC.ler hb (show 0 ≤ 64 by omega) hj
        rw [hF j hj]; omega, fun j hj => Gl_le hC _ hj, fun j hj => by rw [hc j hj]; split <;> omega⟩ (fun _ _ => Int.le_refl _) (fun h => absurd h (by decide)) (by omega)
    intro j hj
    exact (k1 j hj).trans (hF j hj)
  refine ⟨DS.ext hC hG (hC.col (by omega)), DS.ext hC hH (hC.row (by omega)), fun j hj => ?_, fun j hj => ?_, g0, fun v hv => by omega⟩
  · show _ = ii (spr0 t).1 0 - d j 0
    rw [g0i, hG j hj]
    omega
  · rw [mn_0]
    show _ = ii (spr0 t).1 0 + d 0 j
    rw [g0i, hH j hj]
    omega
theorem GI_loop {t : TS} (hg : gT t) {d : Nat → Nat → Int} (hC : Cl (EdT t (kpT t)) d) : ∀ (k : Nat) (r : (Nat → Int32) × (Nat → Int32)), k ≤ 64 → GI t d r (64 - k) → GI t d (sprL t k r) 64
  | 0, r, _, h => h
  | k + 1, r, hk, h => by
    refine GI_loop hg hC k _ (by omega) ?_
    have := GI_step hg hC (show 63 - k < 64 by omega) (show GI t d r (63 - k) by rw [show 63 - k = 64 - (k + 1) by omega]; exact h)
    rw [show 63 - k + 1 = 64 - k by omega] at this
    exact this
theorem spread_gd {t : TS} (hg : gT t) {d : Nat → Nat → Int} (hC : Cl (EdT t (kpT t)) d) (hl : ∀ j, j ≤ 64 → ii (t.2 10) j = - d j 0) : Gd d (t.1 0) (sprL t 64 (spr0 t)).1 64 ∧ ∀ j, j ≤ 64 → 0 ≤ ii (sprL t 64 (spr0 t)).1 j ∧ ii (sprL t 64 (spr0 t)).1 j ≤ (t.1 0).toInt := by
  obtain ⟨h1, h2, h3, h4, h5⟩ := GI_loop hg hC 64 (spr0 t) (by omega) (GI_0 hg hC hl)
  refine ⟨h5, fun j hj => ?_⟩
  have z0 : ii (sprL t 64 (spr0 t)).1 0 = 0 := by unfold ii; rw [h5.1]; rfl
  have := DS.ends (EdT_base t (kpT t)) h1 z0 hj
  exact ⟨this.1, this.2.1⟩
