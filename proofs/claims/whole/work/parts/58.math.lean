/-! the reference's closes -/
theorem farJ_spec (r : Int32) (i : Nat) : ∀ (k j : Nat) (f : Nat → Int32), j + k = 65 → ∀ p q, q ≤ 64 → farJ r i k j f (65 * p + q) = if p = i ∧ j ≤ q then (if i < q then r else 0) else f (65 * p + q)
  | 0, j, f, hj, p, q, hq => by
    rw [if_neg (by omega)]
    rfl
  | k + 1, j, f, hj, p, q, hq => by
    unfold farJ
    rw [farJ_spec r i k (j + 1) _ (by omega) p q hq]
    by_cases h1 : p = i ∧ j + 1 ≤ q
    · rw [if_pos h1, if_pos (show p = i ∧ j ≤ q from ⟨h1.1, by omega⟩)]
    · rw [if_neg h1]
      by_cases h2 : p = i ∧ j ≤ q
      · rw [if_pos h2]
        have e : q = j := by omega
        rw [h2.1, e, pk_us]
      · rw [if_neg h2, pk_un (by omega)]
theorem farI_spec (r : Int32) : ∀ (k i : Nat) (f : Nat → Int32), i + k = 65 → ∀ p q, p ≤ 64 → q ≤ 64 → farI r k i f (65 * p + q) = if i ≤ p then (if p < q then r else 0) else f (65 * p + q)
  | 0, i, f, hi, p, q, hp, hq => by
    rw [if_neg (by omega)]
    rfl
  | k + 1, i, f, hi, p, q, hp, hq => by
    unfold farI
    rw [farI_spec r k (i + 1) _ (by omega) p q hp hq]
    by_cases h1 : i + 1 ≤ p
    · rw [if_pos h1, if_pos (show i ≤ p by omega)]
    · rw [if_neg h1, farJ_spec r i 65 0 f (by omega) p q hq]
      by_cases h2 : p = i
      · rw [if_pos (show p = i ∧ 0 ≤ q from ⟨h2, by omega⟩), if_pos (show i ≤ p by omega), h2]
      · rw [if_neg (fun z => h2 z.1), if_neg (show ¬ i ≤ p by omega)]
theorem far0_spec {r : Int32} (hr : r.toInt ≠ -2147483648) (f : Nat → Int32) {p q : Nat} (hp : p ≤ 64) (hq : q ≤ 64) : far2 (far0 r f) p q = dZ r.toInt p q := by
  show (far0 r f (65 * p + q)).toInt = _
  unfold far0 dZ
  by_cases h : p = 64 ∧ q = 0
  · rw [h.1, h.2, show 65 * 64 + 0 = 4160 from rfl, pk_us, fb_negI hr, if_neg (by omega), if_pos ⟨rfl, rfl⟩]
  · rw [pk_un (by omega), farI_spec r 65 0 f (by omega) p q hp hq, if_pos (by omega), if_neg h]
    by_cases h2 : p < q
    · rw [if_pos h2, if_pos h2]
    · rw [if_neg h2, if_neg h2]
      rfl
def nM (t : TS) (i : Nat) : Nat := (t.2 1 i).toNatClampNeg
def pM (t : TS) (i : Nat) : Nat := (t.2 2 i).toNatClampNeg
def aM (t : TS) (i s : Nat) : Nat := (t.2 3 (40 * i + s)).toNatClampNeg
def bM (t : TS) (i s : Nat) : Nat := (t.2 4 (40 * i + s)).toNatClampNeg
def loM (t : TS) (i s : Nat) : Int := (t.2 5 (40 * i + s)).toInt
def hiM (t : TS) (i s : Nat) : Int := (t.2 6 (40 * i + s)).toInt
def EdM (t : TS) (i : Nat) (kp : Nat → Prop) : Nat → Nat → Int → Prop := Ed (t.2 0 i).toInt (nM t i) kp (aM t i) (bM t i) (loM t i) (hiM t i)
def gM (t : TS) (i : Nat) : Prop := vp_in (t.2 1 i) 41 ∧ vp_in (t.2 2 i) 41 ∧ (∀ s, s < nM t i → vp_in (t.2 3 (40 * i + s)) 65 ∧ vp_in (t.2 4 (40 * i + s)) 65) ∧ (0 ≤ (t.2 0 i).toInt ∧ (t.2 0 i).toInt ≤ 1000000) ∧ ∀ s, s < nM t i → 0 ≤ loM t i s ∧ loM t i s ≤ hiM t i s ∧ hiM t i s ≤ 1000001
theorem EdM_base (t : TS) (i : Nat) (kp : Nat → Prop) : baseE (t.2 0 i).toInt (EdM t i kp) := ⟨fun j hj => Or.inl ⟨rfl, hj, rfl⟩, Or.inr (Or.inl ⟨rfl, rfl, rfl⟩), Or.inr (Or.inr (Or.inl ⟨rfl, rfl, rfl⟩))⟩
def stM (t : TS) (i : Nat) : Nat → Int32 := fun q => t.2 7 (40 * i + q)
def MI (t : TS) (i : Nat) (tt : TS) (c : Nat) : Prop := sameM tt t ∧ (∀ s, c ≤ s → s < nM t i → (s < nM t i - pM t i → stM tt i s = 2) ∧ (nM t i - pM t i ≤ s → SpS (t.2 0 i).toInt (nM t i) (aM t i) (bM t i) (loM t i) (hiM t i) (stM tt i) s)) ∧ Cl (EdM t i (fun q => c ≤ q ∧ stM tt i q = 0)) (far2 (tt.2 9))
theorem MI_0 {t : TS} {i : Nat} (hg : gM t i) : MI t i (clos0 t i) (nM t i) := by
  obtain ⟨r0, r1⟩ := hg.2.2.2.1
  refine ⟨sameM_9 (sameM.rf t) _ _, fun s h1 h2 => by omega, ?_⟩
  have h9 : (clos0 t i).2 9 = far0 (t.2 0 i) (t.2 9) := rfl
  rw [h9]
  refine (dZ_cl r0 (EdM_base t i _) (fun u v w q => ?_)).ext (fun p q hp hq => far0_spec (by omega) _ hp hq)
  rcases q with q | q | q | ⟨s, a1, a2, a3⟩ | ⟨s, a1, a2, a3⟩
  · exact Or.inl q
  · exact Or.inr (Or.inl q)
  · exact Or.inr (Or.inr q)
  · exact absurd a2.1 (by omega)
  · exact absurd a2.1 (by omega)
theorem closS_same_k {tt t : TS} (h : sameM tt t) (i c : Nat) (g7 g9 : Nat → Int32) : sameM (tt.1, ua (ua tt.2 7 g7) 9 g9) t := fun k h1 h2 => by
  show ua (ua tt.2 7 g7) 9 g9 k = _
  rw [ua_n _ _ h2, ua_n _ _ h1]; exact h k h1 h2
theorem MI_step {t tt : TS} {i c : Nat} (hg : gM t i) (hc : c < nM t i) (h : MI t i tt (c + 1)) : MI t i (closS i tt c) c := by
  obtain ⟨hsame, hsp, hC⟩ := h
  obtain ⟨r0, r1⟩ := hg.2.2.2.1
  obtain ⟨l1, l2, l3⟩ := hg.2.2.2.2 c hc
  obtain ⟨en, hn41⟩ := vp_in_c hg.1 (by decide)
  obtain ⟨ep, hp41⟩ := vp_in_c hg.2.1 (by decide)
  have ha : aM t i c ≤ 64 := by
    have := (vp_in_c (hg.2.2.1 c hc).1 (by decide)).2
    unfold aM; omega
  have hb : bM t i c ≤ 64 := by
    have := (vp_in_c (hg.2.2.1 c hc).2 (by decide)).2
    unfold bM; omega
  have hbase := EdM_base t i (fun q => c + 1 ≤ q ∧ stM tt i q = 0)
  have hbd : ∀ p q, p ≤ 64 → q ≤ 64 → -1000000 ≤ far2 (tt.2 9) p q ∧ far2 (tt.2 9) p q ≤ 1000000 := fun p q hp hq => by
    have := hC.ler hbase hp hq
    omega
  have e3 : (tt.2 3 (40 * i + c)).toNatClampNeg = aM t i c := by unfold aM; rw [hsame 3 (by decide) (by decide)]
  have e4 : (tt.2 4 (40 * i + c)).toNatClampNeg = bM t i c := by unfold bM; rw [hsame 4 (by decide) (by decide)]
  have e5 : (tt.2 5 (40 * i + c)).toInt = loM t i c := by unfold loM; rw [hsame 5 (by decide) (by decide)]
  have e6 : (tt.2 6 (40 * i + c)).toInt = hiM t i c := by unfold hiM; rw [hsame 6 (by decide) (by decide)]
  have e1 : tt.2 1 i = t.2 1 i := by rw [hsame 1 (by decide) (by decide)]
  have e2 : tt.2 2 i = t.2 2 i := by rw [hsame 2 (by decide) (by decide)]
  have bab := hbd _ _ ha hb
  have bba := hbd _ _ hb ha
  have zaa := hC.2.2.1 _ ha
  have tri := hC.2.1 _ _ _ ha hb ha
  have hlow : (lowF tt (40 * i + c)).toInt = max (loM t i c) (- far2 (tt.2 9) (bM t i c) (aM t i c)) := by
    have en9 : (- tt.2 9 (65 * bM t i c + aM t i c)).toInt = - far2 (tt.2 9) (bM t i c) (aM t i c) := fb_negI (by show far2 (tt.2 9) _ _ ≠ _; omega)
    unfold lowF
    rw [e3, e4]
    by_cases q : tt.2 5 (40 * i + c) < - tt.2 9 (65 * bM t i c + aM t i c)
    · rw [if_pos q, en9]
      rw [lt_iff, e5, en9] at q
      omega
    · rw [if_neg q, e5]
      rw [lt_iff, e5, en9] at q
      omega
  have hhigh : (highF tt (40 * i + c)).toInt = min (hiM t i c) (far2 (tt.2 9) (aM t i c) (bM t i c)) := by
    have en9 : (tt.2 9 (65 * aM t i c + bM t i c)).toInt = far2 (tt.2 9) (aM t i c) (bM t i c) := rfl
    unfold highF
    rw [e3, e4]
    by_cases q : tt.2 9 (65 * aM t i c + bM t i c) < tt.2 6 (40 * i + c)
    · rw [if_pos q, en9]
      rw [lt_iff, e6, en9] at q
      omega
    · rw [if_neg q, e6]
      rw [lt_iff, e6, en9] at q
      omega
  have hnK : ∀ q, q ≠ c → 40 * i + q ≠ 40 * i + c := fun q hq => by omega
  have hcan := can_iff hC ha hb l2
  have hcond : tt.2 1 i - nI c ≤ tt.2 2 i ↔ nM t i - pM t i ≤ c := by
    rw [e1, e2, en, ep]
    unfold nM at hc
    rw [pk_sub (by omega), nI_leI (by omega) (by omega)]
    unfold nM pM
    omega
  have hst : ∀ (x : Int32) (g : Nat → Nat → Int32), g 7 = upd (tt.2 7) (40 * i + c) x → ∀ q, (fun q => g 7 (40 * i + q)) q = if q = c then x else stM tt i q := by
    intro x g hg7 q
    show g 7 (40 * i + q) = _
    rw [hg7]
    by_cases hq : q = c
    · rw [if_pos hq, hq, pk_us]
    · rw [if_neg hq, pk_un (hnK q hq)]; rfl
  have hfin : ∀ (x : Int32) (u : TS), u.2 7 = upd (tt.2 7) (40 * i + c) x → sameM u t → ((c < nM t i - pM t i → x = 2) ∧ (nM t i - pM t i ≤ c → (x = 0 ∧ canBe (EdM t i (fun q => c + 1 ≤ q ∧ stM tt i q = 0)) (aM t i c) (bM t i c) (loM t i c) (hiM t i c)) ∨ (x = 1 ∧ ¬ canBe (EdM t i (fun q => c + 1 ≤ q ∧ stM tt i q = 0)) (aM t i c) (bM t i c) (loM t i c) (hiM t i c)))) → ∀ s, c ≤ s → s < nM t i → (s < nM t i - pM t i → stM u i s = 2) ∧ (nM t i - pM t i ≤ s → SpS (t.2 0 i).toInt (nM t i) (aM t i) (bM t i) (loM t i) (hiM t i) (stM u i) s) := by
    intro x u hu hsu hx s h1 h2
    have hs := hst x u.2 hu
    by_cases hsc : s = c
    · subst hsc
      have hsx : stM u i s = x := by
        have := hs s
        rw [if_pos rfl] at this
        exact this
      refine ⟨fun z => hsx.trans (hx.1 z), fun z => ?_⟩
      have e : canBe (EdM t i (fun q => s + 1 ≤ q ∧ stM tt i q = 0)) (aM t i s) (bM t i s) (loM t i s) (hiM t i s) ↔ canBe (Ed (t.2 0 i).toInt (nM t i) (fun q => s < q ∧ stM u i q = 0) (aM t i) (bM t i) (loM t i) (hiM t i)) (aM t i s) (bM t i s) (loM t i s) (hiM t i s) := canBe.congr (Ed_congr (fun q _ => by
        have hq := hs q
        by_cases hqs : q = s
        · constructor
          · intro z; omega
          · intro z; omega
        · rw [if_neg hqs] at hq
          have hq' : stM u i q = stM tt i q := hq
          rw [hq']
          constructor
          · rintro ⟨z1, z2⟩; exact ⟨by omega, z2⟩
          · rintro ⟨z1, z2⟩; exact ⟨by omega, z2⟩))
      unfold SpS
      rw [hsx, ← e]
      exact hx.2 z
    · obtain ⟨g1, g2⟩ := hsp s (by omega) h2
      have hq : ∀ q, s ≤ q → stM u i q = stM tt i q := fun q hq => by
        have := hs q
        rw [if_neg (by omega)] at this
        exact this
      exact ⟨fun z => (hq s (Nat.le_refl _)).trans (g1 z), fun z => SpS.congr hq (g2 z)⟩
  have hkeep : ∀ (x : Int32) (u : TS), u.2 7 = upd (tt.2 7) (40 * i + c) x → ¬ x = 0 → u.2 9 = tt.2 9 → Cl (EdM t i (fun q => c ≤ q ∧ stM u i q = 0)) (far2 (u.2 9)) := by
    intro x u hu hx h9
    rw [h9]
    refine hC.congr (Ed_congr (fun q _ => ?_))
    have hq := hst x u.2 hu q
    have hq' : stM u i q = if q = c then x else stM tt i q := hq
    rw [hq']
    by_cases hqc : q = c
    · rw [if_pos hqc]
      constructor
      · intro z; omega
      · rintro ⟨_, z⟩; exact absurd z hx
    · rw [if_neg hqc]
      constructor
      · rintro ⟨z1, z2⟩; exact ⟨by omega, z2⟩
      · rintro ⟨z1, z2⟩; exact ⟨by omega, z2⟩
  unfold closS
  by_cases hm : tt.2 1 i - nI c ≤ tt.2 2 i
  · have hol := hcond.mp hm
    rw [if_pos hm]
    by_cases hlh : lowF tt (40 * i + c) ≤ highF tt (40 * i + c)
    · rw [if_pos hlh]
      have hlh' := (le_iff _ _).mp hlh
      rw [hlow, hhigh] at hlh'
      rw [e3, e4]
      obtain ⟨c1, v1⟩ := bindsF_cl hC hbd ha hb (y := highF tt (40 * i + c)) (by rw [hhigh]; omega) (by rw [hhigh]; omega)
      have zbb := hC.2.2.1 _ hb
      have hbase1 : baseE (t.2 0 i).toInt (fun u v w => EdM t i (fun q => c + 1 ≤ q ∧ stM tt i q = 0) u v w ∨ (u = bM t i c ∧ v = aM t i c ∧ w = - (highF tt (40 * i + c)).toInt)) := ⟨fun j hj => Or.inl (hbase.1 j hj), Or.inl hbase.2.1, Or.inl hbase.2.2⟩
      have hbd1 : ∀ p q, p ≤ 64 → q ≤ 64 → -1000000 ≤ far2 (bindsF (tt.2 9) (aM t i c) (bM t i c) (highF tt (40 * i + c))) p q ∧ far2 (bindsF (tt.2 9) (aM t i c) (bM t i c) (highF tt (40 * i + c))) p q ≤ 1000000 := fun p q hp hq => by
        have := c1.ler hbase1 hp hq
        omega
      have v1ab := v1 _ _ ha hb
      unfold bd at v1ab
      rw [hhigh] at v1ab
      have hnl : (- lowF tt (40 * i + c)).toInt = - (lowF tt (40 * i + c)).toInt := fb_negI (by rw [hlow]; omega)
      obtain ⟨c2, v2⟩ := bindsF_cl c1 hbd1 hb ha (y := - lowF tt (40 * i + c)) (by rw [hnl, hlow]; omega) (by rw [hnl, hlow, v1ab]; omega)
      refine ⟨closS_same_k hsame i c _ _, hfin 0 _ rfl (closS_same_k hsame i c _ _) ⟨fun z => by omega, fun _ => Or.inl ⟨rfl, hcan.mpr (by omega)⟩⟩, ?_⟩
      have c3 : Cl (E2 (EdM t i (fun q => c + 1 ≤ q ∧ stM tt i q = 0)) (aM t i c) (bM t i c) (loM t i c) (hiM t i c)) (far2 (bindsF (bindsF (tt.2 9) (aM t i c) (bM t i c) (highF tt (40 * i + c))) (bM t i c) (aM t i c) (- lowF tt (40 * i + c)))) := by
        refine ⟨fun x hx => c2.1 x (fun u v w q => ?_), c2.2.1, c2.2.2.1, fun u v w q => ?_⟩
        · rcases q with (q | ⟨rfl, rfl, rfl⟩) | ⟨rfl, rfl, rfl⟩
          · exact hx u v w (Or.inl q)
          · have a1 := hC.1 x (fun u v w q => hx u v w (Or.inl q)) _ _ ha hb
            have a2 := hx _ _ _ (Or.inr (Or.inr ⟨rfl, rfl, rfl⟩))
            rw [hhigh]
            omega
          · have a1 := hC.1 x (fun u v w q => hx u v w (Or.inl q)) _ _ hb ha
            have a2 := hx _ _ _ (Or.inr (Or.inl ⟨rfl, rfl, rfl⟩))
            rw [hnl, hlow]
            omega
        · rcases q with q | ⟨rfl, rfl, rfl⟩ | ⟨rfl, rfl, rfl⟩
          · exact c2.2.2.2 u v w (Or.inl (Or.inl q))
          · obtain ⟨_, _, q3⟩ := c2.2.2.2 _ _ _ (Or.inr ⟨rfl, rfl, rfl⟩)
            rw [hnl, hlow] at q3
            exact ⟨ha, hb, by omega⟩
          · obtain ⟨_, _, q3⟩ := c2.2.2.2 _ _ _ (Or.inl (Or.inr ⟨rfl, rfl, rfl⟩))
            rw [hhigh] at q3
            exact ⟨hb, ha, by omega⟩
      refine c3.congr (Ed_add hc (fun q _ => ?_))
      have hq := hst 0 (ua (ua tt.2 7 (upd (tt.2 7) (40 * i + c) 0)) 9 (bindsF (bindsF (tt.2 9) (aM t i c) (bM t i c) (highF tt (40 * i + c))) (bM t i c) (aM t i c) (- lowF tt (40 * i + c)))) rfl q
      show c ≤ q ∧ (fun q => ua (ua tt.2 7 (upd (tt.2 7) (40 * i + c) 0)) 9 (bindsF (bindsF (tt.2 9) (aM t i c) (bM t i c) (highF tt (40 * i + c))) (bM t i c) (aM t i c) (- lowF tt (40 * i + c))) 7 (40 * i + q)) q = 0 ↔ _
      rw [hq]
      by_cases hqc : q = c
      · rw [if_pos hqc]
        exact ⟨fun _ => Or.inr hqc, fun _ => ⟨by omega, rfl⟩⟩
      · rw [if_neg hqc]
        constructor
        · rintro ⟨z1, z2⟩; exact Or.inl ⟨by omega, z2⟩
        · rintro (⟨z1, z2⟩ | z)
          · exact ⟨by omega, z2⟩
          · exact absurd z hqc
    · rw [if_neg hlh]
      have hlh' : ¬ (lowF tt (40 * i + c)).toInt ≤ (highF tt (40 * i + c)).toInt := fun z => hlh ((le_iff _ _).mpr z)
      rw [hlow, hhigh] at hlh'
      exact ⟨sameM_7 hsame _, hfin 1 _ rfl (sameM_7 hsame _) ⟨fun z => by omega, fun _ => Or.inr ⟨rfl, fun z => by have := hcan.mp z; omega⟩⟩, hkeep 1 _ rfl (by decide) rfl⟩
  · rw [if_neg hm]
    have hol : ¬ nM t i - pM t i ≤ c := fun z => hm (hcond.mpr z)
    exact ⟨sameM_7 hsame _, hfin 2 _ rfl (sameM_7 hsame _) ⟨fun _ => rfl, fun z => absurd z hol⟩, hkeep 2 _ rfl (by decide) rfl⟩
