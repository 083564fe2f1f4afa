/-! both sides settled: the same states, the same closure -/
theorem MI_loop {t : TS} {i : Nat} (hg : gM t i) : ∀ (c : Nat) (tt : TS), c ≤ nM t i → MI t i tt c → MI t i (closL i c tt) 0
  | 0, _, _, h => h
  | c + 1, tt, hc, h => MI_loop hg c _ (by omega) (MI_step hg (by omega) h)
theorem closS_1 (i c : Nat) (t : TS) : (closS i t c).1 = t.1 := by
  unfold closS
  split
  · split <;> rfl
  · rfl
theorem closL_1 (i : Nat) : ∀ (c : Nat) (t : TS), (closL i c t).1 = t.1
  | 0, _ => rfl
  | c + 1, t => (closL_1 i c _).trans (closS_1 i c t)
theorem sameM.trans {a b c : TS} (h : sameM a b) (h2 : sameM b c) : sameM a c := fun k h7 h9 => (h k h7 h9).trans (h2 k h7 h9)
theorem MI_base {t t' : TS} {i : Nat} {tt : TS} {c : Nat} (h : sameM t' t) (hM : MI t i tt c) : MI t' i tt c := by
  have e0 := h 0 (by decide) (by decide)
  have e1 := h 1 (by decide) (by decide)
  have e2 := h 2 (by decide) (by decide)
  have e3 := h 3 (by decide) (by decide)
  have e4 := h 4 (by decide) (by decide)
  have e5 := h 5 (by decide) (by decide)
  have e6 := h 6 (by decide) (by decide)
  have hs : sameM tt t' := fun k h7 h9 => (hM.1 k h7 h9).trans (h k h7 h9).symm
  have en : nM t' i = nM t i := by unfold nM; rw [e1]
  have ep : pM t' i = pM t i := by unfold pM; rw [e2]
  have ea : aM t' i = aM t i := funext (fun s => by unfold aM; rw [e3])
  have eb : bM t' i = bM t i := funext (fun s => by unfold bM; rw [e4])
  have el : loM t' i = loM t i := funext (fun s => by unfold loM; rw [e5])
  have eh : hiM t' i = hiM t i := funext (fun s => by unfold hiM; rw [e6])
  refine ⟨hs, ?_, ?_⟩
  · rw [en, ep, ea, eb, el, eh, e0]
    exact hM.2.1
  · unfold EdM
    rw [en, ea, eb, el, eh, e0]
    exact hM.2.2
theorem closF_MI {t : TS} {i : Nat} (hg : gM t i) (hcl : t.1 10 = nI i → MI t i t 0) : MI t i (closF t i) 0 ∧ (closF t i).1 10 = nI i ∧ (t.1 10 = nI i → closF t i = t) := by
  unfold closF
  by_cases h : t.1 10 = nI i
  · rw [if_pos h]
    exact ⟨hcl h, h, fun _ => rfl⟩
  · rw [if_neg h]
    refine ⟨MI_loop hg _ _ (Nat.le_refl _) (MI_0 hg), ?_, fun z => absurd z h⟩
    rw [closL_1]
    show upd t.1 10 (nI i) 10 = nI i
    exact pk_us
def pT (t : TS) : Nat := (t.1 2).toNatClampNeg
theorem Settled.fr {u u' : TS} {ol : Nat} (h : sameK u' u) (h10 : u'.2 10 = u.2 10) (hS : Settled u ol) : Settled u' ol := by
  have e3 := h.2.2 3 (by decide) (by decide)
  have e4 := h.2.2 4 (by decide) (by decide)
  have e5 := h.2.2 5 (by decide) (by decide)
  have e6 := h.2.2 6 (by decide) (by decide)
  have e7 := h.2.2 7 (by decide) (by decide)
  unfold Settled EdT kpT nT aT bT loT hiT at hS ⊢
  rw [h.1, h.2.1, e3, e4, e5, e6, e7, h10]
  exact hS
theorem oldF_nI {t : TS} (h1 : vp_in (t.1 1) 41) (h2 : vp_in (t.1 2) 41) : oldF t = nI (nT t - pT t) := by
  obtain ⟨en, hn⟩ := vp_in_c h1 (by decide)
  obtain ⟨ep, hp⟩ := vp_in_c h2 (by decide)
  unfold oldF nT pT
  have z : (0 : Int32).toInt = 0 := rfl
  have e1 : (t.1 1).toInt = (t.1 1).toNatClampNeg := by rw [en]; exact (nI_toInt (by omega)).trans (by rw [nI_clamp (by omega)])
  have e2 : (t.1 2).toInt = (t.1 2).toNatClampNeg := by rw [ep]; exact (nI_toInt (by omega)).trans (by rw [nI_clamp (by omega)])
  have e3 : (t.1 1 - t.1 2).toInt = (t.1 1).toInt - (t.1 2).toInt := fb_subI (by omega) (by omega)
  by_cases q : t.1 1 - t.1 2 < 0
  · rw [if_pos q]
    rw [lt_iff, e3, z] at q
    rw [show (t.1 1).toNatClampNeg - (t.1 2).toNatClampNeg = 0 by omega]
    rfl
  · rw [if_neg q]
    rw [lt_iff, e3, z] at q
    rw [← Int32.toInt_inj, e3, nI_toInt (by omega)]
    omega
/-- what settle leaves as it was -/
def sameS (tt t : TS) : Prop := (∀ k, k ≠ 12 → tt.1 k = t.1 k) ∧ ∀ k, k ≠ 7 → k ≠ 10 → k ≠ 11 → tt.2 k = t.2 k
theorem settle_spec {t : TS} (hg : gT t) (h2 : vp_in (t.1 2) 41) (hS : ¬ t.1 12 = 0 → Settled t (nT t - pT t)) : Settled (settleF t) (nT t - pT t) ∧ sameS (settleF t) t ∧ ¬ (settleF t).1 12 = 0 := by
  unfold settleF
  by_cases h : t.1 12 = 0
  · rw [if_pos h]
    have hn := (vp_in_c hg.1.1 (by decide)).2
    obtain ⟨h1, h2', h3, d, h4, h5⟩ := SI_loop hg (oldF t) (nT t - pT t) (oldF_nI hg.1.1 h2) (by unfold nT; omega) (nT t) (set0 t) (Nat.le_refl _) (by omega) (SI_0 hg)
    have hS' : Settled (setL (oldF t) (nT t) (set0 t)) (nT t - pT t) := by
      unfold Settled
      rw [sameA_n h1, sameA_a h1, sameA_b h1, sameA_lo h1, sameA_hi h1, sameA_E h1, h1.1]
      exact ⟨fun s hs => ⟨fun z => h2' s z, fun z => h3 s z hs⟩, d, h4, h5⟩
    refine ⟨Settled.fr (u := setL (oldF t) (nT t) (set0 t)) ⟨rfl, rfl, fun _ _ _ => rfl⟩ rfl hS', ⟨fun k hk => ?_, fun k k7 k10 k11 => ?_⟩, ?_⟩
    · show upd (setL (oldF t) (nT t) (set0 t)).1 12 1 k = _
      rw [pk_un hk, h1.1]
    · exact h1.2 k k7 k10 k11
    · show ¬ upd (setL (oldF t) (nT t) (set0 t)).1 12 1 12 = 0
      rw [pk_us]
      decide
  · rw [if_neg h]
    exact ⟨hS h, ⟨fun _ _ => rfl, fun _ _ _ _ => rfl⟩, h⟩
theorem Ed_cg {r : Int} {n : Nat} {kp : Nat → Prop} {a b a' b' : Nat → Nat} {lo hi lo' hi' : Nat → Int} (h : ∀ s, s < n → a s = a' s ∧ b s = b' s ∧ lo s = lo' s ∧ hi s = hi' s) (u v : Nat) (w : Int) : Ed r n kp a b lo hi u v w ↔ Ed r n kp a' b' lo' hi' u v w := by
  unfold Ed
  constructor
  · rintro (q | q | q | ⟨s, h1, h2, h3, h4, h5⟩ | ⟨s, h1, h2, h3, h4, h5⟩)
    · exact Or.inl q
    · exact Or.inr (Or.inl q)
    · exact Or.inr (Or.inr (Or.inl q))
    · obtain ⟨e1, e2, e3, e4⟩ := h s h1
      exact Or.inr (Or.inr (Or.inr (Or.inl ⟨s, h1, h2, h3.trans e1, h4.trans e2, h5.trans e3⟩)))
    · obtain ⟨e1, e2, e3, e4⟩ := h s h1
      exact Or.inr (Or.inr (Or.inr (Or.inr ⟨s, h1, h2, h3.trans e2, h4.trans e1, by rw [h5, e4]⟩)))
  · rintro (q | q | q | ⟨s, h1, h2, h3, h4, h5⟩ | ⟨s, h1, h2, h3, h4, h5⟩)
    · exact Or.inl q
    · exact Or.inr (Or.inl q)
    · exact Or.inr (Or.inr (Or.inl q))
    · obtain ⟨e1, e2, e3, e4⟩ := h s h1
      exact Or.inr (Or.inr (Or.inr (Or.inl ⟨s, h1, h2, h3.trans e1.symm, h4.trans e2.symm, h5.trans e3.symm⟩)))
    · obtain ⟨e1, e2, e3, e4⟩ := h s h1
      exact Or.inr (Or.inr (Or.inr (Or.inr ⟨s, h1, h2, h3.trans e2.symm, h4.trans e1.symm, by rw [h5, e4]⟩)))
theorem Spec.cg {r : Int} {n : Nat} {a b a' b' : Nat → Nat} {lo hi lo' hi' : Nat → Int} {ol : Nat} {st : Nat → Int32} (h : ∀ s, s < n → a s = a' s ∧ b s = b' s ∧ lo s = lo' s ∧ hi s = hi' s) (hS : Spec r n a b lo hi ol st) : Spec r n a' b' lo' hi' ol st := by
  intro s hs
  obtain ⟨e1, e2, e3, e4⟩ := h s hs
  obtain ⟨h1, h2⟩ := hS s hs
  refine ⟨h1, fun z => ?_⟩
  have := h2 z
  unfold SpS at this ⊢
  rw [← e1, ← e2, ← e3, ← e4, ← canBe.congr (Ed_cg h)]
  exact this
/-- a Table of the class and table i of the reference keep the same -/
def Rk (u t : TS) (i : Nat) : Prop := (u.1 0 = t.2 0 i ∧ u.1 1 = t.2 1 i ∧ u.1 2 = t.2 2 i) ∧ (∀ s, s < nT u → u.2 3 s = t.2 3 (40 * i + s) ∧ u.2 4 s = t.2 4 (40 * i + s) ∧ u.2 5 s = t.2 5 (40 * i + s) ∧ u.2 6 s = t.2 6 (40 * i + s)) ∧ ∀ v, v < 64 → u.2 8 v = t.2 8 (64 * i + v)
theorem Rk.n {u t : TS} {i : Nat} (h : Rk u t i) : nT u = nM t i := by unfold nT nM; rw [h.1.2.1]
theorem Rk.p {u t : TS} {i : Nat} (h : Rk u t i) : pT u = pM t i := by unfold pT pM; rw [h.1.2.2]
theorem Rk.ab {u t : TS} {i : Nat} (h : Rk u t i) : ∀ s, s < nT u → aT u s = aM t i s ∧ bT u s = bM t i s ∧ loT u s = loM t i s ∧ hiT u s = hiM t i s := fun s hs => by
  obtain ⟨e1, e2, e3, e4⟩ := h.2.1 s hs
  unfold aT bT loT hiT aM bM loM hiM
  rw [e1, e2, e3, e4]
  exact ⟨rfl, rfl, rfl, rfl⟩
theorem pair {u t : TS} {i : Nat} (hk : Rk u t i) (hS : Settled u (nT u - pT u)) {tt : TS} (hM : MI t i tt 0) : (∀ s, s < nT u → stM tt i s = u.2 7 s) ∧ ∃ d, Cl (EdT u (kpT u)) d ∧ (∀ j, j ≤ 64 → ii (u.2 10) j = - d j 0) ∧ ∀ p q, p ≤ 64 → q ≤ 64 → far2 (tt.2 9) p q = d p q := by
  obtain ⟨h1, d, h2, h3⟩ := hS
  have hsp : Spec (t.2 0 i).toInt (nM t i) (aM t i) (bM t i) (loM t i) (hiM t i) (nM t i - pM t i) (u.2 7) := by
    have := Spec.cg hk.ab h1
    rw [hk.n, hk.p, hk.1.1] at this
    exact this
  have hsm : Spec (t.2 0 i).toInt (nM t i) (aM t i) (bM t i) (loM t i) (hiM t i) (nM t i - pM t i) (stM tt i) := fun s hs => hM.2.1 s (Nat.zero_le _) hs
  have hst : ∀ s, s < nT u → stM tt i s = u.2 7 s := fun s hs => by
    rw [hk.n] at hs
    exact Spec.uniq hsm hsp (nM t i) 0 (by omega) s (Nat.zero_le _) hs
  refine ⟨hst, d, h2, h3, fun p q hp hq => ?_⟩
  have hc : Cl (EdT u (kpT u)) (far2 (tt.2 9)) := by
    refine hM.2.2.congr (fun x y w => ?_)
    unfold EdM EdT
    rw [← hk.n, ← hk.1.1, ← Ed_cg hk.ab]
    refine Ed_congr (fun s hs => ?_) x y w
    show (0 ≤ s ∧ stM tt i s = 0) ↔ u.2 7 s = 0
    rw [hst s hs]
    exact ⟨fun z => z.2, fun z => ⟨Nat.zero_le _, z⟩⟩
  exact hc.uniq h2 hp hq
