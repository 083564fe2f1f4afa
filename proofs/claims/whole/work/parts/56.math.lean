/-! settle: from the newest on, kept if it can be with the newer kept -/
def dZ (r : Int) (i j : Nat) : Int := if i < j then r else if i = 64 ∧ j = 0 then -r else 0
theorem dZ_cl {r : Int} (hr : 0 ≤ r) {E : Nat → Nat → Int → Prop} (hb : baseE r E) (hE : ∀ u v w, E u v w → (v = u + 1 ∧ u < 64 ∧ w = 0) ∨ (u = 0 ∧ v = 64 ∧ w = r) ∨ (u = 64 ∧ v = 0 ∧ w = -r)) : Cl E (dZ r) := by
  refine ⟨fun x hx i j hi hj => ?_, fun i j k hi hj hk => ?_, fun i hi => ?_, fun u v w q => ?_⟩
  · have hm := DS.mono hb.1 hx
    have a1 := hx 0 64 r hb.2.1
    have a2 := hx 64 0 (-r) hb.2.2
    have b1 := mono_le2 hm (i := j) (j := 64) hj (by omega)
    have b2 := mono_le2 hm (i := 0) (j := i) (by omega) hi
    unfold dZ
    by_cases h1 : i < j
    · rw [if_pos h1]; omega
    · rw [if_neg h1]
      have b3 := mono_le2 hm (i := j) (j := i) (by omega) hi
      by_cases h2 : i = 64 ∧ j = 0
      · rw [if_pos h2]
        obtain ⟨rfl, rfl⟩ := h2
        omega
      · rw [if_neg h2]; omega
  · unfold dZ
    (repeat' split) <;> omega
  · unfold dZ
    rw [if_neg (by omega), if_neg (by omega)]
  · rcases hE u v w q with ⟨rfl, h1, rfl⟩ | ⟨rfl, rfl, rfl⟩ | ⟨rfl, rfl, rfl⟩
    · refine ⟨by omega, by omega, ?_⟩
      unfold dZ
      rw [if_neg (by omega)]
      split <;> omega
    · refine ⟨by omega, by omega, ?_⟩
      unfold dZ
      rw [if_neg (by omega), if_pos ⟨rfl, rfl⟩]
      omega
    · refine ⟨by omega, by omega, ?_⟩
      unfold dZ
      rw [if_pos (by omega)]
      omega
theorem Ed_congr {r : Int} {n : Nat} {kp kp' : Nat → Prop} {a b : Nat → Nat} {lo hi : Nat → Int} (h : ∀ q, q < n → (kp q ↔ kp' q)) (u v : Nat) (w : Int) : Ed r n kp a b lo hi u v w ↔ Ed r n kp' a b lo hi u v w := by
  unfold Ed
  constructor
  · rintro (q | q | q | ⟨s, h1, h2, h3⟩ | ⟨s, h1, h2, h3⟩)
    · exact Or.inl q
    · exact Or.inr (Or.inl q)
    · exact Or.inr (Or.inr (Or.inl q))
    · exact Or.inr (Or.inr (Or.inr (Or.inl ⟨s, h1, (h s h1).mp h2, h3⟩)))
    · exact Or.inr (Or.inr (Or.inr (Or.inr ⟨s, h1, (h s h1).mp h2, h3⟩)))
  · rintro (q | q | q | ⟨s, h1, h2, h3⟩ | ⟨s, h1, h2, h3⟩)
    · exact Or.inl q
    · exact Or.inr (Or.inl q)
    · exact Or.inr (Or.inr (Or.inl q))
    · exact Or.inr (Or.inr (Or.inr (Or.inl ⟨s, h1, (h s h1).mpr h2, h3⟩)))
    · exact Or.inr (Or.inr (Or.inr (Or.inr ⟨s, h1, (h s h1).mpr h2, h3⟩)))
theorem Ed_add {r : Int} {n : Nat} {kp kp' : Nat → Prop} {a b : Nat → Nat} {lo hi : Nat → Int} {i : Nat} (hi' : i < n) (h : ∀ q, q < n → (kp' q ↔ (kp q ∨ q = i))) (u v : Nat) (w : Int) : E2 (Ed r n kp a b lo hi) (a i) (b i) (lo i) (hi i) u v w ↔ Ed r n kp' a b lo hi u v w := by
  unfold E2 Ed
  constructor
  · rintro ((q | q | q | ⟨s, h1, h2, h3⟩ | ⟨s, h1, h2, h3⟩) | q | q)
    · exact Or.inl q
    · exact Or.inr (Or.inl q)
    · exact Or.inr (Or.inr (Or.inl q))
    · exact Or.inr (Or.inr (Or.inr (Or.inl ⟨s, h1, (h s h1).mpr (Or.inl h2), h3⟩)))
    · exact Or.inr (Or.inr (Or.inr (Or.inr ⟨s, h1, (h s h1).mpr (Or.inl h2), h3⟩)))
    · exact Or.inr (Or.inr (Or.inr (Or.inl ⟨i, hi', (h i hi').mpr (Or.inr rfl), q⟩)))
    · exact Or.inr (Or.inr (Or.inr (Or.inr ⟨i, hi', (h i hi').mpr (Or.inr rfl), q⟩)))
  · rintro (q | q | q | ⟨s, h1, h2, h3⟩ | ⟨s, h1, h2, h3⟩)
    · exact Or.inl (Or.inl q)
    · exact Or.inl (Or.inr (Or.inl q))
    · exact Or.inl (Or.inr (Or.inr (Or.inl q)))
    · rcases (h s h1).mp h2 with h4 | h4
      · exact Or.inl (Or.inr (Or.inr (Or.inr (Or.inl ⟨s, h1, h4, h3⟩))))
      · subst h4
        exact Or.inr (Or.inl h3)
    · rcases (h s h1).mp h2 with h4 | h4
      · exact Or.inl (Or.inr (Or.inr (Or.inr (Or.inr ⟨s, h1, h4, h3⟩))))
      · subst h4
        exact Or.inr (Or.inr h3)
/-- how each sight is, as the document has it -/
def SpS (r : Int) (n : Nat) (a b : Nat → Nat) (lo hi : Nat → Int) (st : Nat → Int32) (s : Nat) : Prop := (st s = 0 ∧ canBe (Ed r n (fun q => s < q ∧ st q = 0) a b lo hi) (a s) (b s) (lo s) (hi s)) ∨ (st s = 1 ∧ ¬ canBe (Ed r n (fun q => s < q ∧ st q = 0) a b lo hi) (a s) (b s) (lo s) (hi s))
def Spec (r : Int) (n : Nat) (a b : Nat → Nat) (lo hi : Nat → Int) (ol : Nat) (st : Nat → Int32) : Prop := ∀ s, s < n → (s < ol → st s = 2) ∧ (ol ≤ s → SpS r n a b lo hi st s)
theorem canBe.congr {E E' : Nat → Nat → Int → Prop} (h : ∀ u v w, E u v w ↔ E' u v w) {a b : Nat} {lo hi : Int} : canBe E a b lo hi ↔ canBe E' a b lo hi := ⟨fun ⟨x, hx, q⟩ => ⟨x, hx.congr h, q⟩, fun ⟨x, hx, q⟩ => ⟨x, hx.congr (fun u v w => (h u v w).symm), q⟩⟩
theorem Spec.uniq {r : Int} {n : Nat} {a b : Nat → Nat} {lo hi : Nat → Int} {ol : Nat} {st st' : Nat → Int32} (h : Spec r n a b lo hi ol st) (h' : Spec r n a b lo hi ol st') : ∀ (k s : Nat), s + k = n → ∀ q, s ≤ q → q < n → st q = st' q
  | 0, s, hk, q, h1, h2 => by omega
  | k + 1, s, hk, q, h1, h2 => by
    have ih := Spec.uniq h h' k (s + 1) (by omega)
    by_cases hq : q = s
    · subst hq
      obtain ⟨a1, a2⟩ := h q h2
      obtain ⟨b1, b2⟩ := h' q h2
      rcases Nat.lt_or_ge q ol with hol | hol
      · rw [a1 hol, b1 hol]
      · have e : canBe (Ed r n (fun z => q < z ∧ st z = 0) a b lo hi) (a q) (b q) (lo q) (hi q) ↔ canBe (Ed r n (fun z => q < z ∧ st' z = 0) a b lo hi) (a q) (b q) (lo q) (hi q) := canBe.congr (Ed_congr (fun z hz => by
          constructor
          · rintro ⟨z1, z2⟩; exact ⟨z1, by rw [← ih z (by omega) hz]; exact z2⟩
          · rintro ⟨z1, z2⟩; exact ⟨z1, by rw [ih z (by omega) hz]; exact z2⟩))
        rcases a2 hol with ⟨c1, c2⟩ | ⟨c1, c2⟩ <;> rcases b2 hol with ⟨d1, d2⟩ | ⟨d1, d2⟩
        · rw [c1, d1]
        · exact absurd (e.mp c2) d2
        · exact absurd (e.mpr d2) c2
        · rw [c1, d1]
    · exact ih q (by omega) h2
theorem sameA_a {tt t : TS} (h : sameA tt t) : aT tt = aT t := funext (fun s => by unfold aT; rw [h.2 3 (by decide) (by decide) (by decide)])
theorem sameA_b {tt t : TS} (h : sameA tt t) : bT tt = bT t := funext (fun s => by unfold bT; rw [h.2 4 (by decide) (by decide) (by decide)])
theorem sameA_lo {tt t : TS} (h : sameA tt t) : loT tt = loT t := funext (fun s => by unfold loT; rw [h.2 5 (by decide) (by decide) (by decide)])
theorem sameA_hi {tt t : TS} (h : sameA tt t) : hiT tt = hiT t := funext (fun s => by unfold hiT; rw [h.2 6 (by decide) (by decide) (by decide)])
theorem sameA_n {tt t : TS} (h : sameA tt t) : nT tt = nT t := by unfold nT; rw [h.1]
theorem sameA_E {tt t : TS} (h : sameA tt t) (kp : Nat → Prop) : EdT tt kp = EdT t kp := by
  unfold EdT
  rw [sameA_n h, h.1, sameA_a h, sameA_b h, sameA_lo h, sameA_hi h]
theorem sameA_g {tt t : TS} (h : sameA tt t) (hg : gT t) : gT tt := by
  refine ⟨h.ok hg.1, ?_, ?_⟩
  · rw [h.1]; exact hg.2.1
  · rw [sameA_n h, sameA_lo h, sameA_hi h]; exact hg.2.2
/-- settled so far, down to c -/
def SI (t tt : TS) (c : Nat) : Prop := sameA tt t ∧ (∀ s, s < c → tt.2 7 s = 2) ∧ (∀ s, c ≤ s → s < nT t → SpS (t.1 0).toInt (nT t) (aT t) (bT t) (loT t) (hiT t) (tt.2 7) s) ∧ ∃ d, Cl (EdT t (kpT tt)) d ∧ ∀ j, j ≤ 64 → ii (tt.2 10) j = - d j 0
theorem SpS.congr {r : Int} {n : Nat} {a b : Nat → Nat} {lo hi : Nat → Int} {st st' : Nat → Int32} {s : Nat} (h : ∀ q, s ≤ q → st' q = st q) (hs : SpS r n a b lo hi st s) : SpS r n a b lo hi st' s := by
  have e : canBe (Ed r n (fun z => s < z ∧ st z = 0) a b lo hi) (a s) (b s) (lo s) (hi s) ↔ canBe (Ed r n (fun z => s < z ∧ st' z = 0) a b lo hi) (a s) (b s) (lo s) (hi s) := canBe.congr (Ed_congr (fun z hz => by
    constructor
    · rintro ⟨z1, z2⟩; exact ⟨z1, by rw [h z (by omega)]; exact z2⟩
    · rintro ⟨z1, z2⟩; exact ⟨z1, by rw [← h z (by omega)]; exact z2⟩))
  unfold SpS at hs ⊢
  rw [h s (Nat.le_refl _), ← e]
  exact hs
theorem SI_step {t tt : TS} (hg : gT t) {i : Nat} (hi : i < nT t) (h : SI t tt (i + 1)) : SI t (setS tt i) i := by
  obtain ⟨hsame, h2, hsp, d, hC, hl⟩ := h
  have hgt := sameA_g hsame hg
  have hC' : Cl (EdT tt (kpT tt)) d := by rw [sameA_E hsame]; exact hC
  have hin : i < nT tt := by rw [sameA_n hsame]; exact hi
  obtain ⟨f1, f0⟩ := fitsF_spec hgt hC' hl hin
  rw [sameA_a hsame, sameA_b hsame, sameA_lo hsame, sameA_hi hsame, sameA_E hsame] at f1
  rw [sameA_a hsame, sameA_b hsame, sameA_lo hsame, sameA_hi hsame] at f0
  have hcan := can_iff hC (hg.a hi) (hg.b hi) (hg.2.2 i hi).2.1
  have h7 : (setS tt i).2 7 = upd (tt.2 7) i (if (fitsF tt i).1 = 0 then 1 else 0) := by
    rw [show (setS tt i).2 7 = upd ((fitsF tt i).2.2 7) i (if (fitsF tt i).1 = 0 then 1 else 0) from rfl, fitsF_k tt i (k := 7) (by decide) (by decide)]
  have h10 : (setS tt i).2 10 = (fitsF tt i).2.2 10 := rfl
  have hkE : ∀ u v w, EdT t (kpT tt) u v w ↔ EdT t (fun q => i < q ∧ (setS tt i).2 7 q = 0) u v w := Ed_congr (fun q hq => by
    show tt.2 7 q = 0 ↔ _
    rw [h7]
    rcases Nat.lt_or_ge i q with z | z
    · rw [pk_un (by omega)]
      exact ⟨fun e => ⟨z, e⟩, fun e => e.2⟩
    · constructor
      · intro e
        rw [h2 q (by omega)] at e
        exact absurd e (by decide)
      · intro e; omega)
  have hcan2 : canBe (EdT t (fun q => i < q ∧ (setS tt i).2 7 q = 0)) (aT t i) (bT t i) (loT t i) (hiT t i) ↔ (loT t i ≤ d (aT t i) (bT t i) ∧ - hiT t i ≤ d (bT t i) (aT t i)) := (canBe.congr hkE).symm.trans hcan
  have hold : ∀ s, i + 1 ≤ s → s < nT t → SpS (t.1 0).toInt (nT t) (aT t) (bT t) (loT t) (hiT t) ((setS tt i).2 7) s := fun s h3 h4 => SpS.congr (fun q hq => by rw [h7, pk_un (by omega)]) (hsp s h3 h4)
  have hlow2 : ∀ s, s < i → (setS tt i).2 7 s = 2 := fun s hs => by rw [h7, pk_un (by omega)]; exact h2 s (by omega)
  by_cases hq : loT t i ≤ d (aT t i) (bT t i) ∧ - hiT t i ≤ d (bT t i) (aT t i)
  · obtain ⟨e1, e2⟩ := f1 hq
    have hi0 : (setS tt i).2 7 i = 0 := by rw [h7, pk_us, e1]; rfl
    refine ⟨setS_same i hsame, hlow2, fun s h3 h4 => ?_, bd (bd d (aT t i) (bT t i) (hiT t i)) (bT t i) (aT t i) (-loT t i), ?_, ?_⟩
    · by_cases hs : s = i
      · subst hs
        exact Or.inl ⟨hi0, hcan2.mpr hq⟩
      · exact hold s (by omega) h4
    · refine (hC.add (hg.a hi) (hg.b hi) (hg.2.2 i hi).2.1 hq.1 hq.2).congr (Ed_add hi (fun q _ => ?_))
      show (setS tt i).2 7 q = 0 ↔ (tt.2 7 q = 0 ∨ q = i)
      by_cases hqi : q = i
      · subst hqi
        exact ⟨fun _ => Or.inr rfl, fun _ => hi0⟩
      · rw [h7, pk_un hqi]
        exact ⟨Or.inl, fun z => z.elim id (fun z => absurd z hqi)⟩
    · intro j hj
      rw [h10]
      exact Low.cl (hC.add (hg.a hi) (hg.b hi) (hg.2.2 i hi).2.1 hq.1 hq.2) e2 hj
  · obtain ⟨e1, e2⟩ := f0 hq
    have hi1 : (setS tt i).2 7 i = 1 := by rw [h7, pk_us, e1]; rfl
    refine ⟨setS_same i hsame, hlow2, fun s h3 h4 => ?_, d, ?_, ?_⟩
    · by_cases hs : s = i
      · subst hs
        exact Or.inr ⟨hi1, fun z => hq (hcan2.mp z)⟩
      · exact hold s (by omega) h4
    · refine hC.congr (Ed_congr (fun q _ => ?_))
      show tt.2 7 q = 0 ↔ (setS tt i).2 7 q = 0
      by_cases hqi : q = i
      · subst hqi
        rw [hi1, h2 q (by omega)]
        decide
      · rw [h7, pk_un hqi]
    · intro j hj
      rw [h10, e2]
      exact hl j hj
theorem SI_0 {t : TS} (hg : gT t) : SI t (set0 t) (nT t) := by
  obtain ⟨r0, r1⟩ := hg.2.1
  have hn := (vp_in_c hg.1.1 (by decide)).2
  have h7 : (set0 t).2 7 = fillF 2 40 (t.2 7) := rfl
  have h10 : (set0 t).2 10 = upd (fillF 0 65 (t.2 10)) 64 (t.1 0) := rfl
  have h72 : ∀ s, s < nT t → (set0 t).2 7 s = 2 := fun s hs => by
    rw [h7]
    unfold fillF
    unfold nT at hs
    rw [if_pos (by omega)]
  refine ⟨set0_same t, h72, fun s h1 h2 => by omega, dZ (t.1 0).toInt, dZ_cl r0 (EdT_base t _) (fun u v w q => ?_), fun j hj => ?_⟩
  · rcases q with q | q | q | ⟨s, a1, a2, a3⟩ | ⟨s, a1, a2, a3⟩
    · exact Or.inl q
    · exact Or.inr (Or.inl q)
    · exact Or.inr (Or.inr q)
    · exact absurd ((h72 s a1).symm.trans a2) (by decide)
    · exact absurd ((h72 s a1).symm.trans a2) (by decide)
  · show ((set0 t).2 10 j).toInt = _
    rw [h10]
    unfold dZ
    rw [if_neg (by omega)]
    by_cases hq : j = 64
    · subst hq
      rw [pk_us, if_pos ⟨rfl, rfl⟩]
      omega
    · rw [pk_un hq, if_neg (by omega)]
      unfold fillF
      rw [if_pos (by omega)]
      rfl
theorem SI_loop {t : TS} (hg : gT t) (ol : Int32) (oN : Nat) (hol : ol = nI oN) (hoN : oN ≤ 40) : ∀ (c : Nat) (tt : TS), c ≤ nT t → oN ≤ c → SI t tt c → SI t (setL ol c tt) oN
  | 0, tt, hc, ho, h => by
    have : oN = 0 := by omega
    subst this
    exact h
  | c + 1, tt, hc, ho, h => by
    have hn := (vp_in_c hg.1.1 (by decide)).2
    unfold nT at hc
    unfold setL
    subst hol
    by_cases hlt : nI c < nI oN
    · rw [if_pos hlt]
      have : oN = c + 1 := by
        rw [nI_ltI (by omega) (by omega)] at hlt
        omega
      subst this
      exact h
    · rw [if_neg hlt]
      rw [nI_ltI (by omega) (by omega)] at hlt
      exact SI_loop hg (nI oN) oN rfl hoN c _ (by unfold nT; omega) (by omega) (SI_step hg (by unfold nT; omega) h)
/-- a settled Table -/
def Settled (t : TS) (ol : Nat) : Prop := Spec (t.1 0).toInt (nT t) (aT t) (bT t) (loT t) (hiT t) ol (t.2 7) ∧ ∃ d, Cl (EdT t (kpT t)) d ∧ ∀ j, j ≤ 64 → ii (t.2 10) j = - d j 0
