/-! the Model: closes and what asks it -/
def farJ (r : Int32) (i : Nat) : Nat → Nat → (Nat → Int32) → (Nat → Int32)
  | 0, _, f => f
  | k + 1, j, f => farJ r i k (j + 1) (upd f (65 * i + j) (if i < j then r else 0))
def farI (r : Int32) : Nat → Nat → (Nat → Int32) → (Nat → Int32)
  | 0, _, f => f
  | k + 1, i, f => farI r k (i + 1) (farJ r i 65 0 f)
def far0 (r : Int32) (f : Nat → Int32) : Nat → Int32 := upd (farI r 65 0 f) 4160 (-r)
def lowF (t : TS) (K : Nat) : Int32 := if t.2 5 K < - t.2 9 (65 * (t.2 4 K).toNatClampNeg + (t.2 3 K).toNatClampNeg) then - t.2 9 (65 * (t.2 4 K).toNatClampNeg + (t.2 3 K).toNatClampNeg) else t.2 5 K
def highF (t : TS) (K : Nat) : Int32 := if t.2 9 (65 * (t.2 3 K).toNatClampNeg + (t.2 4 K).toNatClampNeg) < t.2 6 K then t.2 9 (65 * (t.2 3 K).toNatClampNeg + (t.2 4 K).toNatClampNeg) else t.2 6 K
def closS (i : Nat) (t : TS) (c : Nat) : TS :=
  if t.2 1 i - nI c ≤ t.2 2 i then
    (if lowF t (40 * i + c) ≤ highF t (40 * i + c) then
      (t.1, ua (ua t.2 7 (upd (t.2 7) (40 * i + c) 0)) 9 (bindsF (bindsF (t.2 9) (t.2 3 (40 * i + c)).toNatClampNeg (t.2 4 (40 * i + c)).toNatClampNeg (highF t (40 * i + c))) (t.2 4 (40 * i + c)).toNatClampNeg (t.2 3 (40 * i + c)).toNatClampNeg (- lowF t (40 * i + c))))
    else (t.1, ua t.2 7 (upd (t.2 7) (40 * i + c) 1)))
  else (t.1, ua t.2 7 (upd (t.2 7) (40 * i + c) 2))
def closL (i : Nat) : Nat → TS → TS
  | 0, t => t
  | c + 1, t => closL i c (closS i t c)
def clos0 (t : TS) (i : Nat) : TS := (upd t.1 10 (nI i), ua t.2 9 (far0 (t.2 0 i) (t.2 9)))
def closF (t : TS) (i : Nat) : TS := if t.1 10 = nI i then t else closL i (t.2 1 i).toNatClampNeg (clos0 t i)
def sameM (tt t : TS) : Prop := ∀ k, k ≠ 7 → k ≠ 9 → tt.2 k = t.2 k
theorem sameM.rf (t : TS) : sameM t t := fun _ _ _ => rfl
theorem sameM_7 {tt t : TS} (h : sameM tt t) (g : Nat → Int32) : sameM (tt.1, ua tt.2 7 g) t := fun k h1 h2 => by
  show ua tt.2 7 g k = _
  rw [ua_n _ _ h1]; exact h k h1 h2
theorem sameM_9 {tt t : TS} (h : sameM tt t) (a : Nat → Int32) (g : Nat → Int32) : sameM (a, ua tt.2 9 g) t := fun k h1 h2 => by
  show ua tt.2 9 g k = _
  rw [ua_n _ _ h2]; exact h k h1 h2
theorem closS_same {tt t : TS} (i c : Nat) (h : sameM tt t) : sameM (closS i tt c) t := by
  unfold closS
  split
  · split
    · exact fun k h1 h2 => by
        show ua (ua tt.2 7 _) 9 _ k = _
        rw [ua_n _ _ h2, ua_n _ _ h1]; exact h k h1 h2
    · exact sameM_7 h _
  · exact sameM_7 h _
theorem closL_same (i : Nat) : ∀ (c : Nat) (tt t : TS), sameM tt t → sameM (closL i c tt) t
  | 0, _, _, h => h
  | c + 1, tt, t, h => closL_same i c _ _ (closS_same i c h)
theorem closF_same (t : TS) (i : Nat) : sameM (closF t i) t := by
  unfold closF; split
  · exact sameM.rf t
  · exact closL_same i _ _ _ (sameM_9 (sameM.rf t) _ _)
theorem sameM.ok {tt t : TS} (h : sameM tt t) (ho : okM t) : okM tt := by
  unfold okM at ho ⊢
  rw [h 1 (by decide) (by decide), h 3 (by decide) (by decide), h 4 (by decide) (by decide)]
  exact ho
set_option maxRecDepth 100000 in
set_option maxHeartbeats 4000000 in
theorem c_closes (l : Launch) (D : va_G) (cI cO : ClassId) (B : Nat → Nat) (t : TS) (hok : okM t) (tb : Int32) (i : Nat) (et : tb = nI i) (hi : i < 3) : Kt l yX2_closes wsX2_closes 2 (wM cI B) D cI cO (fun _ => True) [.ref (B 10), .int tb] t (fun r u => r = none ∧ u = closF t i) := by
  refine Kt_of (cc := cX2_closes) (n := 6) (ret := none) rfl (by decide +kernel) (Nat.le_of_ble_eq_true rfl) rfl [some (.ref (B 10)), some (.int tb), none, none, none, none] rfl ?_
  intro p e s m args below meth c0 A C _ _
  have hinM : ∀ w ∈ wsX20, w ∈ wsX2_closes := by decide +kernel
  subst et
  obtain ⟨en, hn41⟩ := vp_in_c (hok i hi).1 (by decide)
  obtain ⟨N, hN⟩ : ∃ N, N = (t.2 1 i).toNatClampNeg := ⟨_, rfl⟩
  rw [← hN] at en hn41
  have hft := (hok i hi).2
  rw [← hN] at hft
  have loopS : ¬ t.1 10 = nI i → ∀ (c : Nat) (tt : TS) (x3 x4 x5 : Option Value), c ≤ N → sameM tt t → closL i c tt = closL i N (clos0 t i) → J p l e (rmH 2) s m args below meth c0 0 0 (RQ below args s D (wM cI B) (fun r u => r = none ∧ u = closF t i) A) 6 D A 92 [some (.ref (B 10)), some (.int (nI i)), some (.int (nI c + (-1))), x3, x4, x5] [] (wM cI B tt) := by
    intro hne c
    have hC : closF t i = closL i N (clos0 t i) := by rw [closF, if_neg hne, hN]
    induction c with
    | zero =>
      intro tt x3 x4 x5 hc hs hr
      refine j_iload_n (pc' := 93) C dX2_closes_92 rfl rfl ?_
      refine j_if_lt (tgt := 256) (pc' := 96) C dX2_closes_93 (by decide) rfl (fun h93 => ?_) (fun h93 => ?_)
      · skip
        refine j_return _ C dX2_closes_256 ?_
        exact ⟨rfl, by rw [hC, ← hr]; rfl⟩
      · skip
        exact absurd (by decide) h93 -- done
    | succ c ih =>
      intro tt x3 x4 x5 hc hs hr
      rw [pk_m1]
      have ek := e40 i c
      have hfa : vp_in (tt.2 3 (40 * i + c)) 65 := by rw [hs 3 (by decide) (by decide)]; exact (hft c (by omega)).1
      have hfb : vp_in (tt.2 4 (40 * i + c)) 65 := by rw [hs 4 (by decide) (by decide)]; exact (hft c (by omega)).2
      obtain ⟨ea, hal⟩ := vp_in_c hfa (by decide)
      obtain ⟨eb, hbl⟩ := vp_in_c hfb (by decide)
      have h250 : ∀ (t2 : TS) (x3 x4 x5 : Option Value), t2 = closS i tt c → J p l e (rmH 2) s m args below meth c0 0 0 (RQ below args s D (wM cI B) (fun r u => r = none ∧ u = closF t i) A) 6 D A 250 [some (.ref (B 10)), some (.int (nI i)), some (.int (nI c)), x3, x4, x5] [] (wM cI B t2) := by
        intro t2 x3 x4 x5 e2
        refine j_iinc (pc' := 253) C dX2_closes_250 rfl (-1) (by decide) rfl (by decide) rfl ?_
        refine j_goto (pc' := 92) C dX2_closes_253 (by decide) ?_
        exact ih t2 _ _ _ (by omega) (by rw [e2]; exact closS_same i c hs) (by rw [e2]; exact hr)
      refine j_iload_n (pc' := 93) C dX2_closes_92 rfl rfl ?_
      refine j_if_lt (tgt := 256) (pc' := 96) C dX2_closes_93 (by decide) rfl (fun h93 => ?_) (fun h93 => ?_)
      · skip
        exact absurd h93 (nI_pos (by omega)) -- done
      · skip
        refine j_bipush (pc' := 98) C dX2_closes_96 rfl 40 (by decide) ?_
        refine j_iload_n (pc' := 99) C dX2_closes_98 rfl rfl ?_
        refine j_imul (pc' := 100) C dX2_closes_99 rfl ?_
        refine j_iload_n (pc' := 101) C dX2_closes_100 rfl rfl ?_
        refine j_iadd (pc' := 102) C dX2_closes_101 rfl ?_
        refine j_istore_n (pc' := 103) C dX2_closes_102 rfl (by decide) rfl ?_
        refine j_aload_n (pc' := 104) C dX2_closes_103 rfl rfl ?_
        refine jMa (pc' := 107) C dX2_closes_104 rfl 1 (by decide) hinM (by decide +kernel) ?_
        refine j_iload_n (pc' := 108) C dX2_closes_107 rfl rfl ?_
        refine jMlN (pc' := 109) C dX2_closes_108 rfl 1 (by decide) i rfl (by unfold lenM; simp; omega) ?_
        refine j_iload_n (pc' := 110) C dX2_closes_109 rfl rfl ?_
        refine j_isub (pc' := 111) C dX2_closes_110 rfl ?_
        refine j_aload_n (pc' := 112) C dX2_closes_111 rfl rfl ?_
        refine jMa (pc' := 115) C dX2_closes_112 rfl 2 (by decide) hinM (by decide +kernel) ?_
        refine j_iload_n (pc' := 116) C dX2_closes_115 rfl rfl ?_
        refine jMlN (pc' := 117) C dX2_closes_116 rfl 2 (by decide) i rfl (by unfold lenM; simp; omega) ?_
        refine j_icmp_le (tgt := 130) (pc' := 120) C dX2_closes_117 (by decide) rfl (fun h117 => ?_) (fun h117 => ?_)
        · skip
          refine j_aload_n (pc' := 131) C dX2_closes_130 rfl rfl ?_
          refine jMa (pc' := 134) C dX2_closes_131 rfl 5 (by decide) hinM (by decide +kernel) ?_
          refine j_iload_n (pc' := 135) C dX2_closes_134 rfl rfl ?_
          refine jMlN (pc' := 136) C dX2_closes_135 rfl 5 (by decide) (40 * i + c) ek (by unfold lenM; simp; omega) ?_
          refine j_aload_n (pc' := 137) C dX2_closes_136 rfl rfl ?_
          refine j_aload_n (pc' := 138) C dX2_closes_137 rfl rfl ?_
          refine jMa (pc' := 141) C dX2_closes_138 rfl 4 (by decide) hinM (by decide +kernel) ?_
          refine j_iload_n (pc' := 142) C dX2_closes_141 rfl rfl ?_
          refine jMlN (pc' := 143) C dX2_closes_142 rfl 4 (by decide) (40 * i + c) ek (by unfold lenM; simp; omega) ?_
          refine j_aload_n (pc' := 144) C dX2_closes_143 rfl rfl ?_
          refine jMa (pc' := 147) C dX2_closes_144 rfl 3 (by decide) hinM (by decide +kernel) ?_
          refine j_iload_n (pc' := 148) C dX2_closes_147 rfl rfl ?_
          refine jMlN (pc' := 149) C dX2_closes_148 rfl 3 (by decide) (40 * i + c) ek (by unfold lenM; simp; omega) ?_
          refine jc_same (pc' := 152) C (c_most l D cI cO B (tt) (tt.2 4 (40 * i + c)) (tt.2 3 (40 * i + c)) ((tt.2 4 (40 * i + c)).toNatClampNeg) ((tt.2 3 (40 * i + c)).toNatClampNeg) eb ea (by omega) (by omega)) 2 gX2_closes_X2_most rfl (by decide +kernel) (by decide) rfl rfl (Nat.le_of_ble_eq_true rfl) 2 10 rfl rfl (wM_obj cI B _) (wM_addr cI B _) dX2_closes_149 rfl (fun v1 u1 hp1 => ?_)
          obtain ⟨rfl, hu1⟩ := hp1
          rw [hu1]
          clear hu1 u1
          show J p l e _ s m args below meth c0 0 0 _ _ D A _ _ [_, _] _
          refine j_ineg (pc' := 153) C dX2_closes_152 rfl ?_
          refine j_max (pc' := 156) C dX2_closes_153 rfl (by decide +kernel) (by decide +kernel) (by decide +kernel) (by decide +kernel) (by decide) (Nat.le_of_ble_eq_true rfl) ?_
          refine j_istore (pc' := 158) C dX2_closes_156 rfl (by decide) rfl ?_
          refine j_aload_n (pc' := 159) C dX2_closes_158 rfl rfl ?_
          refine jMa (pc' := 162) C dX2_closes_159 rfl 6 (by decide) hinM (by decide +kernel) ?_
          refine j_iload_n (pc' := 163) C dX2_closes_162 rfl rfl ?_
          refine jMlN (pc' := 164) C dX2_closes_163 rfl 6 (by decide) (40 * i + c) ek (by unfold lenM; simp; omega) ?_
          refine j_aload_n (pc' := 165) C dX2_closes_164 rfl rfl ?_
          refine j_aload_n (pc' := 166) C dX2_closes_165 rfl rfl ?_
          refine jMa (pc' := 169) C dX2_closes_166 rfl 3 (by decide) hinM (by decide +kernel) ?_
          refine j_iload_n (pc' := 170) C dX2_closes_169 rfl rfl ?_
          refine jMlN (pc' := 171) C dX2_closes_170 rfl 3 (by decide) (40 * i + c) ek (by unfold lenM; simp; omega) ?_
          refine j_aload_n (pc' := 172) C dX2_closes_171 rfl rfl ?_
          refine jMa (pc' := 175) C dX2_closes_172 rfl 4 (by decide) hinM (by decide +kernel) ?_
          refine j_iload_n (pc' := 176) C dX2_closes_175 rfl rfl ?_
          refine jMlN (pc' := 177) C dX2_closes_176 rfl 4 (by decide) (40 * i + c) ek (by unfold lenM; simp; omega) ?_
          refine jc_same (pc' := 180) C (c_most l D cI cO B (tt) (tt.2 3 (40 * i + c)) (tt.2 4 (40 * i + c)) ((tt.2 3 (40 * i + c)).toNatClampNeg) ((tt.2 4 (40 * i + c)).toNatClampNeg) ea eb (by omega) (by omega)) 2 gX2_closes_X2_most rfl (by decide +kernel) (by decide) rfl rfl (Nat.le_of_ble_eq_true rfl) 2 10 rfl rfl (wM_obj cI B _) (wM_addr cI B _) dX2_closes_177 rfl (fun v1 u1 hp1 => ?_)
          obtain ⟨rfl, hu1⟩ := hp1
          rw [hu1]
          clear hu1 u1
          show J p l e _ s m args below meth c0 0 0 _ _ D A _ _ [_, _] _
          refine j_min (pc' := 183) C dX2_closes_180 rfl (by decide +kernel) (by decide +kernel) (by decide +kernel) (by decide +kernel) (by decide) (Nat.le_of_ble_eq_true rfl) ?_
          refine j_istore (pc' := 185) C dX2_closes_183 rfl (by decide) rfl ?_
          have h203g : J p l e (rmH 2) s m args below meth c0 0 0 (RQ below args s D (wM cI B) (fun r u => r = none ∧ u = closF t i) A) 6 D A 203 [some (.ref (B 10)), some (.int (nI i)), some (.int (nI c)), some (.int (40 * nI i + nI c)), some (.int (lowF tt (40 * i + c))), some (.int (highF tt (40 * i + c)))] [] (wM cI B (tt.1, ua tt.2 7 (upd (tt.2 7) (40 * i + c) (if highF tt (40 * i + c) < lowF tt (40 * i + c) then 1 else 0)))) := by
            refine j_iload (pc' := 205) C dX2_closes_203 rfl rfl ?_
            refine j_iload (pc' := 207) C dX2_closes_205 rfl rfl ?_
            refine j_icmp_le (tgt := 213) (pc' := 210) C dX2_closes_207 (by decide) rfl (fun h207 => ?_) (fun h207 => ?_)
            · skip
              rw [if_neg (i32_le_nlt h207)]
              refine j_aload_n (pc' := 214) C dX2_closes_213 rfl rfl ?_
              refine j_aload_n (pc' := 215) C dX2_closes_214 rfl rfl ?_
              refine jMa (pc' := 218) C dX2_closes_215 rfl 3 (by decide) hinM (by decide +kernel) ?_
              refine j_iload_n (pc' := 219) C dX2_closes_218 rfl rfl ?_
              refine jMlN (pc' := 220) C dX2_closes_219 rfl 3 (by decide) (40 * i + c) ek (by unfold lenM; simp; omega) ?_
              refine j_aload_n (pc' := 221) C dX2_closes_220 rfl rfl ?_
              refine jMa (pc' := 224) C dX2_closes_221 rfl 4 (by decide) hinM (by decide +kernel) ?_
              refine j_iload_n (pc' := 225) C dX2_closes_224 rfl rfl ?_
              refine jMlN (pc' := 226) C dX2_closes_225 rfl 4 (by decide) (40 * i + c) ek (by unfold lenM; simp; omega) ?_
              refine j_iload (pc' := 228) C dX2_closes_226 rfl rfl ?_
              refine jc_same (pc' := 231) C (c_binds l D cI cO B ((tt.1, ua tt.2 7 (upd (tt.2 7) (40 * i + c) 0))) (tt.2 3 (40 * i + c)) (tt.2 4 (40 * i + c)) (highF tt (40 * i + c)) ((tt.2 3 (40 * i + c)).toNatClampNeg) ((tt.2 4 (40 * i + c)).toNatClampNeg) ea eb (by omega) (by omega)) 3 gX2_closes_X2_binds rfl (by decide +kernel) (by decide) rfl rfl (Nat.le_of_ble_eq_true rfl) 2 10 rfl rfl (wM_obj cI B _) (wM_addr cI B _) dX2_closes_228 rfl (fun v1 u1 hp1 => ?_)
              obtain ⟨rfl, rfl⟩ := hp1
              show J p l e _ s m args below meth c0 0 0 _ _ D A _ _ [] _
              refine j_ws (ws' := wM cI B (tt.1, ua (ua tt.2 7 (upd (tt.2 7) (40 * i + c) 0)) 9 (bindsF (tt.2 9) (tt.2 3 (40 * i + c)).toNatClampNeg (tt.2 4 (40 * i + c)).toNatClampNeg (highF tt (40 * i + c))))) rfl ?_
              refine j_aload_n (pc' := 232) C dX2_closes_231 rfl rfl ?_
              refine j_aload_n (pc' := 233) C dX2_closes_232 rfl rfl ?_
              refine jMa (pc' := 236) C dX2_closes_233 rfl 4 (by decide) hinM (by decide +kernel) ?_
              refine j_iload_n (pc' := 237) C dX2_closes_236 rfl rfl ?_
              refine jMlN (pc' := 238) C dX2_closes_237 rfl 4 (by decide) (40 * i + c) ek (by unfold lenM; simp; omega) ?_
              refine j_aload_n (pc' := 239) C dX2_closes_238 rfl rfl ?_
              refine jMa (pc' := 242) C dX2_closes_239 rfl 3 (by decide) hinM (by decide +kernel) ?_
              refine j_iload_n (pc' := 243) C dX2_closes_242 rfl rfl ?_
              refine jMlN (pc' := 244) C dX2_closes_243 rfl 3 (by decide) (40 * i + c) ek (by unfold lenM; simp; omega) ?_
              refine j_iload (pc' := 246) C dX2_closes_244 rfl rfl ?_
              refine j_ineg (pc' := 247) C dX2_closes_246 rfl ?_
              refine jc_same (pc' := 250) C (c_binds l D cI cO B ((tt.1, ua (ua tt.2 7 (upd (tt.2 7) (40 * i + c) 0)) 9 (bindsF (tt.2 9) (tt.2 3 (40 * i + c)).toNatClampNeg (tt.2 4 (40 * i + c)).toNatClampNeg (highF tt (40 * i + c))))) (tt.2 4 (40 * i + c)) (tt.2 3 (40 * i + c)) (- lowF tt (40 * i + c)) ((tt.2 4 (40 * i + c)).toNatClampNeg) ((tt.2 3 (40 * i + c)).toNatClampNeg) eb ea (by omega) (by omega)) 3 gX2_closes_X2_binds rfl (by decide +kernel) (by decide) rfl rfl (Nat.le_of_ble_eq_true rfl) 2 10 rfl rfl (wM_obj cI B _) (wM_addr cI B _) dX2_closes_247 rfl (fun v1 u1 hp1 => ?_)
              obtain ⟨rfl, rfl⟩ := hp1
              show J p l e _ s m args below meth c0 0 0 _ _ D A _ _ [] _
              refine j_ws (ws' := wM cI B (closS i tt c)) (by rw [closS, if_pos h117, if_pos h207]; show wM cI B (tt.1, ua (ua (ua tt.2 7 _) 9 _) 9 _) = _; rw [ua_ua]; rfl) ?_
              exact h250 _ _ _ _ rfl
              
            · skip
              rw [if_pos (i32_nle h207)]
              refine j_goto (pc' := 250) C dX2_closes_210 (by decide) ?_
              exact h250 _ _ _ _ (by rw [closS, if_pos h117, if_neg h207])
          have h202 : ∀ x : Int32, x = (if highF tt (40 * i + c) < lowF tt (40 * i + c) then 1 else 0) → J p l e (rmH 2) s m args below meth c0 0 0 (RQ below args s D (wM cI B) (fun r u => r = none ∧ u = closF t i) A) 6 D A 202 [some (.ref (B 10)), some (.int (nI i)), some (.int (nI c)), some (.int (40 * nI i + nI c)), some (.int (lowF tt (40 * i + c))), some (.int (highF tt (40 * i + c)))] [.int x, .int (40 * nI i + nI c), .ref (B 7)] (wM cI B tt) := by
            intro x ex
            refine jMsN (pc' := 203) C dX2_closes_202 rfl 7 (by decide) (40 * i + c) ek (by unfold lenM; simp; omega) ?_
            rw [ex]
            exact h203g
          refine j_aload_n (pc' := 186) C dX2_closes_185 rfl rfl ?_
          refine jMa (pc' := 189) C dX2_closes_186 rfl 7 (by decide) hinM (by decide +kernel) ?_
          refine j_iload_n (pc' := 190) C dX2_closes_189 rfl rfl ?_
          refine j_iload (pc' := 192) C dX2_closes_190 rfl rfl ?_
          refine j_iload (pc' := 194) C dX2_closes_192 rfl rfl ?_
          refine j_icmp_gt (tgt := 201) (pc' := 197) C dX2_closes_194 (by decide) rfl (fun h194 => ?_) (fun h194 => ?_)
          · skip
            refine j_iconst (pc' := 202) C dX2_closes_201 rfl 1 (by decide) ?_
            first | exact h202 _ (if_pos h194).symm | exact h202 _ (if_neg h194).symm
          · skip
            refine j_iconst (pc' := 198) C dX2_closes_197 rfl 0 (by decide) ?_
            refine j_goto (pc' := 202) C dX2_closes_198 (by decide) ?_
            first | exact h202 _ (if_pos h194).symm | exact h202 _ (if_neg h194).symm
          
          
          
        · skip
          refine j_aload_n (pc' := 121) C dX2_closes_120 rfl rfl ?_
          refine jMa (pc' := 124) C dX2_closes_121 rfl 7 (by decide) hinM (by decide +kernel) ?_
          refine j_iload_n (pc' := 125) C dX2_closes_124 rfl rfl ?_
          refine j_iconst (pc' := 126) C dX2_closes_125 rfl 2 (by decide) ?_
          refine jMsN (pc' := 127) C dX2_closes_126 rfl 7 (by decide) (40 * i + c) ek (by unfold lenM; simp; omega) ?_
          refine j_goto (pc' := 250) C dX2_closes_127 (by decide) ?_
          exact h250 _ _ _ _ (by rw [closS, if_neg h117])
  have outer : ¬ t.1 10 = nI i → ∀ (k a : Nat) (g : Nat → Int32) (x3 x4 x5 : Option Value), a + k = 65 → farI (t.2 0 i) k a g = farI (t.2 0 i) 65 0 (t.2 9) → J p l e (rmH 2) s m args below meth c0 0 0 (RQ below args s D (wM cI B) (fun r u => r = none ∧ u = closF t i) A) 6 D A 16 [some (.ref (B 10)), some (.int (nI i)), some (.int (nI a)), x3, x4, x5] [] (wM cI B (upd t.1 10 (nI i), ua t.2 9 (g))) := by
    intro hne k
    induction k with
    | zero =>
      intro a g x3 x4 x5 ha hr
      have ha2 : a = 65 := by omega
      subst ha2
      refine j_iload_n (pc' := 17) C dX2_closes_16 rfl rfl ?_
      refine j_bipush (pc' := 19) C dX2_closes_17 rfl 65 (by decide) ?_
      refine j_icmp_ge (tgt := 68) (pc' := 22) C dX2_closes_19 (by decide) rfl (fun h19 => ?_) (fun h19 => ?_)
      · skip
        refine j_aload_n (pc' := 69) C dX2_closes_68 rfl rfl ?_
        refine jMa (pc' := 72) C dX2_closes_69 rfl 9 (by decide) hinM (by decide +kernel) ?_
        refine j_sipush (pc' := 75) C dX2_closes_72 rfl 4160 (by decide) ?_
        refine j_aload_n (pc' := 76) C dX2_closes_75 rfl rfl ?_
        refine jMa (pc' := 79) C dX2_closes_76 rfl 0 (by decide) hinM (by decide +kernel) ?_
        refine j_iload_n (pc' := 80) C dX2_closes_79 rfl rfl ?_
        refine jMlN (pc' := 81) C dX2_closes_80 rfl 0 (by decide) i rfl (by unfold lenM; simp; omega) ?_
        refine j_ineg (pc' := 82) C dX2_closes_81 rfl ?_
        refine jMsN (pc' := 83) C dX2_closes_82 rfl 9 (by decide) 4160 rfl (by decide) ?_
        refine j_aload_n (pc' := 84) C dX2_closes_83 rfl rfl ?_
        refine jMa (pc' := 87) C dX2_closes_84 rfl 1 (by decide) hinM (by decide +kernel) ?_
        refine j_iload_n (pc' := 88) C dX2_closes_87 rfl rfl ?_
        refine jMlN (pc' := 89) C dX2_closes_88 rfl 1 (by decide) i rfl (by unfold lenM; simp; omega) ?_
        refine j_iconst (pc' := 90) C dX2_closes_89 rfl 1 (by decide) ?_
        refine j_isub (pc' := 91) C dX2_closes_90 rfl ?_
        refine j_istore_n (pc' := 92) C dX2_closes_91 rfl (by decide) rfl ?_
        refine j_ws (ws' := wM cI B (clos0 t i)) (by show wM cI B (upd t.1 10 (nI i), ua (ua t.2 9 g) 9 _) = _; rw [ua_ua, show g = farI (t.2 0 i) 65 0 (t.2 9) from hr]; rfl) ?_
        have hb0 := loopS hne N (clos0 t i) x3 x4 x5 (Nat.le_refl _) (sameM_9 (sameM.rf t) _ _) rfl
        rw [← en, show (t.2 1 i) + (-1) = t.2 1 i - 1 from (Int32.sub_eq_add_neg _ _).symm] at hb0
        exact hb0
      · skip
        exact absurd (by decide) h19 -- done
    | succ k ih =>
      intro a g x3 x4 x5 ha hr
      have inner : ∀ (q j : Nat) (g1 : Nat → Int32) (x4 x5 : Option Value), j + q = 65 → farJ (t.2 0 i) a q j g1 = farJ (t.2 0 i) a 65 0 g → J p l e (rmH 2) s m args below meth c0 0 0 (RQ below args s D (wM cI B) (fun r u => r = none ∧ u = closF t i) A) 6 D A 24 [some (.ref (B 10)), some (.int (nI i)), some (.int (nI a)), some (.int (nI j)), x4, x5] [] (wM cI B (upd t.1 10 (nI i), ua t.2 9 (g1))) := by
        intro q
        induction q with
        | zero =>
          intro j g1 x4 x5 hj hq
          have hj2 : j = 65 := by omega
          subst hj2
          refine j_iload_n (pc' := 25) C dX2_closes_24 rfl rfl ?_
          refine j_bipush (pc' := 27) C dX2_closes_25 rfl 65 (by decide) ?_
          refine j_icmp_ge (tgt := 62) (pc' := 30) C dX2_closes_27 (by decide) rfl (fun h27 => ?_) (fun h27 => ?_)
          · skip
            refine j_iinc (pc' := 65) C dX2_closes_62 rfl 1 (by decide) rfl (by decide) rfl ?_
            refine j_goto (pc' := 16) C dX2_closes_65 (by decide) ?_
            rw [nI_1]
            exact ih (a + 1) g1 _ _ _ (by omega) (by rw [show g1 = farJ (t.2 0 i) a 65 0 g from hq]; exact hr)
          · skip
            exact absurd (by decide) h27 -- done
        | succ q jh =>
          intro j g1 x4 x5 hj hq
          have h55 : ∀ x : Int32, x = (if a < j then t.2 0 i else 0) → J p l e (rmH 2) s m args below meth c0 0 0 (RQ below args s D (wM cI B) (fun r u => r = none ∧ u = closF t i) A) 6 D A 55 [some (.ref (B 10)), some (.int (nI i)), some (.int (nI a)), some (.int (nI j)), x4, x5] [.int x, .int (65 * nI a + nI j), .ref (B 9)] (wM cI B (upd t.1 10 (nI i), ua t.2 9 (g1))) := by
            intro x ex
            refine jMsN (pc' := 56) C dX2_closes_55 rfl 9 (by decide) (65 * a + j) (e65 a j) (by unfold lenM; simp; omega) ?_
            refine j_iinc (pc' := 59) C dX2_closes_56 rfl 1 (by decide) rfl (by decide) rfl ?_
            refine j_goto (pc' := 24) C dX2_closes_59 (by decide) ?_
            rw [nI_1]
            refine j_ws (ws' := wM cI B (upd t.1 10 (nI i), ua t.2 9 (upd g1 (65 * a + j) (if a < j then t.2 0 i else 0)))) (by show wM cI B (upd t.1 10 (nI i), ua (ua t.2 9 g1) 9 _) = _; rw [ua_ua, ex]; rfl) ?_
            exact jh (j + 1) _ _ _ (by omega) (by rw [← hq]; rfl)
          refine j_iload_n (pc' := 25) C dX2_closes_24 rfl rfl ?_
          refine j_bipush (pc' := 27) C dX2_closes_25 rfl 65 (by decide) ?_
          refine j_icmp_ge (tgt := 62) (pc' := 30) C dX2_closes_27 (by decide) rfl (fun h27 => ?_) (fun h27 => ?_)
          · skip
            exact absurd h27 (nI_ge (b := 65) (by omega) (by decide)) -- done
          · skip
            refine j_aload_n (pc' := 31) C dX2_closes_30 rfl rfl ?_
            refine jMa (pc' := 34) C dX2_closes_31 rfl 9 (by decide) hinM (by decide +kernel) ?_
            refine j_bipush (pc' := 36) C dX2_closes_34 rfl 65 (by decide) ?_
            refine j_iload_n (pc' := 37) C dX2_closes_36 rfl rfl ?_
            refine j_imul (pc' := 38) C dX2_closes_37 rfl ?_
            refine j_iload_n (pc' := 39) C dX2_closes_38 rfl rfl ?_
            refine j_iadd (pc' := 40) C dX2_closes_39 rfl ?_
            refine j_iload_n (pc' := 41) C dX2_closes_40 rfl rfl ?_
            refine j_iload_n (pc' := 42) C dX2_closes_41 rfl rfl ?_
            refine j_icmp_ge (tgt := 54) (pc' := 45) C dX2_closes_42 (by decide) rfl (fun h42 => ?_) (fun h42 => ?_)
            · skip
              have hx0 : ¬ a < j := fun q => absurd h42 (nI_ge q (by omega))
              refine j_iconst (pc' := 55) C dX2_closes_54 rfl 0 (by decide) ?_
              first | exact h55 _ (if_pos hx1).symm | exact h55 _ (if_neg hx0).symm
            · skip
              have hx1 : a < j := by
                rcases Nat.lt_or_ge a j with q | q
                · exact q
                · exact absurd (nI_le q (by omega)) h42
              refine j_aload_n (pc' := 46) C dX2_closes_45 rfl rfl ?_
              refine jMa (pc' := 49) C dX2_closes_46 rfl 0 (by decide) hinM (by decide +kernel) ?_
              refine j_iload_n (pc' := 50) C dX2_closes_49 rfl rfl ?_
              refine jMlN (pc' := 51) C dX2_closes_50 rfl 0 (by decide) i rfl (by unfold lenM; simp; omega) ?_
              refine j_goto (pc' := 55) C dX2_closes_51 (by decide) ?_
              first | exact h55 _ (if_pos hx1).symm | exact h55 _ (if_neg hx0).symm
      refine j_iload_n (pc' := 17) C dX2_closes_16 rfl rfl ?_
      refine j_bipush (pc' := 19) C dX2_closes_17 rfl 65 (by decide) ?_
      refine j_icmp_ge (tgt := 68) (pc' := 22) C dX2_closes_19 (by decide) rfl (fun h19 => ?_) (fun h19 => ?_)
      · skip
        exact absurd h19 (nI_ge (b := 65) (by omega) (by decide)) -- done
      · skip
        refine j_iconst (pc' := 23) C dX2_closes_22 rfl 0 (by decide) ?_
        refine j_istore_n (pc' := 24) C dX2_closes_23 rfl (by decide) rfl ?_
        exact inner 65 0 g _ _ (by omega) rfl
  refine j_aload_n (pc' := 1) C dX2_closes_0 rfl rfl ?_
  refine jMi (pc' := 4) C dX2_closes_1 rfl hinM (by decide +kernel) ?_
  refine j_iload_n (pc' := 5) C dX2_closes_4 rfl rfl ?_
  refine j_icmp_ne (tgt := 9) (pc' := 8) C dX2_closes_5 (by decide) rfl (fun h5 => ?_) (fun h5 => ?_)
  · skip
    refine j_aload_n (pc' := 10) C dX2_closes_9 rfl rfl ?_
    refine j_iload_n (pc' := 11) C dX2_closes_10 rfl rfl ?_
    refine jMp (pc' := 14) C dX2_closes_11 rfl hinM (by decide +kernel) ?_
    refine j_iconst (pc' := 15) C dX2_closes_14 rfl 0 (by decide) ?_
    refine j_istore_n (pc' := 16) C dX2_closes_15 rfl (by decide) rfl ?_
    refine j_ws (ws' := wM cI B (upd t.1 10 (nI i), ua t.2 9 (t.2 9))) (by rw [ua_self]) ?_
    exact outer h5 65 0 _ _ _ _ (by omega) rfl
  · skip
    refine j_return _ C dX2_closes_8 ?_
    exact ⟨rfl, by rw [closF, if_pos h5]⟩
