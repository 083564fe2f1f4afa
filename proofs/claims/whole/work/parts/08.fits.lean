/-! fits -/
section ENW3
variable {p : Program} {l : Launch} {e : Env} {R : Room} {s : State} {m : MethodId} {args : Array Value} {below : List Frame} {meth : Method} {c : Code} {cells slots : Nat} {Q : State → Prop} {n : Nat} {D : va_G} {A : Nat → Prop} {cc : ByteArray} {own : String} {Ts : List Cond} {ret : Option FieldType} {cI cO : ClassId} {pc pc' : Nat} {L : List (Option Value)} {S : List Value} {ws : va_W} {B : Nat → Nat} {t : TS}
theorem jT_copy {ix : Nat} (C : Cx p R s m args meth c cells slots n D A cc own Ts ret cI cO) (hd : decode cc pc = .ok (.invokestatic ix, 3)) (hp : pc + 3 = pc') (k1 k2 : Nat) (hk1 : 9 ≤ k1 ∧ k1 ≤ 11) (hk2 : 9 ≤ k2 ∧ k2 ≤ 11) (h1 : Cond.methodLink own ix arraycopyName ∈ Ts) (h2 : Cond.native arraycopyName ∈ Ts) (h3 : Cond.static arraycopyName ∈ Ts) (h4 : Cond.initialized "java/lang/System" ∈ Ts) (h5 : 1 ≤ R.frames) (h6 : (S.map fun v => v.category).sum + (nativeFrameWords "java/lang/System" "arraycopy" 5 + 11) ≤ R.locals)
    (kk : J p l e R s m args below meth c cells slots Q n D A (pc') (L) (S) (wT cI B (t.1, ua t.2 k2 (va_cpy (t.2 k1) (t.2 k2) 0 0 65)))) : J p l e R s m args below meth c cells slots Q n D A (pc) (L) (.int 65 :: .int 0 :: .ref (B k2) :: .int 0 :: .ref (B k1) :: S) (wT cI B t) := by
  have e1 : lenT k1 = 65 := by unfold lenT; rw [if_neg (by omega), if_neg (by omega)]
  have e2 : lenT k2 = 65 := by unfold lenT; rw [if_neg (by omega), if_neg (by omega)]
  have a1 := wT_arr cI B t (k := k1) (by omega)
  have a2 := wT_arr cI B t (k := k2) (by omega)
  have a3 := wT_setA cI B t (k := k2) (by omega) (va_cpy (t.2 k1) (t.2 k2) 0 0 65)
  rw [e1] at a1
  rw [e2] at a2 a3
  exact j_copy C hd hp (k1 - 2) (k2 - 2) h1 h2 h3 h4 a1 a2 (by decide) (by decide) (by decide) a3 h5 h6 kk
end ENW3
def cpyF (f g : Nat → Int32) : Nat → Int32 := va_cpy f g 0 0 65
def fitsT (t : TS) (mv fx : Nat) (goal : Int32) : Int32 × TS :=
  if t.2 10 fx < climbF t fx (t.2 10 fx) 66 (raiseAt (cpyF (t.2 10) (t.2 11)) mv goal).1 1 fx
  then (0, (t.1, ua t.2 11 (climbF t fx (t.2 10 fx) 66 (raiseAt (cpyF (t.2 10) (t.2 11)) mv goal).1 1)))
  else (1, (t.1, ua (ua t.2 11 (climbF t fx (t.2 10 fx) 66 (raiseAt (cpyF (t.2 10) (t.2 11)) mv goal).1 1)) 10 (cpyF (climbF t fx (t.2 10 fx) 66 (raiseAt (cpyF (t.2 10) (t.2 11)) mv goal).1 1) (t.2 10))))
def fitsF (t : TS) (i : Nat) : Int32 × TS :=
  if t.2 10 (t.2 4 i).toNatClampNeg - t.2 10 (t.2 3 i).toNatClampNeg < t.2 5 i then fitsT t (t.2 4 i).toNatClampNeg (t.2 3 i).toNatClampNeg (t.2 10 (t.2 3 i).toNatClampNeg + t.2 5 i)
  else if t.2 6 i < t.2 10 (t.2 4 i).toNatClampNeg - t.2 10 (t.2 3 i).toNatClampNeg then fitsT t (t.2 3 i).toNatClampNeg (t.2 4 i).toNatClampNeg (t.2 10 (t.2 4 i).toNatClampNeg - t.2 6 i)
  else (1, t)
set_option maxRecDepth 100000 in
set_option maxHeartbeats 4000000 in
theorem c_fits (l : Launch) (D : va_G) (cI cO : ClassId) (B : Nat → Nat) (t : TS) (hok : okT t) (i : Nat) (hi : i < (t.1 1).toNatClampNeg) : Kt l yX0_fits wsX0_fits 2 (wT cI B) D cI cO (fun _ => True) [.ref (B 0), .int (nI i)] t (fun r u => r = some (.int (fitsF t i).1) ∧ u = (fitsF t i).2) := by
  refine Kt_of (cc := cX0_fits) (n := 9) (ret := some .boolean) rfl (by decide +kernel) (Nat.le_of_ble_eq_true rfl) rfl [some (.ref (B 0)), some (.int (nI i)), none, none, none, none, none, none, none] rfl ?_
  intro p e s m args below meth c A C _ _
  have hinT : ∀ w ∈ wsX00, w ∈ wsX0_fits := by decide +kernel
  have hn41 := (vp_in_c hok.1 (by decide)).2
  obtain ⟨ha, hb⟩ := hok.2 i hi
  have h131 : ∀ (mx fxx goal : Int32) (mv fx : Nat) (x4 x5 : Option Value), mx = nI mv → fxx = nI fx → mv ≤ 64 → fx ≤ 64 → fitsF t i = fitsT t mv fx goal → J p l e (rmH 2) s m args below meth c 0 0 (RQ below args s D (wT cI B) (fun r u => r = some (.int (fitsF t i).1) ∧ u = (fitsF t i).2) A) 9 D A 131 [some (.ref (B 0)), some (.int (nI i)), some (.int (t.2 3 i)), some (.int (t.2 4 i)), x4, x5, some (.int mx), some (.int fxx), some (.int goal)] [] (wT cI B t) := by
    intro mx fxx goal mv fx x4 x5 emx efx hmv hfx hF
    refine j_aload_n (pc' := 132) C dX0_fits_131 rfl rfl ?_
    refine jTa (pc' := 135) C dX0_fits_132 rfl 10 (by decide) hinT (by decide +kernel) ?_
    refine j_iconst (pc' := 136) C dX0_fits_135 rfl 0 (by decide) ?_
    refine j_aload_n (pc' := 137) C dX0_fits_136 rfl rfl ?_
    refine jTa (pc' := 140) C dX0_fits_137 rfl 11 (by decide) hinT (by decide +kernel) ?_
    refine j_iconst (pc' := 141) C dX0_fits_140 rfl 0 (by decide) ?_
    refine j_bipush (pc' := 143) C dX0_fits_141 rfl 65 (by decide) ?_
    refine jT_copy (pc' := 146) C dX0_fits_143 rfl 10 11 (by decide) (by decide) (by decide +kernel) (by decide +kernel) (by decide +kernel) (by decide +kernel) (by decide) (by decide +kernel) ?_
    refine j_aload_n (pc' := 147) C dX0_fits_146 rfl rfl ?_
    refine jTa (pc' := 150) C dX0_fits_147 rfl 11 (by decide) hinT (by decide +kernel) ?_
    refine j_iload (pc' := 152) C dX0_fits_150 rfl rfl ?_
    refine j_iload (pc' := 154) C dX0_fits_152 rfl rfl ?_
    refine jW_call (t := t) (w := 11) (g := cpyF (t.2 10) (t.2 11)) (pc' := 157) C (by decide) (c_raiseN l D cI cO (B 11) (lenT 11) rfl (cpyF (t.2 10) (t.2 11)) mx mv emx hmv goal) 3 gX0_fits_X0_raise rfl (by decide +kernel) (by decide) rfl rfl (by decide) dX0_fits_154 rfl (fun v1 g1 hp1 => ?_)
    obtain ⟨rfl, rfl, h01⟩ := hp1
    show J p l e _ s m args below meth c 0 0 _ _ D A _ _ [_] (wT cI B (t.1, ua t.2 11 (raiseAt (cpyF (t.2 10) (t.2 11)) mv goal).1))
    refine j_pop (pc' := 158) C dX0_fits_157 rfl rfl ?_
    refine j_aload_n (pc' := 159) C dX0_fits_158 rfl rfl ?_
    refine j_aload_n (pc' := 160) C dX0_fits_159 rfl rfl ?_
    refine jTa (pc' := 163) C dX0_fits_160 rfl 11 (by decide) hinT (by decide +kernel) ?_
    refine j_iload (pc' := 165) C dX0_fits_163 rfl rfl ?_
    refine j_aload_n (pc' := 166) C dX0_fits_165 rfl rfl ?_
    refine jTa (pc' := 169) C dX0_fits_166 rfl 10 (by decide) hinT (by decide +kernel) ?_
    refine j_iload (pc' := 171) C dX0_fits_169 rfl rfl ?_
    refine jTlN (pc' := 172) C dX0_fits_171 rfl 10 (by decide) fx efx (by unfold lenT; simp; omega) ?_
    refine jc_same (pc' := 175) C (c_climbG l D cI cO B (t.1, ua t.2 11 (raiseAt (cpyF (t.2 10) (t.2 11)) mv goal).1) t (sameK_ua (sameK.rf t) (by decide) _) hok 11 (by decide) fxx fx efx hfx (t.2 10 fx)) 3 gX0_fits_X0_climb rfl (by decide +kernel) (by decide) rfl rfl (by decide) 0 0 rfl rfl (wT_obj cI B _) (fun _ => rfl) dX0_fits_172 rfl (fun v1 u1 hp1 => ?_)
    obtain ⟨e1, e2⟩ := hp1
    have e1 : u1 = (t.1, ua t.2 11 (climbF t fx (t.2 10 fx) 66 (raiseAt (cpyF (t.2 10) (t.2 11)) mv goal).1 1)) := by rw [e1]; show (t.1, ua (ua t.2 11 _) 11 _) = _; rw [ua_ua]; rfl
    subst e1
    subst e2
    show J p l e _ s m args below meth c 0 0 _ _ D A _ _ [.int (if t.2 10 fx < (climbF t fx (t.2 10 fx) 66 (raiseAt (cpyF (t.2 10) (t.2 11)) mv goal).1 1) fx then 0 else 1)] _
    by_cases hlt : t.2 10 fx < (climbF t fx (t.2 10 fx) 66 (raiseAt (cpyF (t.2 10) (t.2 11)) mv goal).1 1) fx
    · rw [if_pos hlt]
      refine j_if_ne (tgt := 180) (pc' := 178) C dX0_fits_175 (by decide) rfl (fun h175 => ?_) (fun h175 => ?_)
      · skip
        exact absurd rfl h175 -- done
      · skip
        refine j_iconst (pc' := 179) C dX0_fits_178 rfl 0 (by decide) ?_
        refine j_zreturn _ C dX0_fits_179 ?_ ?_
        · exact Or.inl rfl
        · exact ⟨by rw [hF, fitsT, if_pos hlt], by rw [hF, fitsT, if_pos hlt]⟩
    · rw [if_neg hlt]
      refine j_if_ne (tgt := 180) (pc' := 178) C dX0_fits_175 (by decide) rfl (fun h175 => ?_) (fun h175 => ?_)
      · skip
        refine j_aload_n (pc' := 181) C dX0_fits_180 rfl rfl ?_
        refine jTa (pc' := 184) C dX0_fits_181 rfl 11 (by decide) hinT (by decide +kernel) ?_
        refine j_iconst (pc' := 185) C dX0_fits_184 rfl 0 (by decide) ?_
        refine j_aload_n (pc' := 186) C dX0_fits_185 rfl rfl ?_
        refine jTa (pc' := 189) C dX0_fits_186 rfl 10 (by decide) hinT (by decide +kernel) ?_
        refine j_iconst (pc' := 190) C dX0_fits_189 rfl 0 (by decide) ?_
        refine j_bipush (pc' := 192) C dX0_fits_190 rfl 65 (by decide) ?_
        refine jT_copy (pc' := 195) C dX0_fits_192 rfl 11 10 (by decide) (by decide) (by decide +kernel) (by decide +kernel) (by decide +kernel) (by decide +kernel) (by decide) (by decide +kernel) ?_
        refine j_iconst (pc' := 196) C dX0_fits_195 rfl 1 (by decide) ?_
        refine j_zreturn _ C dX0_fits_196 ?_ ?_
        · exact Or.inr rfl
        · exact ⟨by rw [hF, fitsT, if_neg hlt], by rw [hF, fitsT, if_neg hlt]; rfl⟩
        
      · skip
        exact absurd h175 (by decide) -- done
    
    
    
  obtain ⟨ea, hal⟩ := vp_in_c ha (by decide)
  obtain ⟨eb, hbl⟩ := vp_in_c hb (by decide)
  refine j_aload_n (pc' := 1) C dX0_fits_0 rfl rfl ?_
  refine jTa (pc' := 4) C dX0_fits_1 rfl 3 (by decide) hinT (by decide +kernel) ?_
  refine j_iload_n (pc' := 5) C dX0_fits_4 rfl rfl ?_
  refine jTlN (pc' := 6) C dX0_fits_5 rfl 3 (by decide) i rfl (by unfold lenT; simp; omega) ?_
  refine j_istore_n (pc' := 7) C dX0_fits_6 rfl (by decide) rfl ?_
  refine j_aload_n (pc' := 8) C dX0_fits_7 rfl rfl ?_
  refine jTa (pc' := 11) C dX0_fits_8 rfl 4 (by decide) hinT (by decide +kernel) ?_
  refine j_iload_n (pc' := 12) C dX0_fits_11 rfl rfl ?_
  refine jTlN (pc' := 13) C dX0_fits_12 rfl 4 (by decide) i rfl (by unfold lenT; simp; omega) ?_
  refine j_istore_n (pc' := 14) C dX0_fits_13 rfl (by decide) rfl ?_
  refine j_aload_n (pc' := 15) C dX0_fits_14 rfl rfl ?_
  refine jTa (pc' := 18) C dX0_fits_15 rfl 10 (by decide) hinT (by decide +kernel) ?_
  refine j_iload_n (pc' := 19) C dX0_fits_18 rfl rfl ?_
  refine jTl (pc' := 20) C dX0_fits_19 rfl 10 (by decide) (by exact hb) ?_
  refine j_aload_n (pc' := 21) C dX0_fits_20 rfl rfl ?_
  refine jTa (pc' := 24) C dX0_fits_21 rfl 10 (by decide) hinT (by decide +kernel) ?_
  refine j_iload_n (pc' := 25) C dX0_fits_24 rfl rfl ?_
  refine jTl (pc' := 26) C dX0_fits_25 rfl 10 (by decide) (by exact ha) ?_
  refine j_isub (pc' := 27) C dX0_fits_26 rfl ?_
  refine j_istore (pc' := 29) C dX0_fits_27 rfl (by decide) rfl ?_
  refine j_iload (pc' := 31) C dX0_fits_29 rfl rfl ?_
  refine j_aload_n (pc' := 32) C dX0_fits_31 rfl rfl ?_
  refine jTa (pc' := 35) C dX0_fits_32 rfl 5 (by decide) hinT (by decide +kernel) ?_
  refine j_iload_n (pc' := 36) C dX0_fits_35 rfl rfl ?_
  refine jTlN (pc' := 37) C dX0_fits_36 rfl 5 (by decide) i rfl (by unfold lenT; simp; omega) ?_
  refine j_icmp_lt (tgt := 53) (pc' := 40) C dX0_fits_37 (by decide) rfl (fun h37 => ?_) (fun h37 => ?_)
  · skip
    have hF : fitsF t i = fitsT t (t.2 4 i).toNatClampNeg (t.2 3 i).toNatClampNeg (t.2 10 (t.2 3 i).toNatClampNeg + t.2 5 i) := by rw [fitsF, if_pos h37]
    refine j_iload (pc' := 55) C dX0_fits_53 rfl rfl ?_
    refine j_aload_n (pc' := 56) C dX0_fits_55 rfl rfl ?_
    refine jTa (pc' := 59) C dX0_fits_56 rfl 5 (by decide) hinT (by decide +kernel) ?_
    refine j_iload_n (pc' := 60) C dX0_fits_59 rfl rfl ?_
    refine jTlN (pc' := 61) C dX0_fits_60 rfl 5 (by decide) i rfl (by unfold lenT; simp; omega) ?_
    refine j_icmp_ge (tgt := 68) (pc' := 64) C dX0_fits_61 (by decide) rfl (fun h61 => ?_) (fun h61 => ?_)
    · skip
      exact absurd h37 (i32_le_nlt h61) -- done
    · skip
      refine j_iconst (pc' := 65) C dX0_fits_64 rfl 1 (by decide) ?_
      refine j_goto (pc' := 69) C dX0_fits_65 (by decide) ?_
      refine j_istore (pc' := 71) C dX0_fits_69 rfl (by decide) rfl ?_
      refine j_iload (pc' := 73) C dX0_fits_71 rfl rfl ?_
      refine j_if_eq (tgt := 80) (pc' := 76) C dX0_fits_73 (by decide) rfl (fun h73 => ?_) (fun h73 => ?_)
      · skip
        exact absurd h73 (by decide) -- done
      · skip
        refine j_iload_n (pc' := 77) C dX0_fits_76 rfl rfl ?_
        refine j_goto (pc' := 81) C dX0_fits_77 (by decide) ?_
        refine j_istore (pc' := 83) C dX0_fits_81 rfl (by decide) rfl ?_
        refine j_iload (pc' := 85) C dX0_fits_83 rfl rfl ?_
        refine j_if_eq (tgt := 92) (pc' := 88) C dX0_fits_85 (by decide) rfl (fun h85 => ?_) (fun h85 => ?_)
        · skip
          exact absurd h85 (by decide) -- done
        · skip
          refine j_iload_n (pc' := 89) C dX0_fits_88 rfl rfl ?_
          refine j_goto (pc' := 93) C dX0_fits_89 (by decide) ?_
          refine j_istore (pc' := 95) C dX0_fits_93 rfl (by decide) rfl ?_
          refine j_iload (pc' := 97) C dX0_fits_95 rfl rfl ?_
          refine j_if_eq (tgt := 116) (pc' := 100) C dX0_fits_97 (by decide) rfl (fun h97 => ?_) (fun h97 => ?_)
          · skip
            exact absurd h97 (by decide) -- done
          · skip
            refine j_aload_n (pc' := 101) C dX0_fits_100 rfl rfl ?_
            refine jTa (pc' := 104) C dX0_fits_101 rfl 10 (by decide) hinT (by decide +kernel) ?_
            refine j_iload_n (pc' := 105) C dX0_fits_104 rfl rfl ?_
            refine jTl (pc' := 106) C dX0_fits_105 rfl 10 (by decide) (by exact ha) ?_
            refine j_aload_n (pc' := 107) C dX0_fits_106 rfl rfl ?_
            refine jTa (pc' := 110) C dX0_fits_107 rfl 5 (by decide) hinT (by decide +kernel) ?_
            refine j_iload_n (pc' := 111) C dX0_fits_110 rfl rfl ?_
            refine jTlN (pc' := 112) C dX0_fits_111 rfl 5 (by decide) i rfl (by unfold lenT; simp; omega) ?_
            refine j_iadd (pc' := 113) C dX0_fits_112 rfl ?_
            refine j_goto (pc' := 129) C dX0_fits_113 (by decide) ?_
            refine j_istore (pc' := 131) C dX0_fits_129 rfl (by decide) rfl ?_
            exact h131 _ _ _ _ _ _ _ eb ea (by omega) (by omega) hF
    -- done
  · skip
    refine j_iload (pc' := 42) C dX0_fits_40 rfl rfl ?_
    refine j_aload_n (pc' := 43) C dX0_fits_42 rfl rfl ?_
    refine jTa (pc' := 46) C dX0_fits_43 rfl 6 (by decide) hinT (by decide +kernel) ?_
    refine j_iload_n (pc' := 47) C dX0_fits_46 rfl rfl ?_
    refine jTlN (pc' := 48) C dX0_fits_47 rfl 6 (by decide) i rfl (by unfold lenT; simp; omega) ?_
    refine j_icmp_gt (tgt := 53) (pc' := 51) C dX0_fits_48 (by decide) rfl (fun h48 => ?_) (fun h48 => ?_)
    · skip
      have hF : fitsF t i = fitsT t (t.2 3 i).toNatClampNeg (t.2 4 i).toNatClampNeg (t.2 10 (t.2 4 i).toNatClampNeg - t.2 6 i) := by rw [fitsF, if_neg h37, if_pos h48]
      refine j_iload (pc' := 55) C dX0_fits_53 rfl rfl ?_
      refine j_aload_n (pc' := 56) C dX0_fits_55 rfl rfl ?_
      refine jTa (pc' := 59) C dX0_fits_56 rfl 5 (by decide) hinT (by decide +kernel) ?_
      refine j_iload_n (pc' := 60) C dX0_fits_59 rfl rfl ?_
      refine jTlN (pc' := 61) C dX0_fits_60 rfl 5 (by decide) i rfl (by unfold lenT; simp; omega) ?_
      refine j_icmp_ge (tgt := 68) (pc' := 64) C dX0_fits_61 (by decide) rfl (fun h61 => ?_) (fun h61 => ?_)
      · skip
        refine j_iconst (pc' := 69) C dX0_fits_68 rfl 0 (by decide) ?_
        refine j_istore (pc' := 71) C dX0_fits_69 rfl (by decide) rfl ?_
        refine j_iload (pc' := 73) C dX0_fits_71 rfl rfl ?_
        refine j_if_eq (tgt := 80) (pc' := 76) C dX0_fits_73 (by decide) rfl (fun h73 => ?_) (fun h73 => ?_)
        · skip
          refine j_iload_n (pc' := 81) C dX0_fits_80 rfl rfl ?_
          refine j_istore (pc' := 83) C dX0_fits_81 rfl (by decide) rfl ?_
          refine j_iload (pc' := 85) C dX0_fits_83 rfl rfl ?_
          refine j_if_eq (tgt := 92) (pc' := 88) C dX0_fits_85 (by decide) rfl (fun h85 => ?_) (fun h85 => ?_)
          · skip
            refine j_iload_n (pc' := 93) C dX0_fits_92 rfl rfl ?_
            refine j_istore (pc' := 95) C dX0_fits_93 rfl (by decide) rfl ?_
            refine j_iload (pc' := 97) C dX0_fits_95 rfl rfl ?_
            refine j_if_eq (tgt := 116) (pc' := 100) C dX0_fits_97 (by decide) rfl (fun h97 => ?_) (fun h97 => ?_)
            · skip
              refine j_aload_n (pc' := 117) C dX0_fits_116 rfl rfl ?_
              refine jTa (pc' := 120) C dX0_fits_117 rfl 10 (by decide) hinT (by decide +kernel) ?_
              refine j_iload_n (pc' := 121) C dX0_fits_120 rfl rfl ?_
              refine jTl (pc' := 122) C dX0_fits_121 rfl 10 (by decide) (by exact hb) ?_
              refine j_aload_n (pc' := 123) C dX0_fits_122 rfl rfl ?_
              refine jTa (pc' := 126) C dX0_fits_123 rfl 6 (by decide) hinT (by decide +kernel) ?_
              refine j_iload_n (pc' := 127) C dX0_fits_126 rfl rfl ?_
              refine jTlN (pc' := 128) C dX0_fits_127 rfl 6 (by decide) i rfl (by unfold lenT; simp; omega) ?_
              refine j_isub (pc' := 129) C dX0_fits_128 rfl ?_
              refine j_istore (pc' := 131) C dX0_fits_129 rfl (by decide) rfl ?_
              exact h131 _ _ _ _ _ _ _ ea eb (by omega) (by omega) hF
            · skip
              exact absurd rfl h97 -- done
          · skip
            exact absurd rfl h85 -- done
        · skip
          exact absurd rfl h73 -- done
      · skip
        exact absurd (i32_nle h61) h37 -- done
      -- done
    · skip
      refine j_iconst (pc' := 52) C dX0_fits_51 rfl 1 (by decide) ?_
      refine j_zreturn _ C dX0_fits_52 ?_ ?_
      · exact Or.inr rfl
      · exact ⟨by rw [fitsF, if_neg h37, if_neg h48], by rw [fitsF, if_neg h37, if_neg h48]⟩
