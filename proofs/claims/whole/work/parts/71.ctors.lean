/-! the constructors -/
def t0T : TS := (fun k => match k with | 2 => 40 | _ => 0, fun _ _ => 0)
def roomG0 : Nat → Int32 := upd (upd (upd (fun _ => 0) 0 40) 1 40) 2 40
def m0M : TS := (fun _ => -1, fun k => match k with | 2 => roomG0 | _ => fun _ => 0)
section ENC2
variable {p : Program} {l : Launch} {e : Env} {R : Room} {s : State} {m : MethodId} {args : Array Value} {below : List Frame} {meth : Method} {c : Code} {cells slots : Nat} {Q : State → Prop} {n : Nat} {D : va_G} {A : Nat → Prop} {cc : ByteArray} {own : String} {Ts : List Cond} {ret : Option FieldType} {cI cO : ClassId} {pc pc' : Nat} {L : List (Option Value)} {S : List Value} {ws : va_W}
theorem j_astN {a len : Nat} {f : Nat → Int32} {i x : Int32} {ws' : va_W} (C : Cx p R s m args meth c cells slots n D A cc own Ts ret cI cO) (hd : decode cc pc = .ok (.iastore, 1)) (hp : pc + 1 = pc') (q0 : Nat) (he : ws[q0]? = some (a, .inl (cI, len, .inl f))) (j : Nat) (hj : i = nI j) (hi : j < len) (hb : len < 2 ^ 31) (hw : ws.set q0 (a, .inl (cI, len, .inl (upd f j x))) = ws')
    (kk : J p l e R s m args below meth c cells slots Q n D A (pc') (L) (S) (ws')) : J p l e R s m args below meth c cells slots Q n D A (pc) (L) (.int x :: .int i :: .ref a :: S) (ws) := by
  subst hj
  exact j_ast C hd hp q0 he (vp_in_nI hi hb) (by rw [nI_clamp (by omega)]; exact hw) kk
theorem j_eqw {ws' : va_W} (h : ∀ H : Heap, va_P D vwCl ws H → va_P D vwCl ws' H) (h2 : ws'.map Prod.fst = ws.map Prod.fst) (kk : J p l e R s m args below meth c cells slots Q n D A (pc) (L) (S) (ws')) : J p l e R s m args below meth c cells slots Q n D A (pc) (L) (S) (ws) :=
  fun H locs ls hl hP hD hS => kk H locs ls hl (h H hP) (va_D_same h2 hD) hS
end ENC2
set_option maxRecDepth 100000 in
set_option maxHeartbeats 4000000 in
theorem c_Tinit (l : Launch) (D : va_G) (cI cO : ClassId) (h0 : Nat) : Kc l yX0_init wsX0_init 1 9 459 [(h0, .inr (0, [.int 0, .int 0, .int 0, .null, .null, .null, .null, .null, .null, .null, .null, .null, .int 0, .int 0]))] (fun B : Nat → Nat => wT cI B t0T) D cI cO (fun _ => True) [.ref h0] (fun B => B 0 = h0) := by
  refine Kc_of (cc := cX0_init) (n := 1) rfl (by decide +kernel) rfl (Nat.le_of_ble_eq_true rfl) rfl [some (.ref h0)] rfl ?_
  intro p e s m args below meth c A C hini _
  have hinT : ∀ w ∈ wsX00, w ∈ wsX0_init := by decide +kernel
  refine j_aload_n (pc' := 1) C dX0_init_0 rfl rfl ?_
  refine j_objInit (pc' := 4) C dX0_init_1 rfl (by decide +kernel) (by decide +kernel) (by decide +kernel) (by decide) (by decide) ?_
  refine j_aload_n (pc' := 5) C dX0_init_4 rfl rfl ?_
  refine j_iconst (pc' := 6) C dX0_init_5 rfl 0 (by decide) ?_
  refine j_put (cells := 0) (slots := 0) (pc' := 9) (ty := .int) (ws' := [(h0, .inr (0, [.int 0, .int 0, .int 0, .null, .null, .null, .null, .null, .null, .null, .null, .null, .int 0, .int 0]))]) C dX0_init_6 rfl 0 0 tyX0 tyX0_ok nmX0 rfl rfl hinT (by decide) (by decide +kernel) rfl (by decide +kernel) (vp_nar_int _) rfl (Nat.le_of_ble_eq_true rfl) rfl ?_
  refine j_aload_n (pc' := 10) C dX0_init_9 rfl rfl ?_
  refine j_iconst (pc' := 11) C dX0_init_10 rfl 0 (by decide) ?_
  refine j_put (cells := 0) (slots := 0) (pc' := 14) (ty := .int) (ws' := [(h0, .inr (0, [.int 0, .int 0, .int 0, .null, .null, .null, .null, .null, .null, .null, .null, .null, .int 0, .int 0]))]) C dX0_init_11 rfl 0 1 tyX0 tyX0_ok nmX0 rfl rfl hinT (by decide) (by decide +kernel) rfl (by decide +kernel) (vp_nar_int _) rfl (Nat.le_of_ble_eq_true rfl) rfl ?_
  refine j_aload_n (pc' := 15) C dX0_init_14 rfl rfl ?_
  refine j_bipush (pc' := 17) C dX0_init_15 rfl 40 (by decide) ?_
  refine j_put (cells := 0) (slots := 0) (pc' := 20) (ty := .int) (ws' := [(h0, .inr (0, [.int 0, .int 0, .int 40, .null, .null, .null, .null, .null, .null, .null, .null, .null, .int 0, .int 0]))]) C dX0_init_17 rfl 0 2 tyX0 tyX0_ok nmX0 rfl rfl hinT (by decide) (by decide +kernel) rfl (by decide +kernel) (vp_nar_int _) rfl (Nat.le_of_ble_eq_true rfl) rfl ?_
  refine j_aload_n (pc' := 21) C dX0_init_20 rfl rfl ?_
  refine j_bipush (pc' := 23) C dX0_init_21 rfl 40 (by decide) ?_
  refine j_newa (pc' := 25) C dX0_init_23 rfl (by decide +kernel) 40 (by decide) (by decide) (by decide) (by decide) (fun q3 => ?_)
  have C1 := C.more (k1 := 1) (k2 := 40) (by decide) (by decide)
  refine j_putF (cells := 1) (slots := 40) (pc' := 28) (ty := .array .int) (ws' := [(h0, .inr (0, [.int 0, .int 0, .int 40, .ref q3, .null, .null, .null, .null, .null, .null, .null, .null, .int 0, .int 0])), (q3, .inl (cI, 40, .inl (fun _ => 0)))]) C1 hini dX0_init_25 rfl 0 3 tyX0 tyX0_ok nmX0 rfl rfl hinT (by decide) (by decide +kernel) rfl rfl (by decide +kernel) rfl rfl (Nat.le_of_ble_eq_true rfl) rfl ?_
  refine j_aload_n (pc' := 29) C1 dX0_init_28 rfl rfl ?_
  refine j_bipush (pc' := 31) C1 dX0_init_29 rfl 40 (by decide) ?_
  refine j_newa (pc' := 33) C1 dX0_init_31 rfl (by decide +kernel) 40 (by decide) (by decide) (by decide) (by decide) (fun q4 => ?_)
  have C2 := C.more (k1 := 2) (k2 := 80) (by decide) (by decide)
  refine j_putF (cells := 2) (slots := 80) (pc' := 36) (ty := .array .int) (ws' := [(h0, .inr (0, [.int 0, .int 0, .int 40, .ref q3, .ref q4, .null, .null, .null, .null, .null, .null, .null, .int 0, .int 0])), (q3, .inl (cI, 40, .inl (fun _ => 0))), (q4, .inl (cI, 40, .inl (fun _ => 0)))]) C2 hini dX0_init_33 rfl 0 4 tyX0 tyX0_ok nmX0 rfl rfl hinT (by decide) (by decide +kernel) rfl rfl (by decide +kernel) rfl rfl (Nat.le_of_ble_eq_true rfl) rfl ?_
  refine j_aload_n (pc' := 37) C2 dX0_init_36 rfl rfl ?_
  refine j_bipush (pc' := 39) C2 dX0_init_37 rfl 40 (by decide) ?_
  refine j_newa (pc' := 41) C2 dX0_init_39 rfl (by decide +kernel) 40 (by decide) (by decide) (by decide) (by decide) (fun q5 => ?_)
  have C3 := C.more (k1 := 3) (k2 := 120) (by decide) (by decide)
  refine j_putF (cells := 3) (slots := 120) (pc' := 44) (ty := .array .int) (ws' := [(h0, .inr (0, [.int 0, .int 0, .int 40, .ref q3, .ref q4, .ref q5, .null, .null, .null, .null, .null, .null, .int 0, .int 0])), (q3, .inl (cI, 40, .inl (fun _ => 0))), (q4, .inl (cI, 40, .inl (fun _ => 0))), (q5, .inl (cI, 40, .inl (fun _ => 0)))]) C3 hini dX0_init_41 rfl 0 5 tyX0 tyX0_ok nmX0 rfl rfl hinT (by decide) (by decide +kernel) rfl rfl (by decide +kernel) rfl rfl (Nat.le_of_ble_eq_true rfl) rfl ?_
  refine j_aload_n (pc' := 45) C3 dX0_init_44 rfl rfl ?_
  refine j_bipush (pc' := 47) C3 dX0_init_45 rfl 40 (by decide) ?_
  refine j_newa (pc' := 49) C3 dX0_init_47 rfl (by decide +kernel) 40 (by decide) (by decide) (by decide) (by decide) (fun q6 => ?_)
  have C4 := C.more (k1 := 4) (k2 := 160) (by decide) (by decide)
  refine j_putF (cells := 4) (slots := 160) (pc' := 52) (ty := .array .int) (ws' := [(h0, .inr (0, [.int 0, .int 0, .int 40, .ref q3, .ref q4, .ref q5, .ref q6, .null, .null, .null, .null, .null, .int 0, .int 0])), (q3, .inl (cI, 40, .inl (fun _ => 0))), (q4, .inl (cI, 40, .inl (fun _ => 0))), (q5, .inl (cI, 40, .inl (fun _ => 0))), (q6, .inl (cI, 40, .inl (fun _ => 0)))]) C4 hini dX0_init_49 rfl 0 6 tyX0 tyX0_ok nmX0 rfl rfl hinT (by decide) (by decide +kernel) rfl rfl (by decide +kernel) rfl rfl (Nat.le_of_ble_eq_true rfl) rfl ?_
  refine j_aload_n (pc' := 53) C4 dX0_init_52 rfl rfl ?_
  refine j_bipush (pc' := 55) C4 dX0_init_53 rfl 40 (by decide) ?_
  refine j_newa (pc' := 57) C4 dX0_init_55 rfl (by decide +kernel) 40 (by decide) (by decide) (by decide) (by decide) (fun q7 => ?_)
  have C5 := C.more (k1 := 5) (k2 := 200) (by decide) (by decide)
  refine j_putF (cells := 5) (slots := 200) (pc' := 60) (ty := .array .int) (ws' := [(h0, .inr (0, [.int 0, .int 0, .int 40, .ref q3, .ref q4, .ref q5, .ref q6, .ref q7, .null, .null, .null, .null, .int 0, .int 0])), (q3, .inl (cI, 40, .inl (fun _ => 0))), (q4, .inl (cI, 40, .inl (fun _ => 0))), (q5, .inl (cI, 40, .inl (fun _ => 0))), (q6, .inl (cI, 40, .inl (fun _ => 0))), (q7, .inl (cI, 40, .inl (fun _ => 0)))]) C5 hini dX0_init_57 rfl 0 7 tyX0 tyX0_ok nmX0 rfl rfl hinT (by decide) (by decide +kernel) rfl rfl (by decide +kernel) rfl rfl (Nat.le_of_ble_eq_true rfl) rfl ?_
  refine j_aload_n (pc' := 61) C5 dX0_init_60 rfl rfl ?_
  refine j_bipush (pc' := 63) C5 dX0_init_61 rfl 64 (by decide) ?_
  refine j_newa (pc' := 65) C5 dX0_init_63 rfl (by decide +kernel) 64 (by decide) (by decide) (by decide) (by decide) (fun q8 => ?_)
  have C6 := C.more (k1 := 6) (k2 := 264) (by decide) (by decide)
  refine j_putF (cells := 6) (slots := 264) (pc' := 68) (ty := .array .int) (ws' := [(h0, .inr (0, [.int 0, .int 0, .int 40, .ref q3, .ref q4, .ref q5, .ref q6, .ref q7, .ref q8, .null, .null, .null, .int 0, .int 0])), (q3, .inl (cI, 40, .inl (fun _ => 0))), (q4, .inl (cI, 40, .inl (fun _ => 0))), (q5, .inl (cI, 40, .inl (fun _ => 0))), (q6, .inl (cI, 40, .inl (fun _ => 0))), (q7, .inl (cI, 40, .inl (fun _ => 0))), (q8, .inl (cI, 64, .inl (fun _ => 0)))]) C6 hini dX0_init_65 rfl 0 8 tyX0 tyX0_ok nmX0 rfl rfl hinT (by decide) (by decide +kernel) rfl rfl (by decide +kernel) rfl rfl (Nat.le_of_ble_eq_true rfl) rfl ?_
  refine j_aload_n (pc' := 69) C6 dX0_init_68 rfl rfl ?_
  refine j_bipush (pc' := 71) C6 dX0_init_69 rfl 65 (by decide) ?_
  refine j_newa (pc' := 73) C6 dX0_init_71 rfl (by decide +kernel) 65 (by decide) (by decide) (by decide) (by decide) (fun q9 => ?_)
  have C7 := C.more (k1 := 7) (k2 := 329) (by decide) (by decide)
  refine j_putF (cells := 7) (slots := 329) (pc' := 76) (ty := .array .int) (ws' := [(h0, .inr (0, [.int 0, .int 0, .int 40, .ref q3, .ref q4, .ref q5, .ref q6, .ref q7, .ref q8, .ref q9, .null, .null, .int 0, .int 0])), (q3, .inl (cI, 40, .inl (fun _ => 0))), (q4, .inl (cI, 40, .inl (fun _ => 0))), (q5, .inl (cI, 40, .inl (fun _ => 0))), (q6, .inl (cI, 40, .inl (fun _ => 0))), (q7, .inl (cI, 40, .inl (fun _ => 0))), (q8, .inl (cI, 64, .inl (fun _ => 0))), (q9, .inl (cI, 65, .inl (fun _ => 0)))]) C7 hini dX0_init_73 rfl 0 9 tyX0 tyX0_ok nmX0 rfl rfl hinT (by decide) (by decide +kernel) rfl rfl (by decide +kernel) rfl rfl (Nat.le_of_ble_eq_true rfl) rfl ?_
  refine j_aload_n (pc' := 77) C7 dX0_init_76 rfl rfl ?_
  refine j_bipush (pc' := 79) C7 dX0_init_77 rfl 65 (by decide) ?_
  refine j_newa (pc' := 81) C7 dX0_init_79 rfl (by decide +kernel) 65 (by decide) (by decide) (by decide) (by decide) (fun q10 => ?_)
  have C8 := C.more (k1 := 8) (k2 := 394) (by decide) (by decide)
  refine j_putF (cells := 8) (slots := 394) (pc' := 84) (ty := .array .int) (ws' := [(h0, .inr (0, [.int 0, .int 0, .int 40, .ref q3, .ref q4, .ref q5, .ref q6, .ref q7, .ref q8, .ref q9, .ref q10, .null, .int 0, .int 0])), (q3, .inl (cI, 40, .inl (fun _ => 0))), (q4, .inl (cI, 40, .inl (fun _ => 0))), (q5, .inl (cI, 40, .inl (fun _ => 0))), (q6, .inl (cI, 40, .inl (fun _ => 0))), (q7, .inl (cI, 40, .inl (fun _ => 0))), (q8, .inl (cI, 64, .inl (fun _ => 0))), (q9, .inl (cI, 65, .inl (fun _ => 0))), (q10, .inl (cI, 65, .inl (fun _ => 0)))]) C8 hini dX0_init_81 rfl 0 10 tyX0 tyX0_ok nmX0 rfl rfl hinT (by decide) (by decide +kernel) rfl rfl (by decide +kernel) rfl rfl (Nat.le_of_ble_eq_true rfl) rfl ?_
  refine j_aload_n (pc' := 85) C8 dX0_init_84 rfl rfl ?_
  refine j_bipush (pc' := 87) C8 dX0_init_85 rfl 65 (by decide) ?_
  refine j_newa (pc' := 89) C8 dX0_init_87 rfl (by decide +kernel) 65 (by decide) (by decide) (by decide) (by decide) (fun q11 => ?_)
  have C9 := C.more (k1 := 9) (k2 := 459) (by decide) (by decide)
  refine j_putF (cells := 9) (slots := 459) (pc' := 92) (ty := .array .int) (ws' := [(h0, .inr (0, [.int 0, .int 0, .int 40, .ref q3, .ref q4, .ref q5, .ref q6, .ref q7, .ref q8, .ref q9, .ref q10, .ref q11, .int 0, .int 0])), (q3, .inl (cI, 40, .inl (fun _ => 0))), (q4, .inl (cI, 40, .inl (fun _ => 0))), (q5, .inl (cI, 40, .inl (fun _ => 0))), (q6, .inl (cI, 40, .inl (fun _ => 0))), (q7, .inl (cI, 40, .inl (fun _ => 0))), (q8, .inl (cI, 64, .inl (fun _ => 0))), (q9, .inl (cI, 65, .inl (fun _ => 0))), (q10, .inl (cI, 65, .inl (fun _ => 0))), (q11, .inl (cI, 65, .inl (fun _ => 0)))]) C9 hini dX0_init_89 rfl 0 11 tyX0 tyX0_ok nmX0 rfl rfl hinT (by decide) (by decide +kernel) rfl rfl (by decide +kernel) rfl rfl (Nat.le_of_ble_eq_true rfl) rfl ?_
  refine j_aload_n (pc' := 93) C9 dX0_init_92 rfl rfl ?_
  refine j_iconst (pc' := 94) C9 dX0_init_93 rfl 0 (by decide) ?_
  refine j_put (cells := 9) (slots := 459) (pc' := 97) (ty := .boolean) (ws' := [(h0, .inr (0, [.int 0, .int 0, .int 40, .ref q3, .ref q4, .ref q5, .ref q6, .ref q7, .ref q8, .ref q9, .ref q10, .ref q11, .int 0, .int 0])), (q3, .inl (cI, 40, .inl (fun _ => 0))), (q4, .inl (cI, 40, .inl (fun _ => 0))), (q5, .inl (cI, 40, .inl (fun _ => 0))), (q6, .inl (cI, 40, .inl (fun _ => 0))), (q7, .inl (cI, 40, .inl (fun _ => 0))), (q8, .inl (cI, 64, .inl (fun _ => 0))), (q9, .inl (cI, 65, .inl (fun _ => 0))), (q10, .inl (cI, 65, .inl (fun _ => 0))), (q11, .inl (cI, 65, .inl (fun _ => 0)))]) C9 dX0_init_94 rfl 0 12 tyX0 tyX0_ok nmX0 rfl rfl hinT (by decide) (by decide +kernel) rfl (by decide +kernel) (by decide +kernel) (by decide +kernel) (Nat.le_of_ble_eq_true rfl) rfl ?_
  refine j_aload_n (pc' := 98) C9 dX0_init_97 rfl rfl ?_
  refine j_iconst (pc' := 99) C9 dX0_init_98 rfl 0 (by decide) ?_
  refine j_put (cells := 9) (slots := 459) (pc' := 102) (ty := .boolean) (ws' := [(h0, .inr (0, [.int 0, .int 0, .int 40, .ref q3, .ref q4, .ref q5, .ref q6, .ref q7, .ref q8, .ref q9, .ref q10, .ref q11, .int 0, .int 0])), (q3, .inl (cI, 40, .inl (fun _ => 0))), (q4, .inl (cI, 40, .inl (fun _ => 0))), (q5, .inl (cI, 40, .inl (fun _ => 0))), (q6, .inl (cI, 40, .inl (fun _ => 0))), (q7, .inl (cI, 40, .inl (fun _ => 0))), (q8, .inl (cI, 64, .inl (fun _ => 0))), (q9, .inl (cI, 65, .inl (fun _ => 0))), (q10, .inl (cI, 65, .inl (fun _ => 0))), (q11, .inl (cI, 65, .inl (fun _ => 0)))]) C9 dX0_init_99 rfl 0 13 tyX0 tyX0_ok nmX0 rfl rfl hinT (by decide) (by decide +kernel) rfl (by decide +kernel) (by decide +kernel) (by decide +kernel) (Nat.le_of_ble_eq_true rfl) rfl ?_
  have hfin : [(h0, .inr (0, [.int 0, .int 0, .int 40, .ref q3, .ref q4, .ref q5, .ref q6, .ref q7, .ref q8, .ref q9, .ref q10, .ref q11, .int 0, .int 0])), (q3, .inl (cI, 40, .inl (fun _ => 0))), (q4, .inl (cI, 40, .inl (fun _ => 0))), (q5, .inl (cI, 40, .inl (fun _ => 0))), (q6, .inl (cI, 40, .inl (fun _ => 0))), (q7, .inl (cI, 40, .inl (fun _ => 0))), (q8, .inl (cI, 64, .inl (fun _ => 0))), (q9, .inl (cI, 65, .inl (fun _ => 0))), (q10, .inl (cI, 65, .inl (fun _ => 0))), (q11, .inl (cI, 65, .inl (fun _ => 0)))] = wT cI (fun k => [h0, 0, 0, q3, q4, q5, q6, q7, q8, q9, q10, q11].getD k 0) t0T := rfl
  rw [hfin]
  exact j_cret (wf := fun B : Nat → Nat => wT cI B t0T) (fun k => [h0, 0, 0, q3, q4, q5, q6, q7, q8, q9, q10, q11].getD k 0) C9 dX0_init_102 rfl
set_option maxRecDepth 100000 in
set_option maxHeartbeats 4000000 in
theorem c_Minit (l : Launch) (D : va_G) (cI cO : ClassId) (h0 : Nat) : Kc l yX2_init wsX2_init 1 11 5221 [(h0, .inr (2, [.null, .null, .null, .null, .null, .null, .null, .null, .null, .null, .int 0, .null]))] (fun B : Nat → Nat => wM cI B m0M) D cI cO (fun _ => True) [.ref h0] (fun B => B 10 = h0) := by
  refine Kc_of (cc := cX2_init) (n := 2) rfl (by decide +kernel) rfl (Nat.le_of_ble_eq_true rfl) rfl [some (.ref h0), none] rfl ?_
  intro p e s m args below meth c A C hini _
  have hinM : ∀ w ∈ wsX20, w ∈ wsX2_init := by decide +kernel
  refine j_aload_n (pc' := 1) C dX2_init_0 rfl rfl ?_
  refine j_objInit (pc' := 4) C dX2_init_1 rfl (by decide +kernel) (by decide +kernel) (by decide +kernel) (by decide) (by decide) ?_
  refine j_aload_n (pc' := 5) C dX2_init_4 rfl rfl ?_
  refine j_iconst (pc' := 6) C dX2_init_5 rfl 3 (by decide) ?_
  refine j_newa (pc' := 8) C dX2_init_6 rfl (by decide +kernel) 3 (by decide) (by decide) (by decide) (by decide) (fun q0 => ?_)
  have C1 := C.more (k1 := 1) (k2 := 3) (by decide) (by decide)
  refine j_putF (cells := 1) (slots := 3) (pc' := 11) (ty := .array .int) (ws' := [(h0, .inr (2, [.ref q0, .null, .null, .null, .null, .null, .null, .null, .null, .null, .int 0, .null])), (q0, .inl (cI, 3, .inl (fun _ => 0)))]) C1 hini dX2_init_8 rfl 0 0 tyX2 tyX2_ok nmX2 rfl rfl hinM (by decide) (by decide +kernel) rfl rfl (by decide +kernel) rfl rfl (Nat.le_of_ble_eq_true rfl) rfl ?_
  refine j_aload_n (pc' := 12) C1 dX2_init_11 rfl rfl ?_
  refine j_iconst (pc' := 13) C1 dX2_init_12 rfl 3 (by decide) ?_
  refine j_newa (pc' := 15) C1 dX2_init_13 rfl (by decide +kernel) 3 (by decide) (by decide) (by decide) (by decide) (fun q1 => ?_)
  have C2 := C.more (k1 := 2) (k2 := 6) (by decide) (by decide)
  refine j_putF (cells := 2) (slots := 6) (pc' := 18) (ty := .array .int) (ws' := [(h0, .inr (2, [.ref q0, .ref q1, .null, .null, .null, .null, .null, .null, .null, .null, .int 0, .null])), (q0, .inl (cI, 3, .inl (fun _ => 0))), (q1, .inl (cI, 3, .inl (fun _ => 0)))]) C2 hini dX2_init_15 rfl 0 1 tyX2 tyX2_ok nmX2 rfl rfl hinM (by decide) (by decide +kernel) rfl rfl (by decide +kernel) rfl rfl (Nat.le_of_ble_eq_true rfl) rfl ?_
  refine j_aload_n (pc' := 19) C2 dX2_init_18 rfl rfl ?_
  refine j_iconst (pc' := 20) C2 dX2_init_19 rfl 3 (by decide) ?_
  refine j_newa (pc' := 22) C2 dX2_init_20 rfl (by decide +kernel) 3 (by decide) (by decide) (by decide) (by decide) (fun q2 => ?_)
  have C3 := C.more (k1 := 3) (k2 := 9) (by decide) (by decide)
  refine j_putF (cells := 3) (slots := 9) (pc' := 25) (ty := .array .int) (ws' := [(h0, .inr (2, [.ref q0, .ref q1, .ref q2, .null, .null, .null, .null, .null, .null, .null, .int 0, .null])), (q0, .inl (cI, 3, .inl (fun _ => 0))), (q1, .inl (cI, 3, .inl (fun _ => 0))), (q2, .inl (cI, 3, .inl (fun _ => 0)))]) C3 hini dX2_init_22 rfl 0 2 tyX2 tyX2_ok nmX2 rfl rfl hinM (by decide) (by decide +kernel) rfl rfl (by decide +kernel) rfl rfl (Nat.le_of_ble_eq_true rfl) rfl ?_
  refine j_aload_n (pc' := 26) C3 dX2_init_25 rfl rfl ?_
  refine j_bipush (pc' := 28) C3 dX2_init_26 rfl 120 (by decide) ?_
  refine j_newa (pc' := 30) C3 dX2_init_28 rfl (by decide +kernel) 120 (by decide) (by decide) (by decide) (by decide) (fun q3 => ?_)
  have C4 := C.more (k1 := 4) (k2 := 129) (by decide) (by decide)
  refine j_putF (cells := 4) (slots := 129) (pc' := 33) (ty := .array .int) (ws' := [(h0, .inr (2, [.ref q0, .ref q1, .ref q2, .ref q3, .null, .null, .null, .null, .null, .null, .int 0, .null])), (q0, .inl (cI, 3, .inl (fun _ => 0))), (q1, .inl (cI, 3, .inl (fun _ => 0))), (q2, .inl (cI, 3, .inl (fun _ => 0))), (q3, .inl (cI, 120, .inl (fun _ => 0)))]) C4 hini dX2_init_30 rfl 0 3 tyX2 tyX2_ok nmX2 rfl rfl hinM (by decide) (by decide +kernel) rfl rfl (by decide +kernel) rfl rfl (Nat.le_of_ble_eq_true rfl) rfl ?_
  refine j_aload_n (pc' := 34) C4 dX2_init_33 rfl rfl ?_
  refine j_bipush (pc' := 36) C4 dX2_init_34 rfl 120 (by decide) ?_
  refine j_newa (pc' := 38) C4 dX2_init_36 rfl (by decide +kernel) 120 (by decide) (by decide) (by decide) (by decide) (fun q4 => ?_)
  have C5 := C.more (k1 := 5) (k2 := 249) (by decide) (by decide)
  refine j_putF (cells := 5) (slots := 249) (pc' := 41) (ty := .array .int) (ws' := [(h0, .inr (2, [.ref q0, .ref q1, .ref q2, .ref q3, .ref q4, .null, .null, .null, .null, .null, .int 0, .null])), (q0, .inl (cI, 3, .inl (fun _ => 0))), (q1, .inl (cI, 3, .inl (fun _ => 0))), (q2, .inl (cI, 3, .inl (fun _ => 0))), (q3, .inl (cI, 120, .inl (fun _ => 0))), (q4, .inl (cI, 120, .inl (fun _ => 0)))]) C5 hini dX2_init_38 rfl 0 4 tyX2 tyX2_ok nmX2 rfl rfl hinM (by decide) (by decide +kernel) rfl rfl (by decide +kernel) rfl rfl (Nat.le_of_ble_eq_true rfl) rfl ?_
  refine j_aload_n (pc' := 42) C5 dX2_init_41 rfl rfl ?_
  refine j_bipush (pc' := 44) C5 dX2_init_42 rfl 120 (by decide) ?_
  refine j_newa (pc' := 46) C5 dX2_init_44 rfl (by decide +kernel) 120 (by decide) (by decide) (by decide) (by decide) (fun q5 => ?_)
  have C6 := C.more (k1 := 6) (k2 := 369) (by decide) (by decide)
  refine j_putF (cells := 6) (slots := 369) (pc' := 49) (ty := .array .int) (ws' := [(h0, .inr (2, [.ref q0, .ref q1, .ref q2, .ref q3, .ref q4, .ref q5, .null, .null, .null, .null, .int 0, .null])), (q0, .inl (cI, 3, .inl (fun _ => 0))), (q1, .inl (cI, 3, .inl (fun _ => 0))), (q2, .inl (cI, 3, .inl (fun _ => 0))), (q3, .inl (cI, 120, .inl (fun _ => 0))), (q4, .inl (cI, 120, .inl (fun _ => 0))), (q5, .inl (cI, 120, .inl (fun _ => 0)))]) C6 hini dX2_init_46 rfl 0 5 tyX2 tyX2_ok nmX2 rfl rfl hinM (by decide) (by decide +kernel) rfl rfl (by decide +kernel) rfl rfl (Nat.le_of_ble_eq_true rfl) rfl ?_
  refine j_aload_n (pc' := 50) C6 dX2_init_49 rfl rfl ?_
  refine j_bipush (pc' := 52) C6 dX2_init_50 rfl 120 (by decide) ?_
  refine j_newa (pc' := 54) C6 dX2_init_52 rfl (by decide +kernel) 120 (by decide) (by decide) (by decide) (by decide) (fun q6 => ?_)
  have C7 := C.more (k1 := 7) (k2 := 489) (by decide) (by decide)
  refine j_putF (cells := 7) (slots := 489) (pc' := 57) (ty := .array .int) (ws' := [(h0, .inr (2, [.ref q0, .ref q1, .ref q2, .ref q3, .ref q4, .ref q5, .ref q6, .null, .null, .null, .int 0, .null])), (q0, .inl (cI, 3, .inl (fun _ => 0))), (q1, .inl (cI, 3, .inl (fun _ => 0))), (q2, .inl (cI, 3, .inl (fun _ => 0))), (q3, .inl (cI, 120, .inl (fun _ => 0))), (q4, .inl (cI, 120, .inl (fun _ => 0))), (q5, .inl (cI, 120, .inl (fun _ => 0))), (q6, .inl (cI, 120, .inl (fun _ => 0)))]) C7 hini dX2_init_54 rfl 0 6 tyX2 tyX2_ok nmX2 rfl rfl hinM (by decide) (by decide +kernel) rfl rfl (by decide +kernel) rfl rfl (Nat.le_of_ble_eq_true rfl) rfl ?_
  refine j_aload_n (pc' := 58) C7 dX2_init_57 rfl rfl ?_
  refine j_bipush (pc' := 60) C7 dX2_init_58 rfl 120 (by decide) ?_
  refine j_newa (pc' := 62) C7 dX2_init_60 rfl (by decide +kernel) 120 (by decide) (by decide) (by decide) (by decide) (fun q7 => ?_)
  have C8 := C.more (k1 := 8) (k2 := 609) (by decide) (by decide)
  refine j_putF (cells := 8) (slots := 609) (pc' := 65) (ty := .array .int) (ws' := [(h0, .inr (2, [.ref q0, .ref q1, .ref q2, .ref q3, .ref q4, .ref q5, .ref q6, .ref q7, .null, .null, .int 0, .null])), (q0, .inl (cI, 3, .inl (fun _ => 0))), (q1, .inl (cI, 3, .inl (fun _ => 0))), (q2, .inl (cI, 3, .inl (fun _ => 0))), (q3, .inl (cI, 120, .inl (fun _ => 0))), (q4, .inl (cI, 120, .inl (fun _ => 0))), (q5, .inl (cI, 120, .inl (fun _ => 0))), (q6, .inl (cI, 120, .inl (fun _ => 0))), (q7, .inl (cI, 120, .inl (fun _ => 0)))]) C8 hini dX2_init_62 rfl 0 7 tyX2 tyX2_ok nmX2 rfl rfl hinM (by decide) (by decide +kernel) rfl rfl (by decide +kernel) rfl rfl (Nat.le_of_ble_eq_true rfl) rfl ?_
  refine j_aload_n (pc' := 66) C8 dX2_init_65 rfl rfl ?_
  refine j_sipush (pc' := 69) C8 dX2_init_66 rfl 192 (by decide) ?_
  refine j_newa (pc' := 71) C8 dX2_init_69 rfl (by decide +kernel) 192 (by decide) (by decide) (by decide) (by decide) (fun q8 => ?_)
  have C9 := C.more (k1 := 9) (k2 := 801) (by decide) (by decide)
  refine j_putF (cells := 9) (slots := 801) (pc' := 74) (ty := .array .int) (ws' := [(h0, .inr (2, [.ref q0, .ref q1, .ref q2, .ref q3, .ref q4, .ref q5, .ref q6, .ref q7, .ref q8, .null, .int 0, .null])), (q0, .inl (cI, 3, .inl (fun _ => 0))), (q1, .inl (cI, 3, .inl (fun _ => 0))), (q2, .inl (cI, 3, .inl (fun _ => 0))), (q3, .inl (cI, 120, .inl (fun _ => 0))), (q4, .inl (cI, 120, .inl (fun _ => 0))), (q5, .inl (cI, 120, .inl (fun _ => 0))), (q6, .inl (cI, 120, .inl (fun _ => 0))), (q7, .inl (cI, 120, .inl (fun _ => 0))), (q8, .inl (cI, 192, .inl (fun _ => 0)))]) C9 hini dX2_init_71 rfl 0 8 tyX2 tyX2_ok nmX2 rfl rfl hinM (by decide) (by decide +kernel) rfl rfl (by decide +kernel) rfl rfl (Nat.le_of_ble_eq_true rfl) rfl ?_
  refine j_aload_n (pc' := 75) C9 dX2_init_74 rfl rfl ?_
  refine j_sipush (pc' := 78) C9 dX2_init_75 rfl 4225 (by decide) ?_
  refine j_newa (pc' := 80) C9 dX2_init_78 rfl (by decide +kernel) 4225 (by decide) (by decide) (by decide) (by decide) (fun q9 => ?_)
  have C10 := C.more (k1 := 10) (k2 := 5026) (by decide) (by decide)
  refine j_putF (cells := 10) (slots := 5026) (pc' := 83) (ty := .array .int) (ws' := [(h0, .inr (2, [.ref q0, .ref q1, .ref q2, .ref q3, .ref q4, .ref q5, .ref q6, .ref q7, .ref q8, .ref q9, .int 0, .null])), (q0, .inl (cI, 3, .inl (fun _ => 0))), (q1, .inl (cI, 3, .inl (fun _ => 0))), (q2, .inl (cI, 3, .inl (fun _ => 0))), (q3, .inl (cI, 120, .inl (fun _ => 0))), (q4, .inl (cI, 120, .inl (fun _ => 0))), (q5, .inl (cI, 120, .inl (fun _ => 0))), (q6, .inl (cI, 120, .inl (fun _ => 0))), (q7, .inl (cI, 120, .inl (fun _ => 0))), (q8, .inl (cI, 192, .inl (fun _ => 0))), (q9, .inl (cI, 4225, .inl (fun _ => 0)))]) C10 hini dX2_init_80 rfl 0 9 tyX2 tyX2_ok nmX2 rfl rfl hinM (by decide) (by decide +kernel) rfl rfl (by decide +kernel) rfl rfl (Nat.le_of_ble_eq_true rfl) rfl ?_
  refine j_aload_n (pc' := 84) C10 dX2_init_83 rfl rfl ?_
  refine j_iconst (pc' := 85) C10 dX2_init_84 rfl (-1) (by decide) ?_
  refine j_put (cells := 10) (slots := 5026) (pc' := 88) (ty := .int) (ws' := [(h0, .inr (2, [.ref q0, .ref q1, .ref q2, .ref q3, .ref q4, .ref q5, .ref q6, .ref q7, .ref q8, .ref q9, .int (-1), .null])), (q0, .inl (cI, 3, .inl (fun _ => 0))), (q1, .inl (cI, 3, .inl (fun _ => 0))), (q2, .inl (cI, 3, .inl (fun _ => 0))), (q3, .inl (cI, 120, .inl (fun _ => 0))), (q4, .inl (cI, 120, .inl (fun _ => 0))), (q5, .inl (cI, 120, .inl (fun _ => 0))), (q6, .inl (cI, 120, .inl (fun _ => 0))), (q7, .inl (cI, 120, .inl (fun _ => 0))), (q8, .inl (cI, 192, .inl (fun _ => 0))), (q9, .inl (cI, 4225, .inl (fun _ => 0)))]) C10 dX2_init_85 rfl 0 10 tyX2 tyX2_ok nmX2 rfl rfl hinM (by decide) (by decide +kernel) rfl (by decide +kernel) (vp_nar_int _) rfl (Nat.le_of_ble_eq_true rfl) rfl ?_
  refine j_aload_n (pc' := 89) C10 dX2_init_88 rfl rfl ?_
  refine j_sipush (pc' := 92) C10 dX2_init_89 rfl 195 (by decide) ?_
  refine j_newa (pc' := 94) C10 dX2_init_92 rfl (by decide +kernel) 195 (by decide) (by decide) (by decide) (by decide) (fun q11 => ?_)
  have C11 := C.more (k1 := 11) (k2 := 5221) (by decide) (by decide)
  refine j_putF (cells := 11) (slots := 5221) (pc' := 97) (ty := .array .int) (ws' := [(h0, .inr (2, [.ref q0, .ref q1, .ref q2, .ref q3, .ref q4, .ref q5, .ref q6, .ref q7, .ref q8, .ref q9, .int (-1), .ref q11])), (q0, .inl (cI, 3, .inl (fun _ => 0))), (q1, .inl (cI, 3, .inl (fun _ => 0))), (q2, .inl (cI, 3, .inl (fun _ => 0))), (q3, .inl (cI, 120, .inl (fun _ => 0))), (q4, .inl (cI, 120, .inl (fun _ => 0))), (q5, .inl (cI, 120, .inl (fun _ => 0))), (q6, .inl (cI, 120, .inl (fun _ => 0))), (q7, .inl (cI, 120, .inl (fun _ => 0))), (q8, .inl (cI, 192, .inl (fun _ => 0))), (q9, .inl (cI, 4225, .inl (fun _ => 0))), (q11, .inl (cI, 195, .inl (fun _ => 0)))]) C11 hini dX2_init_94 rfl 0 11 tyX2 tyX2_ok nmX2 rfl rfl hinM (by decide) (by decide +kernel) rfl rfl (by decide +kernel) rfl rfl (Nat.le_of_ble_eq_true rfl) rfl ?_
  refine j_iconst (pc' := 98) C11 dX2_init_97 rfl 0 (by decide) ?_
  refine j_istore_n (pc' := 99) C11 dX2_init_98 rfl (by decide) rfl ?_
  refine j_iload_n (pc' := 100) C11 dX2_init_99 rfl rfl ?_
  refine j_iconst (pc' := 101) C11 dX2_init_100 rfl 3 (by decide) ?_
  refine j_icmp_ge (tgt := 118) (pc' := 104) C11 dX2_init_101 (by decide) rfl (fun h => absurd h (by decide)) (fun _ => ?_)
  refine j_aload_n (pc' := 105) C11 dX2_init_104 rfl rfl ?_
  refine j_get (pc' := 108) (Cn := RX2) (T := TX2) (N := 12) C11 dX2_init_105 rfl 0 2 rfl rfl hinM (by decide) (by decide +kernel) rfl ?_
  refine j_iload_n (pc' := 109) C11 dX2_init_108 rfl rfl ?_
  refine j_bipush (pc' := 111) C11 dX2_init_109 rfl 40 (by decide) ?_
  refine j_astN (pc' := 112) (len := 3) (f := fun _ => 0) (ws' := [(h0, .inr (2, [.ref q0, .ref q1, .ref q2, .ref q3, .ref q4, .ref q5, .ref q6, .ref q7, .ref q8, .ref q9, .int (-1), .ref q11])), (q0, .inl (cI, 3, .inl (fun _ => 0))), (q1, .inl (cI, 3, .inl (fun _ => 0))), (q2, .inl (cI, 3, .inl (upd (fun _ => 0) 0 40))), (q3, .inl (cI, 120, .inl (fun _ => 0))), (q4, .inl (cI, 120, .inl (fun _ => 0))), (q5, .inl (cI, 120, .inl (fun _ => 0))), (q6, .inl (cI, 120, .inl (fun _ => 0))), (q7, .inl (cI, 120, .inl (fun _ => 0))), (q8, .inl (cI, 192, .inl (fun _ => 0))), (q9, .inl (cI, 4225, .inl (fun _ => 0))), (q11, .inl (cI, 195, .inl (fun _ => 0)))]) C11 dX2_init_111 rfl 3 rfl 0 (by decide) (by decide) (by decide) rfl ?_
  refine j_iinc (pc' := 115) C11 dX2_init_112 rfl 1 (by decide) rfl (by decide) rfl ?_
  refine j_goto (pc' := 99) C11 dX2_init_115 (by decide) ?_
  refine j_iload_n (pc' := 100) C11 dX2_init_99 rfl rfl ?_
  refine j_iconst (pc' := 101) C11 dX2_init_100 rfl 3 (by decide) ?_
  refine j_icmp_ge (tgt := 118) (pc' := 104) C11 dX2_init_101 (by decide) rfl (fun h => absurd h (by decide)) (fun _ => ?_)
  refine j_aload_n (pc' := 105) C11 dX2_init_104 rfl rfl ?_
  refine j_get (pc' := 108) (Cn := RX2) (T := TX2) (N := 12) C11 dX2_init_105 rfl 0 2 rfl rfl hinM (by decide) (by decide +kernel) rfl ?_
  refine j_iload_n (pc' := 109) C11 dX2_init_108 rfl rfl ?_
  refine j_bipush (pc' := 111) C11 dX2_init_109 rfl 40 (by decide) ?_
  refine j_astN (pc' := 112) (len := 3) (f := upd (fun _ => 0) 0 40) (ws' := [(h0, .inr (2, [.ref q0, .ref q1, .ref q2, .ref q3, .ref q4, .ref q5, .ref q6, .ref q7, .ref q8, .ref q9, .int (-1), .ref q11])), (q0, .inl (cI, 3, .inl (fun _ => 0))), (q1, .inl (cI, 3, .inl (fun _ => 0))), (q2, .inl (cI, 3, .inl (upd (upd (fun _ => 0) 0 40) 1 40))), (q3, .inl (cI, 120, .inl (fun _ => 0))), (q4, .inl (cI, 120, .inl (fun _ => 0))), (q5, .inl (cI, 120, .inl (fun _ => 0))), (q6, .inl (cI, 120, .inl (fun _ => 0))), (q7, .inl (cI, 120, .inl (fun _ => 0))), (q8, .inl (cI, 192, .inl (fun _ => 0))), (q9, .inl (cI, 4225, .inl (fun _ => 0))), (q11, .inl (cI, 195, .inl (fun _ => 0)))]) C11 dX2_init_111 rfl 3 rfl 1 (by decide) (by decide) (by decide) rfl ?_
  refine j_iinc (pc' := 115) C11 dX2_init_112 rfl 1 (by decide) rfl (by decide) rfl ?_
  refine j_goto (pc' := 99) C11 dX2_init_115 (by decide) ?_
  refine j_iload_n (pc' := 100) C11 dX2_init_99 rfl rfl ?_
  refine j_iconst (pc' := 101) C11 dX2_init_100 rfl 3 (by decide) ?_
  refine j_icmp_ge (tgt := 118) (pc' := 104) C11 dX2_init_101 (by decide) rfl (fun h => absurd h (by decide)) (fun _ => ?_)
  refine j_aload_n (pc' := 105) C11 dX2_init_104 rfl rfl ?_
  refine j_get (pc' := 108) (Cn := RX2) (T := TX2) (N := 12) C11 dX2_init_105 rfl 0 2 rfl rfl hinM (by decide) (by decide +kernel) rfl ?_
  refine j_iload_n (pc' := 109) C11 dX2_init_108 rfl rfl ?_
  refine j_bipush (pc' := 111) C11 dX2_init_109 rfl 40 (by decide) ?_
  refine j_astN (pc' := 112) (len := 3) (f := upd (upd (fun _ => 0) 0 40) 1 40) (ws' := [(h0, .inr (2, [.ref q0, .ref q1, .ref q2, .ref q3, .ref q4, .ref q5, .ref q6, .ref q7, .ref q8, .ref q9, .int (-1), .ref q11])), (q0, .inl (cI, 3, .inl (fun _ => 0))), (q1, .inl (cI, 3, .inl (fun _ => 0))), (q2, .inl (cI, 3, .inl (upd (upd (upd (fun _ => 0) 0 40) 1 40) 2 40))), (q3, .inl (cI, 120, .inl (fun _ => 0))), (q4, .inl (cI, 120, .inl (fun _ => 0))), (q5, .inl (cI, 120, .inl (fun _ => 0))), (q6, .inl (cI, 120, .inl (fun _ => 0))), (q7, .inl (cI, 120, .inl (fun _ => 0))), (q8, .inl (cI, 192, .inl (fun _ => 0))), (q9, .inl (cI, 4225, .inl (fun _ => 0))), (q11, .inl (cI, 195, .inl (fun _ => 0)))]) C11 dX2_init_111 rfl 3 rfl 2 (by decide) (by decide) (by decide) rfl ?_
  refine j_iinc (pc' := 115) C11 dX2_init_112 rfl 1 (by decide) rfl (by decide) rfl ?_
  refine j_goto (pc' := 99) C11 dX2_init_115 (by decide) ?_
  refine j_iload_n (pc' := 100) C11 dX2_init_99 rfl rfl ?_
  refine j_iconst (pc' := 101) C11 dX2_init_100 rfl 3 (by decide) ?_
  refine j_icmp_ge (tgt := 118) (pc' := 104) C11 dX2_init_101 (by decide) rfl (fun _ => ?_) (fun h => absurd (by decide) h)
  refine j_perm (ws' := wM cI (fun k => [q0, q1, q2, q3, q4, q5, q6, q7, q8, q9, h0, q11].getD k 0) m0M) [1, 2, 3, 4, 5, 6, 7, 8, 9, 10, 0, 11] (by decide) rfl ?_
  exact j_cret (wf := fun B : Nat → Nat => wM cI B m0M) (fun k => [q0, q1, q2, q3, q4, q5, q6, q7, q8, q9, h0, q11].getD k 0) C11 dX2_init_118 rfl
def XC (U : State) : Prop := va_AO "CountLearner$Table" U ∧ va_Nw (.methodLinkNest RX1 15 yX0_init "CountLearner") U
theorem XC_b (a : Array Value) (U : State) (g : JFrame) (mk : MethodId) (h : XC U) : XC (U.calling g mk a) := ⟨va_AO.moved (u := U) (U := U.calling g mk a) (Vm.Alike.refl U.vm) h.1, va_Nw.same rfl rfl h.2⟩
theorem XC_w {s : State} (h : XC s) (U : State) (hW : s.WarmedH U.vm) : XC U := ⟨va_AO.moved hW.alike h.1, va_Nw.warmM hW h.2⟩
theorem rng_app (w : va_W) (x : Nat × va_E) : (List.range w.length).map (fun i => (w ++ [x])[i]?) = w.map some := by
  rw [← rng_self w]
  apply List.map_congr_left
  intro i hi
  rw [List.getElem?_append_left (List.mem_range.mp hi)]
theorem row_sw {D : va_G} {cO : ClassId} {ta : Nat} {f g : Nat → Option Nat} (hfg : ∀ j, j < 3 → f j = g j) {H : Heap} (h : va_at D vwCl (ta, .inl (cO, 3, .inr (.inr (.inr (.inr f))))) H) : va_at D vwCl (ta, .inl (cO, 3, .inr (.inr (.inr (.inr g))))) H := by
  have e1 : arrV cO 3 (fun j => va_rf (f j)) = arrV cO 3 (fun j => va_rf (g j)) := by
    unfold arrV
    congr 2
    funext j
    show va_rf (f j.val) = va_rf (g j.val)
    rw [hfg j.val j.isLt]
  show H[ta]? = some (vp_cell cO (3, .inr (.inr (.inr (.inr g)))))
  rw [vp_cell_q, ← e1]
  exact h
set_option maxRecDepth 100000 in
set_option maxHeartbeats 4000000 in
theorem xi_step {p : Program} {l : Launch} {e : Env} {s : State} {m : MethodId} {args : Array Value} {below : List Frame} {meth : Method} {c : Code} {cells slots : Nat} {Q : State → Prop} {D : va_G} {A : Nat → Prop} {cI cO : ClassId} {ws : va_W} {ao ta i : Nat} {f : Nat → Option Nat} (C : Cx p (rmC 2 31 1422) s m args meth c cells slots 2 D A cX1_init RX1 wsX1_init none cI cO) (hX : XC s) (hi : i < 3) (h0 : ws[0]? = some (ao, .inr (1, [.ref ta]))) (h1 : ws[1]? = some (ta, .inl (cO, 3, .inr (.inr (.inr (.inr f)))))) (hcl : cells + 10 ≤ 31) (hsl : slots + 473 ≤ 1422)
    (kk : ∀ B : Nat → Nat, J p l e (rmC 2 31 1422) s m args below meth c (cells + 10) (slots + 473) Q 2 D A 14 [some (.ref ao), some (.int (nI (i + 1)))] [] (ws.set 1 (ta, .inl (cO, 3, .inr (.inr (.inr (.inr (va_up f i (some (B 0)))))))) ++ wT cI B t0T)) : J p l e (rmC 2 31 1422) s m args below meth c cells slots Q 2 D A 14 [some (.ref ao), some (.int (nI i))] [] ws := by
  have hinT : ∀ w ∈ wsX00, w ∈ wsX1_init := by decide +kernel
  have hinX : ∀ w ∈ wsX10, w ∈ wsX1_init := by decide +kernel
  refine j_iload_n (pc' := 15) C dX1_init_14 rfl rfl ?_
  refine j_iconst (pc' := 16) C dX1_init_15 rfl 3 (by decide) ?_
  refine j_icmp_ge (tgt := 38) (pc' := 19) C dX1_init_16 (by decide) rfl (fun h => absurd h ?_) (fun _ => ?_)
  · rcases (show i = 0 ∨ i = 1 ∨ i = 2 by omega) with rfl | rfl | rfl <;> decide
  refine j_aload_n (pc' := 20) C dX1_init_19 rfl rfl ?_
  refine j_get (pc' := 23) (Cn := RX1) (T := TX1) (N := 1) C dX1_init_20 rfl 0 0 h0 rfl hinX (by decide) (by decide +kernel) rfl ?_
  refine j_iload_n (pc' := 24) C dX1_init_23 rfl rfl ?_
  refine j_new (pc' := 27) (ci := 0) (Cn := RX0) (T := TX0) (N := 14) C dX1_init_24 rfl tyX0 tyX0_ok rfl hinT (by decide +kernel) (by decide +kernel) (by decide +kernel) [.int 0, .int 0, .int 0, .null, .null, .null, .null, .null, .null, .null, .null, .null, .int 0, .int 0] (by decide) (by show _ ≤ 31; omega) (by show _ ≤ 1422; omega) (fun q => ?_)
  have C1 := C.more (k1 := cells + 1) (k2 := slots + 14) (by show _ ≤ 31; omega) (by show _ ≤ 1422; omega)
  refine j_dup (pc' := 28) C1 dX1_init_27 rfl rfl ?_
  have hlen : 1 < ws.length := (List.getElem?_eq_some_iff.mp h1).1
  refine j_callIN (pc' := 31) (wr := ws) C1 (c_Tinit l D cI cO q) ggX1_init_X0_init rfl (by decide +kernel) hX.2 (by decide +kernel) rfl (by decide +kernel) (by decide) rfl (Nat.le_of_ble_eq_true rfl) (fun _ _ _ _ _ => trivial) (fun _ _ => trivial) [ws.length] (List.range ws.length) ?_ (rng_app ws _) rfl (nd_range _) (fun j hj h => ?_) dX1_init_28 rfl (by show _ ≤ 31; omega) (by show _ ≤ 1422; omega) (fun B hB => ?_)
  · simp
  · have := List.mem_range.mp hj
    rw [List.mem_singleton] at h
    omega
  have hB : B 0 = q := hB
  subst hB
  have C2 := C.more (k1 := cells + 1 + 9) (k2 := slots + 14 + 459) (by show _ ≤ 31; omega) (by show _ ≤ 1422; omega)
  refine j_astq (pc' := 32) (len := 3) (f := f) (vs := fldT B t0T) (ws' := ws.set 1 (ta, .inl (cO, 3, .inr (.inr (.inr (.inr (va_up f i (some (B 0)))))))) ++ wT cI B t0T) C2 dX1_init_31 rfl 1 ws.length ?_ ?_ (vp_in_nI hi (by decide)) ?_ ?_
  · rw [List.getElem?_append_left hlen]
    exact h1
  · rw [List.getElem?_append_right (Nat.le_refl _), Nat.sub_self]
    rfl
  · rw [nI_clamp (by omega), List.set_append_left _ _ hlen]
  refine j_iinc (pc' := 35) C2 dX1_init_32 rfl 1 (by decide) rfl (by decide) rfl ?_
  refine j_goto (pc' := 14) C2 dX1_init_35 (by decide) ?_
  have := kk B
  rw [show nI (i + 1) = nI i + 1 from (nI_1 i).symm] at this
  exact this
set_option maxRecDepth 100000 in
set_option maxHeartbeats 4000000 in
theorem c_Xinit (l : Launch) (D : va_G) (cI cO : ClassId) (ao : Nat) : Kc l yX1_init wsX1_init 2 31 1422 [(ao, .inr (1, [.null]))] (fun u : Nat × (Nat → Nat → Nat) => wX cI cO ao u.1 u.2 (fun _ => t0T)) D cI cO XC [.ref ao] (fun _ => True) := by
  refine Kc_of (cc := cX1_init) (n := 2) rfl (by decide +kernel) rfl (Nat.le_of_ble_eq_true rfl) rfl [some (.ref ao), none] rfl ?_
  intro p e s m args below meth c A C hini hX
  have hinX : ∀ w ∈ wsX10, w ∈ wsX1_init := by decide +kernel
  refine j_aload_n (pc' := 1) C dX1_init_0 rfl rfl ?_
  refine j_objInit (pc' := 4) C dX1_init_1 rfl (by decide +kernel) (by decide +kernel) (by decide +kernel) (by decide) (by decide) ?_
  refine j_aload_n (pc' := 5) C dX1_init_4 rfl rfl ?_
  refine j_iconst (pc' := 6) C dX1_init_5 rfl 3 (by decide) ?_
  refine j_newq (pc' := 9) C dX1_init_6 rfl (by decide +kernel) hX.1 3 (by decide) (by decide) (by decide) (by decide) (fun ta => ?_)
  have C1 := C.more (k1 := 1) (k2 := 3) (by decide) (by decide)
  refine j_putF (cells := 1) (slots := 3) (pc' := 12) (ty := .array (.object "CountLearner$Table")) (ws' := [(ao, .inr (1, [.ref ta])), (ta, .inl (cO, 3, .inr (.inr (.inr (.inr (fun _ => none))))))]) C1 hini dX1_init_9 rfl 0 0 tyX1 tyX1_ok nmX1 rfl rfl hinX (by decide) (by decide +kernel) rfl rfl (by decide +kernel) rfl rfl (by decide) rfl ?_
  refine j_iconst (pc' := 13) C1 dX1_init_12 rfl 0 (by decide) ?_
  refine j_istore_n (pc' := 14) C1 dX1_init_13 rfl (by decide) rfl ?_
  refine xi_step (i := 0) C1 hX (by decide) rfl rfl (by decide) (by decide) (fun B0 => ?_)
  have C2 := C.more (k1 := 11) (k2 := 476) (by decide) (by decide)
  refine xi_step (cells := 11) (slots := 476) (i := 1) C2 hX (by decide) rfl rfl (by decide) (by decide) (fun B1 => ?_)
  have C3 := C.more (k1 := 21) (k2 := 949) (by decide) (by decide)
  refine xi_step (cells := 21) (slots := 949) (i := 2) C3 hX (by decide) rfl rfl (by decide) (by decide) (fun B2 => ?_)
  have C4 := C.more (k1 := 31) (k2 := 1422) (by decide) (by decide)
  refine j_iload_n (cells := 31) (slots := 1422) (pc' := 15) C4 dX1_init_14 rfl rfl ?_
  refine j_iconst (pc' := 16) C4 dX1_init_15 rfl 3 (by decide) ?_
  refine j_icmp_ge (tgt := 38) (pc' := 19) C4 dX1_init_16 (by decide) rfl (fun _ => ?_) (fun h => absurd (by decide) h)
  refine j_eqw (ws' := wX cI cO ao ta (fun j => match j with | 0 => B0 | 1 => B1 | _ => B2) (fun _ => t0T)) (fun H hP => ?_) rfl ?_
  · intro k q hk
    match k, hk with
    | 0, hk => exact hP 0 q hk
    | 1, hk =>
      cases hk
      refine row_sw (fun j hj => ?_) (hP 1 _ rfl)
      rcases (show j = 0 ∨ j = 1 ∨ j = 2 by omega) with rfl | rfl | rfl <;> rfl
    | k + 2, hk => exact hP (k + 2) q hk
  exact j_cret (wf := fun u : Nat × (Nat → Nat → Nat) => wX cI cO ao u.1 u.2 (fun _ => t0T)) (ta, fun j => match j with | 0 => B0 | 1 => B1 | _ => B2) C4 dX1_init_38 trivial
